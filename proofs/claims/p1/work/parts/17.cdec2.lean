theorem dJu_init_0 : decode cJu_init 0 = .ok (.aload_n 0, 1) := by decide +kernel
theorem dJu_init_1 : decode cJu_init 1 = .ok (.invokespecial 3, 3) := by decide +kernel
theorem dJu_init_4 : decode cJu_init 4 = .ok (.aload_n 0, 1) := by decide +kernel
theorem dJu_init_5 : decode cJu_init 5 = .ok (.new 9, 3) := by decide +kernel
theorem dJu_init_8 : decode cJu_init 8 = .ok (.dup, 1) := by decide +kernel
theorem dJu_init_9 : decode cJu_init 9 = .ok (.invokespecial 11, 3) := by decide +kernel
theorem dJu_init_12 : decode cJu_init 12 = .ok (.putfield 12, 3) := by decide +kernel
theorem dJu_init_15 : decode cJu_init 15 = .ok (.aload_n 0, 1) := by decide +kernel
theorem dJu_init_16 : decode cJu_init 16 = .ok (.sipush 128, 3) := by decide +kernel
theorem dJu_init_19 : decode cJu_init 19 = .ok (.newarray .int, 2) := by decide +kernel
theorem dJu_init_21 : decode cJu_init 21 = .ok (.putfield 18, 3) := by decide +kernel
theorem dJu_init_24 : decode cJu_init 24 = .ok (.aload_n 0, 1) := by decide +kernel
theorem dJu_init_25 : decode cJu_init 25 = .ok (.sipush 128, 3) := by decide +kernel
theorem dJu_init_28 : decode cJu_init 28 = .ok (.newarray .int, 2) := by decide +kernel
theorem dJu_init_30 : decode cJu_init 30 = .ok (.putfield 22, 3) := by decide +kernel
theorem dJu_init_33 : decode cJu_init 33 = .ok (.aload_n 0, 1) := by decide +kernel
theorem dJu_init_34 : decode cJu_init 34 = .ok (.bipush 13, 2) := by decide +kernel
theorem dJu_init_36 : decode cJu_init 36 = .ok (.newarray .int, 2) := by decide +kernel
theorem dJu_init_38 : decode cJu_init 38 = .ok (.putfield 27, 3) := by decide +kernel
theorem dJu_init_41 : decode cJu_init 41 = .ok (.aload_n 0, 1) := by decide +kernel
theorem dJu_init_42 : decode cJu_init 42 = .ok (.aload_n 1, 1) := by decide +kernel
theorem dJu_init_43 : decode cJu_init 43 = .ok (.putfield 30, 3) := by decide +kernel
theorem dJu_init_46 : decode cJu_init 46 = .ok (.return_, 1) := by decide +kernel
theorem dKd_init_0 : decode cKd_init 0 = .ok (.aload_n 0, 1) := by decide +kernel
theorem dKd_init_1 : decode cKd_init 1 = .ok (.invokespecial 1, 3) := by decide +kernel
theorem dKd_init_4 : decode cKd_init 4 = .ok (.aload_n 0, 1) := by decide +kernel
theorem dKd_init_5 : decode cKd_init 5 = .ok (.new 7, 3) := by decide +kernel
theorem dKd_init_8 : decode cKd_init 8 = .ok (.dup, 1) := by decide +kernel
theorem dKd_init_9 : decode cKd_init 9 = .ok (.bipush 8, 2) := by decide +kernel
theorem dKd_init_11 : decode cKd_init 11 = .ok (.invokespecial 11, 3) := by decide +kernel
theorem dKd_init_14 : decode cKd_init 14 = .ok (.putfield 14, 3) := by decide +kernel
theorem dKd_init_17 : decode cKd_init 17 = .ok (.aload_n 0, 1) := by decide +kernel
theorem dKd_init_18 : decode cKd_init 18 = .ok (.new 7, 3) := by decide +kernel
theorem dKd_init_21 : decode cKd_init 21 = .ok (.dup, 1) := by decide +kernel
theorem dKd_init_22 : decode cKd_init 22 = .ok (.iconst 3, 1) := by decide +kernel
theorem dKd_init_23 : decode cKd_init 23 = .ok (.invokespecial 11, 3) := by decide +kernel
theorem dKd_init_26 : decode cKd_init 26 = .ok (.putfield 20, 3) := by decide +kernel
theorem dKd_init_29 : decode cKd_init 29 = .ok (.aload_n 0, 1) := by decide +kernel
theorem dKd_init_30 : decode cKd_init 30 = .ok (.new 7, 3) := by decide +kernel
theorem dKd_init_33 : decode cKd_init 33 = .ok (.dup, 1) := by decide +kernel
theorem dKd_init_34 : decode cKd_init 34 = .ok (.bipush 12, 2) := by decide +kernel
theorem dKd_init_36 : decode cKd_init 36 = .ok (.invokespecial 11, 3) := by decide +kernel
theorem dKd_init_39 : decode cKd_init 39 = .ok (.putfield 23, 3) := by decide +kernel
theorem dKd_init_42 : decode cKd_init 42 = .ok (.aload_n 0, 1) := by decide +kernel
theorem dKd_init_43 : decode cKd_init 43 = .ok (.new 7, 3) := by decide +kernel
theorem dKd_init_46 : decode cKd_init 46 = .ok (.dup, 1) := by decide +kernel
theorem dKd_init_47 : decode cKd_init 47 = .ok (.bipush 10, 2) := by decide +kernel
theorem dKd_init_49 : decode cKd_init 49 = .ok (.invokespecial 11, 3) := by decide +kernel
theorem dKd_init_52 : decode cKd_init 52 = .ok (.putfield 26, 3) := by decide +kernel
theorem dKd_init_55 : decode cKd_init 55 = .ok (.aload_n 0, 1) := by decide +kernel
theorem dKd_init_56 : decode cKd_init 56 = .ok (.bipush 8, 2) := by decide +kernel
theorem dKd_init_58 : decode cKd_init 58 = .ok (.newarray .int, 2) := by decide +kernel
theorem dKd_init_60 : decode cKd_init 60 = .ok (.putfield 29, 3) := by decide +kernel
theorem dKd_init_63 : decode cKd_init 63 = .ok (.aload_n 0, 1) := by decide +kernel
theorem dKd_init_64 : decode cKd_init 64 = .ok (.bipush 8, 2) := by decide +kernel
theorem dKd_init_66 : decode cKd_init 66 = .ok (.newarray .int, 2) := by decide +kernel
theorem dKd_init_68 : decode cKd_init 68 = .ok (.putfield 33, 3) := by decide +kernel
theorem dKd_init_71 : decode cKd_init 71 = .ok (.aload_n 0, 1) := by decide +kernel
theorem dKd_init_72 : decode cKd_init 72 = .ok (.bipush 8, 2) := by decide +kernel
theorem dKd_init_74 : decode cKd_init 74 = .ok (.newarray .int, 2) := by decide +kernel
theorem dKd_init_76 : decode cKd_init 76 = .ok (.putfield 36, 3) := by decide +kernel
theorem dKd_init_79 : decode cKd_init 79 = .ok (.aload_n 0, 1) := by decide +kernel
theorem dKd_init_80 : decode cKd_init 80 = .ok (.bipush 10, 2) := by decide +kernel
theorem dKd_init_82 : decode cKd_init 82 = .ok (.newarray .int, 2) := by decide +kernel
theorem dKd_init_84 : decode cKd_init 84 = .ok (.putfield 39, 3) := by decide +kernel
theorem dKd_init_87 : decode cKd_init 87 = .ok (.return_, 1) := by decide +kernel
theorem dNa_init_0 : decode cNa_init 0 = .ok (.aload_n 0, 1) := by decide +kernel
theorem dNa_init_1 : decode cNa_init 1 = .ok (.invokespecial 3, 3) := by decide +kernel
theorem dNa_init_4 : decode cNa_init 4 = .ok (.aload_n 0, 1) := by decide +kernel
theorem dNa_init_5 : decode cNa_init 5 = .ok (.iload_n 1, 1) := by decide +kernel
theorem dNa_init_6 : decode cNa_init 6 = .ok (.newarray .long, 2) := by decide +kernel
theorem dNa_init_8 : decode cNa_init 8 = .ok (.putfield 9, 3) := by decide +kernel
theorem dNa_init_11 : decode cNa_init 11 = .ok (.aload_n 0, 1) := by decide +kernel
theorem dNa_init_12 : decode cNa_init 12 = .ok (.iload_n 1, 1) := by decide +kernel
theorem dNa_init_13 : decode cNa_init 13 = .ok (.newarray .int, 2) := by decide +kernel
theorem dNa_init_15 : decode cNa_init 15 = .ok (.putfield 15, 3) := by decide +kernel
theorem dNa_init_18 : decode cNa_init 18 = .ok (.return_, 1) := by decide +kernel
theorem dPa_init_0 : decode cPa_init 0 = .ok (.aload_n 0, 1) := by decide +kernel
theorem dPa_init_1 : decode cPa_init 1 = .ok (.invokespecial 7, 3) := by decide +kernel
theorem dPa_init_4 : decode cPa_init 4 = .ok (.aload_n 0, 1) := by decide +kernel
theorem dPa_init_5 : decode cPa_init 5 = .ok (.new 1, 3) := by decide +kernel
theorem dPa_init_8 : decode cPa_init 8 = .ok (.dup, 1) := by decide +kernel
theorem dPa_init_9 : decode cPa_init 9 = .ok (.invokespecial 13, 3) := by decide +kernel
theorem dPa_init_12 : decode cPa_init 12 = .ok (.putfield 14, 3) := by decide +kernel
theorem dPa_init_15 : decode cPa_init 15 = .ok (.aload_n 0, 1) := by decide +kernel
theorem dPa_init_16 : decode cPa_init 16 = .ok (.aload_n 1, 1) := by decide +kernel
theorem dPa_init_17 : decode cPa_init 17 = .ok (.putfield 18, 3) := by decide +kernel
theorem dPa_init_20 : decode cPa_init 20 = .ok (.return_, 1) := by decide +kernel
theorem dPa_parse_0 : decode cPa_parse 0 = .ok (.aload_n 0, 1) := by decide +kernel
theorem dPa_parse_1 : decode cPa_parse 1 = .ok (.aload_n 1, 1) := by decide +kernel
theorem dPa_parse_2 : decode cPa_parse 2 = .ok (.putfield 22, 3) := by decide +kernel
theorem dPa_parse_5 : decode cPa_parse 5 = .ok (.aload_n 0, 1) := by decide +kernel
theorem dPa_parse_6 : decode cPa_parse 6 = .ok (.getfield 22, 3) := by decide +kernel
theorem dPa_parse_9 : decode cPa_parse 9 = .ok (.invokevirtual 26, 3) := by decide +kernel
theorem dPa_parse_12 : decode cPa_parse 12 = .ok (.aload_n 0, 1) := by decide +kernel
theorem dPa_parse_13 : decode cPa_parse 13 = .ok (.iconst 0, 1) := by decide +kernel
theorem dPa_parse_14 : decode cPa_parse 14 = .ok (.putfield 31, 3) := by decide +kernel
theorem dPa_parse_17 : decode cPa_parse 17 = .ok (.iconst 0, 1) := by decide +kernel
theorem dPa_parse_18 : decode cPa_parse 18 = .ok (.istore_n 2, 1) := by decide +kernel
theorem dPa_parse_19 : decode cPa_parse 19 = .ok (.iload_n 2, 1) := by decide +kernel
theorem dPa_parse_20 : decode cPa_parse 20 = .ok (.sipush 1200, 3) := by decide +kernel
theorem dPa_parse_23 : decode cPa_parse 23 = .ok (.if_icmp .gt 280, 3) := by decide +kernel
theorem dPa_parse_26 : decode cPa_parse 26 = .ok (.aload_n 0, 1) := by decide +kernel
theorem dPa_parse_27 : decode cPa_parse 27 = .ok (.getfield 18, 3) := by decide +kernel
theorem dPa_parse_30 : decode cPa_parse 30 = .ok (.getfield 37, 3) := by decide +kernel
theorem dPa_parse_33 : decode cPa_parse 33 = .ok (.ifCond .ne 270, 3) := by decide +kernel
theorem dPa_parse_36 : decode cPa_parse 36 = .ok (.aload_n 0, 1) := by decide +kernel
theorem dPa_parse_37 : decode cPa_parse 37 = .ok (.iload_n 2, 1) := by decide +kernel
theorem dPa_parse_38 : decode cPa_parse 38 = .ok (.invokevirtual 40, 3) := by decide +kernel
theorem dPa_parse_41 : decode cPa_parse 41 = .ok (.ifCond .ne 262, 3) := by decide +kernel
theorem dPa_parse_44 : decode cPa_parse 44 = .ok (.aload_n 0, 1) := by decide +kernel
theorem dPa_parse_45 : decode cPa_parse 45 = .ok (.getfield 18, 3) := by decide +kernel
theorem dPa_parse_48 : decode cPa_parse 48 = .ok (.invokevirtual 44, 3) := by decide +kernel
theorem dPa_parse_51 : decode cPa_parse 51 = .ok (.istore_n 3, 1) := by decide +kernel
theorem dPa_parse_52 : decode cPa_parse 52 = .ok (.aload_n 0, 1) := by decide +kernel
theorem dPa_parse_53 : decode cPa_parse 53 = .ok (.iload_n 3, 1) := by decide +kernel
theorem dPa_parse_54 : decode cPa_parse 54 = .ok (.invokevirtual 48, 3) := by decide +kernel
theorem dPa_parse_57 : decode cPa_parse 57 = .ok (.ifCond .ne 18, 3) := by decide +kernel
theorem dPa_parse_60 : decode cPa_parse 60 = .ok (.aload_n 0, 1) := by decide +kernel
theorem dPa_parse_61 : decode cPa_parse 61 = .ok (.getfield 18, 3) := by decide +kernel
theorem dPa_parse_64 : decode cPa_parse 64 = .ok (.iconst 1, 1) := by decide +kernel
theorem dPa_parse_65 : decode cPa_parse 65 = .ok (.aload_n 0, 1) := by decide +kernel
theorem dPa_parse_66 : decode cPa_parse 66 = .ok (.getfield 18, 3) := by decide +kernel
theorem dPa_parse_69 : decode cPa_parse 69 = .ok (.getfield 51, 3) := by decide +kernel
theorem dPa_parse_72 : decode cPa_parse 72 = .ok (.invokevirtual 54, 3) := by decide +kernel
theorem dPa_parse_75 : decode cPa_parse 75 = .ok (.aload_n 0, 1) := by decide +kernel
theorem dPa_parse_76 : decode cPa_parse 76 = .ok (.getfield 18, 3) := by decide +kernel
theorem dPa_parse_79 : decode cPa_parse 79 = .ok (.iload_n 3, 1) := by decide +kernel
theorem dPa_parse_80 : decode cPa_parse 80 = .ok (.invokevirtual 58, 3) := by decide +kernel
theorem dPa_parse_83 : decode cPa_parse 83 = .ok (.pop, 1) := by decide +kernel
theorem dPa_parse_84 : decode cPa_parse 84 = .ok (.aload_n 0, 1) := by decide +kernel
theorem dPa_parse_85 : decode cPa_parse 85 = .ok (.getfield 18, 3) := by decide +kernel
theorem dPa_parse_88 : decode cPa_parse 88 = .ok (.getfield 37, 3) := by decide +kernel
theorem dPa_parse_91 : decode cPa_parse 91 = .ok (.ifCond .eq 7, 3) := by decide +kernel
theorem dPa_parse_94 : decode cPa_parse 94 = .ok (.iconst 1, 1) := by decide +kernel
theorem dPa_parse_95 : decode cPa_parse 95 = .ok (.goto 4, 3) := by decide +kernel
theorem dPa_parse_98 : decode cPa_parse 98 = .ok (.iload_n 3, 1) := by decide +kernel
theorem dPa_parse_99 : decode cPa_parse 99 = .ok (.tableswitch 198 40 60 #[97, 104, 111, 118, 125, 149, 156, 163, 170, 177, 184, 198, 198, 198, 198, 198, 198, 198, 198, 198, 191], 97) := by decide +kernel
theorem dPa_parse_196 : decode cPa_parse 196 = .ok (.aload_n 0, 1) := by decide +kernel
theorem dPa_parse_197 : decode cPa_parse 197 = .ok (.invokevirtual 61, 3) := by decide +kernel
theorem dPa_parse_200 : decode cPa_parse 200 = .ok (.goto 97, 3) := by decide +kernel
theorem dPa_parse_203 : decode cPa_parse 203 = .ok (.aload_n 0, 1) := by decide +kernel
theorem dPa_parse_204 : decode cPa_parse 204 = .ok (.invokevirtual 64, 3) := by decide +kernel
theorem dPa_parse_207 : decode cPa_parse 207 = .ok (.goto 90, 3) := by decide +kernel
theorem dPa_parse_210 : decode cPa_parse 210 = .ok (.aload_n 0, 1) := by decide +kernel
theorem dPa_parse_211 : decode cPa_parse 211 = .ok (.invokevirtual 67, 3) := by decide +kernel
theorem dPa_parse_214 : decode cPa_parse 214 = .ok (.goto 83, 3) := by decide +kernel
theorem dPa_parse_217 : decode cPa_parse 217 = .ok (.aload_n 0, 1) := by decide +kernel
theorem dPa_parse_218 : decode cPa_parse 218 = .ok (.invokevirtual 70, 3) := by decide +kernel
theorem dPa_parse_221 : decode cPa_parse 221 = .ok (.goto 76, 3) := by decide +kernel
theorem dPa_parse_224 : decode cPa_parse 224 = .ok (.aload_n 0, 1) := by decide +kernel
theorem dPa_parse_225 : decode cPa_parse 225 = .ok (.aload_n 0, 1) := by decide +kernel
theorem dPa_parse_226 : decode cPa_parse 226 = .ok (.getfield 14, 3) := by decide +kernel
theorem dPa_parse_229 : decode cPa_parse 229 = .ok (.getfield 73, 3) := by decide +kernel
theorem dPa_parse_232 : decode cPa_parse 232 = .ok (.invokevirtual 77, 3) := by decide +kernel
theorem dPa_parse_235 : decode cPa_parse 235 = .ok (.pop, 1) := by decide +kernel
theorem dPa_parse_236 : decode cPa_parse 236 = .ok (.aload_n 0, 1) := by decide +kernel
theorem dPa_parse_237 : decode cPa_parse 237 = .ok (.getfield 18, 3) := by decide +kernel
theorem dPa_parse_240 : decode cPa_parse 240 = .ok (.bipush 34, 2) := by decide +kernel
theorem dPa_parse_242 : decode cPa_parse 242 = .ok (.invokevirtual 81, 3) := by decide +kernel
theorem dPa_parse_245 : decode cPa_parse 245 = .ok (.goto 52, 3) := by decide +kernel
theorem dPa_parse_248 : decode cPa_parse 248 = .ok (.aload_n 0, 1) := by decide +kernel
theorem dPa_parse_249 : decode cPa_parse 249 = .ok (.invokevirtual 85, 3) := by decide +kernel
theorem dPa_parse_252 : decode cPa_parse 252 = .ok (.goto 45, 3) := by decide +kernel
theorem dPa_parse_255 : decode cPa_parse 255 = .ok (.aload_n 0, 1) := by decide +kernel
theorem dPa_parse_256 : decode cPa_parse 256 = .ok (.invokevirtual 88, 3) := by decide +kernel
theorem dPa_parse_259 : decode cPa_parse 259 = .ok (.goto 38, 3) := by decide +kernel
theorem dPa_parse_262 : decode cPa_parse 262 = .ok (.aload_n 0, 1) := by decide +kernel
theorem dPa_parse_263 : decode cPa_parse 263 = .ok (.invokevirtual 91, 3) := by decide +kernel
theorem dPa_parse_266 : decode cPa_parse 266 = .ok (.goto 31, 3) := by decide +kernel
theorem dPa_parse_269 : decode cPa_parse 269 = .ok (.aload_n 0, 1) := by decide +kernel
theorem dPa_parse_270 : decode cPa_parse 270 = .ok (.invokevirtual 94, 3) := by decide +kernel
theorem dPa_parse_273 : decode cPa_parse 273 = .ok (.goto 24, 3) := by decide +kernel
theorem dPa_parse_276 : decode cPa_parse 276 = .ok (.aload_n 0, 1) := by decide +kernel
theorem dPa_parse_277 : decode cPa_parse 277 = .ok (.invokevirtual 97, 3) := by decide +kernel
theorem dPa_parse_280 : decode cPa_parse 280 = .ok (.goto 17, 3) := by decide +kernel
theorem dPa_parse_283 : decode cPa_parse 283 = .ok (.aload_n 0, 1) := by decide +kernel
theorem dPa_parse_284 : decode cPa_parse 284 = .ok (.invokevirtual 100, 3) := by decide +kernel
theorem dPa_parse_287 : decode cPa_parse 287 = .ok (.goto 10, 3) := by decide +kernel
theorem dPa_parse_290 : decode cPa_parse 290 = .ok (.aload_n 0, 1) := by decide +kernel
theorem dPa_parse_291 : decode cPa_parse 291 = .ok (.invokevirtual 103, 3) := by decide +kernel
theorem dPa_parse_294 : decode cPa_parse 294 = .ok (.goto 3, 3) := by decide +kernel
theorem dPa_parse_297 : decode cPa_parse 297 = .ok (.iinc 2 1, 3) := by decide +kernel
theorem dPa_parse_300 : decode cPa_parse 300 = .ok (.goto (-281), 3) := by decide +kernel
theorem dPa_parse_303 : decode cPa_parse 303 = .ok (.return_, 1) := by decide +kernel
theorem dPa_isOver_0 : decode cPa_isOver 0 = .ok (.iload_n 1, 1) := by decide +kernel
theorem dPa_isOver_1 : decode cPa_isOver 1 = .ok (.ifCond .le 24, 3) := by decide +kernel
theorem dPa_isOver_4 : decode cPa_isOver 4 = .ok (.aload_n 0, 1) := by decide +kernel
theorem dPa_isOver_5 : decode cPa_isOver 5 = .ok (.getfield 31, 3) := by decide +kernel
theorem dPa_isOver_8 : decode cPa_isOver 8 = .ok (.ifCond .ne 17, 3) := by decide +kernel
theorem dPa_isOver_11 : decode cPa_isOver 11 = .ok (.aload_n 0, 1) := by decide +kernel
theorem dPa_isOver_12 : decode cPa_isOver 12 = .ok (.getfield 18, 3) := by decide +kernel
theorem dPa_isOver_15 : decode cPa_isOver 15 = .ok (.invokevirtual 44, 3) := by decide +kernel
theorem dPa_isOver_18 : decode cPa_isOver 18 = .ok (.ifCond .ne 7, 3) := by decide +kernel
theorem dPa_isOver_21 : decode cPa_isOver 21 = .ok (.iconst 1, 1) := by decide +kernel
theorem dPa_isOver_22 : decode cPa_isOver 22 = .ok (.goto 4, 3) := by decide +kernel
theorem dPa_isOver_25 : decode cPa_isOver 25 = .ok (.iconst 0, 1) := by decide +kernel
theorem dPa_isOver_26 : decode cPa_isOver 26 = .ok (.ireturn, 1) := by decide +kernel
theorem dPa_fits_0 : decode cPa_fits 0 = .ok (.aload_n 0, 1) := by decide +kernel
theorem dPa_fits_1 : decode cPa_fits 1 = .ok (.getfield 31, 3) := by decide +kernel
theorem dPa_fits_4 : decode cPa_fits 4 = .ok (.tableswitch 94 0 2 #[28, 52, 76], 28) := by decide +kernel
theorem dPa_fits_32 : decode cPa_fits 32 = .ok (.iload_n 1, 1) := by decide +kernel
theorem dPa_fits_33 : decode cPa_fits 33 = .ok (.bipush 40, 2) := by decide +kernel
theorem dPa_fits_35 : decode cPa_fits 35 = .ok (.if_icmp .eq 15, 3) := by decide +kernel
theorem dPa_fits_38 : decode cPa_fits 38 = .ok (.iload_n 1, 1) := by decide +kernel
theorem dPa_fits_39 : decode cPa_fits 39 = .ok (.bipush 41, 2) := by decide +kernel
theorem dPa_fits_41 : decode cPa_fits 41 = .ok (.if_icmp .eq 9, 3) := by decide +kernel
theorem dPa_fits_44 : decode cPa_fits 44 = .ok (.iload_n 1, 1) := by decide +kernel
theorem dPa_fits_45 : decode cPa_fits 45 = .ok (.bipush 42, 2) := by decide +kernel
theorem dPa_fits_47 : decode cPa_fits 47 = .ok (.if_icmp .ne 7, 3) := by decide +kernel
theorem dPa_fits_50 : decode cPa_fits 50 = .ok (.iconst 1, 1) := by decide +kernel
theorem dPa_fits_51 : decode cPa_fits 51 = .ok (.goto 4, 3) := by decide +kernel
theorem dPa_fits_54 : decode cPa_fits 54 = .ok (.iconst 0, 1) := by decide +kernel
theorem dPa_fits_55 : decode cPa_fits 55 = .ok (.ireturn, 1) := by decide +kernel
theorem dPa_fits_56 : decode cPa_fits 56 = .ok (.iload_n 1, 1) := by decide +kernel
theorem dPa_fits_57 : decode cPa_fits 57 = .ok (.bipush 43, 2) := by decide +kernel
theorem dPa_fits_59 : decode cPa_fits 59 = .ok (.if_icmp .eq 15, 3) := by decide +kernel
theorem dPa_fits_62 : decode cPa_fits 62 = .ok (.iload_n 1, 1) := by decide +kernel
theorem dPa_fits_63 : decode cPa_fits 63 = .ok (.bipush 44, 2) := by decide +kernel
theorem dPa_fits_65 : decode cPa_fits 65 = .ok (.if_icmp .eq 9, 3) := by decide +kernel
theorem dPa_fits_68 : decode cPa_fits 68 = .ok (.iload_n 1, 1) := by decide +kernel
theorem dPa_fits_69 : decode cPa_fits 69 = .ok (.bipush 45, 2) := by decide +kernel
theorem dPa_fits_71 : decode cPa_fits 71 = .ok (.if_icmp .ne 7, 3) := by decide +kernel
theorem dPa_fits_74 : decode cPa_fits 74 = .ok (.iconst 1, 1) := by decide +kernel
theorem dPa_fits_75 : decode cPa_fits 75 = .ok (.goto 4, 3) := by decide +kernel
theorem dPa_fits_78 : decode cPa_fits 78 = .ok (.iconst 0, 1) := by decide +kernel
theorem dPa_fits_79 : decode cPa_fits 79 = .ok (.ireturn, 1) := by decide +kernel
theorem dPa_fits_80 : decode cPa_fits 80 = .ok (.iload_n 1, 1) := by decide +kernel
theorem dPa_fits_81 : decode cPa_fits 81 = .ok (.bipush 46, 2) := by decide +kernel
theorem dPa_fits_83 : decode cPa_fits 83 = .ok (.if_icmp .eq 9, 3) := by decide +kernel
theorem dPa_fits_86 : decode cPa_fits 86 = .ok (.iload_n 1, 1) := by decide +kernel
theorem dPa_fits_87 : decode cPa_fits 87 = .ok (.bipush 60, 2) := by decide +kernel
theorem dPa_fits_89 : decode cPa_fits 89 = .ok (.if_icmp .ne 7, 3) := by decide +kernel
theorem dPa_fits_92 : decode cPa_fits 92 = .ok (.iconst 1, 1) := by decide +kernel
theorem dPa_fits_93 : decode cPa_fits 93 = .ok (.goto 4, 3) := by decide +kernel
theorem dPa_fits_96 : decode cPa_fits 96 = .ok (.iconst 0, 1) := by decide +kernel
theorem dPa_fits_97 : decode cPa_fits 97 = .ok (.ireturn, 1) := by decide +kernel
theorem dPa_fits_98 : decode cPa_fits 98 = .ok (.iload_n 1, 1) := by decide +kernel
theorem dPa_fits_99 : decode cPa_fits 99 = .ok (.bipush 60, 2) := by decide +kernel
theorem dPa_fits_101 : decode cPa_fits 101 = .ok (.if_icmp .eq 15, 3) := by decide +kernel
theorem dPa_fits_104 : decode cPa_fits 104 = .ok (.iload_n 1, 1) := by decide +kernel
theorem dPa_fits_105 : decode cPa_fits 105 = .ok (.bipush 46, 2) := by decide +kernel
theorem dPa_fits_107 : decode cPa_fits 107 = .ok (.if_icmp .lt 13, 3) := by decide +kernel
theorem dPa_fits_110 : decode cPa_fits 110 = .ok (.iload_n 1, 1) := by decide +kernel
theorem dPa_fits_111 : decode cPa_fits 111 = .ok (.bipush 50, 2) := by decide +kernel
theorem dPa_fits_113 : decode cPa_fits 113 = .ok (.if_icmp .gt 7, 3) := by decide +kernel
theorem dPa_fits_116 : decode cPa_fits 116 = .ok (.iconst 1, 1) := by decide +kernel
theorem dPa_fits_117 : decode cPa_fits 117 = .ok (.goto 4, 3) := by decide +kernel
theorem dPa_fits_120 : decode cPa_fits 120 = .ok (.iconst 0, 1) := by decide +kernel
theorem dPa_fits_121 : decode cPa_fits 121 = .ok (.ireturn, 1) := by decide +kernel
theorem dPl_init_0 : decode cPl_init 0 = .ok (.aload_n 0, 1) := by decide +kernel
theorem dPl_init_1 : decode cPl_init 1 = .ok (.invokespecial 7, 3) := by decide +kernel
theorem dPl_init_4 : decode cPl_init 4 = .ok (.aload_n 0, 1) := by decide +kernel
theorem dPl_init_5 : decode cPl_init 5 = .ok (.new 13, 3) := by decide +kernel
theorem dPl_init_8 : decode cPl_init 8 = .ok (.dup, 1) := by decide +kernel
theorem dPl_init_9 : decode cPl_init 9 = .ok (.bipush 20, 2) := by decide +kernel
theorem dPl_init_11 : decode cPl_init 11 = .ok (.invokespecial 15, 3) := by decide +kernel
theorem dPl_init_14 : decode cPl_init 14 = .ok (.putfield 18, 3) := by decide +kernel
theorem dPl_init_17 : decode cPl_init 17 = .ok (.aload_n 0, 1) := by decide +kernel
theorem dPl_init_18 : decode cPl_init 18 = .ok (.new 13, 3) := by decide +kernel
theorem dPl_init_21 : decode cPl_init 21 = .ok (.dup, 1) := by decide +kernel
theorem dPl_init_22 : decode cPl_init 22 = .ok (.bipush 10, 2) := by decide +kernel
theorem dPl_init_24 : decode cPl_init 24 = .ok (.invokespecial 15, 3) := by decide +kernel
theorem dPl_init_27 : decode cPl_init 27 = .ok (.putfield 22, 3) := by decide +kernel
theorem dPl_init_30 : decode cPl_init 30 = .ok (.aload_n 0, 1) := by decide +kernel
theorem dPl_init_31 : decode cPl_init 31 = .ok (.new 13, 3) := by decide +kernel
theorem dPl_init_34 : decode cPl_init 34 = .ok (.dup, 1) := by decide +kernel
theorem dPl_init_35 : decode cPl_init 35 = .ok (.bipush 6, 2) := by decide +kernel
theorem dPl_init_37 : decode cPl_init 37 = .ok (.invokespecial 15, 3) := by decide +kernel
theorem dPl_init_40 : decode cPl_init 40 = .ok (.putfield 25, 3) := by decide +kernel
theorem dPl_init_43 : decode cPl_init 43 = .ok (.aload_n 0, 1) := by decide +kernel
theorem dPl_init_44 : decode cPl_init 44 = .ok (.bipush 6, 2) := by decide +kernel
theorem dPl_init_46 : decode cPl_init 46 = .ok (.anewarray 28, 3) := by decide +kernel
theorem dPl_init_49 : decode cPl_init 49 = .ok (.putfield 30, 3) := by decide +kernel
theorem dPl_init_52 : decode cPl_init 52 = .ok (.aload_n 0, 1) := by decide +kernel
theorem dPl_init_53 : decode cPl_init 53 = .ok (.bipush 80, 2) := by decide +kernel
theorem dPl_init_55 : decode cPl_init 55 = .ok (.newarray .int, 2) := by decide +kernel
theorem dPl_init_57 : decode cPl_init 57 = .ok (.putfield 34, 3) := by decide +kernel
theorem dPl_init_60 : decode cPl_init 60 = .ok (.aload_n 0, 1) := by decide +kernel
theorem dPl_init_61 : decode cPl_init 61 = .ok (.bipush 10, 2) := by decide +kernel
theorem dPl_init_63 : decode cPl_init 63 = .ok (.newarray .int, 2) := by decide +kernel
theorem dPl_init_65 : decode cPl_init 65 = .ok (.putfield 38, 3) := by decide +kernel
theorem dPl_init_68 : decode cPl_init 68 = .ok (.aload_n 0, 1) := by decide +kernel
theorem dPl_init_69 : decode cPl_init 69 = .ok (.bipush 10, 2) := by decide +kernel
theorem dPl_init_71 : decode cPl_init 71 = .ok (.newarray .int, 2) := by decide +kernel
theorem dPl_init_73 : decode cPl_init 73 = .ok (.putfield 41, 3) := by decide +kernel
theorem dPl_init_76 : decode cPl_init 76 = .ok (.aload_n 0, 1) := by decide +kernel
theorem dPl_init_77 : decode cPl_init 77 = .ok (.bipush 10, 2) := by decide +kernel
theorem dPl_init_79 : decode cPl_init 79 = .ok (.newarray .int, 2) := by decide +kernel
theorem dPl_init_81 : decode cPl_init 81 = .ok (.putfield 44, 3) := by decide +kernel
theorem dPl_init_84 : decode cPl_init 84 = .ok (.aload_n 0, 1) := by decide +kernel
theorem dPl_init_85 : decode cPl_init 85 = .ok (.bipush 10, 2) := by decide +kernel
theorem dPl_init_87 : decode cPl_init 87 = .ok (.newarray .int, 2) := by decide +kernel
theorem dPl_init_89 : decode cPl_init 89 = .ok (.putfield 47, 3) := by decide +kernel
theorem dPl_init_92 : decode cPl_init 92 = .ok (.aload_n 0, 1) := by decide +kernel
theorem dPl_init_93 : decode cPl_init 93 = .ok (.bipush 10, 2) := by decide +kernel
theorem dPl_init_95 : decode cPl_init 95 = .ok (.newarray .int, 2) := by decide +kernel
theorem dPl_init_97 : decode cPl_init 97 = .ok (.putfield 50, 3) := by decide +kernel
theorem dPl_init_100 : decode cPl_init 100 = .ok (.aload_n 0, 1) := by decide +kernel
theorem dPl_init_101 : decode cPl_init 101 = .ok (.sipush 1700, 3) := by decide +kernel
theorem dPl_init_104 : decode cPl_init 104 = .ok (.newarray .int, 2) := by decide +kernel
theorem dPl_init_106 : decode cPl_init 106 = .ok (.putfield 53, 3) := by decide +kernel
theorem dPl_init_109 : decode cPl_init 109 = .ok (.aload_n 0, 1) := by decide +kernel
theorem dPl_init_110 : decode cPl_init 110 = .ok (.sipush 1700, 3) := by decide +kernel
theorem dPl_init_113 : decode cPl_init 113 = .ok (.newarray .int, 2) := by decide +kernel
theorem dPl_init_115 : decode cPl_init 115 = .ok (.putfield 56, 3) := by decide +kernel
theorem dPl_init_118 : decode cPl_init 118 = .ok (.aload_n 0, 1) := by decide +kernel
theorem dPl_init_119 : decode cPl_init 119 = .ok (.sipush 1700, 3) := by decide +kernel
theorem dPl_init_122 : decode cPl_init 122 = .ok (.newarray .int, 2) := by decide +kernel
theorem dPl_init_124 : decode cPl_init 124 = .ok (.putfield 59, 3) := by decide +kernel
theorem dPl_init_127 : decode cPl_init 127 = .ok (.aload_n 0, 1) := by decide +kernel
theorem dPl_init_128 : decode cPl_init 128 = .ok (.sipush 1700, 3) := by decide +kernel
theorem dPl_init_131 : decode cPl_init 131 = .ok (.newarray .int, 2) := by decide +kernel
theorem dPl_init_133 : decode cPl_init 133 = .ok (.putfield 62, 3) := by decide +kernel
theorem dPl_init_136 : decode cPl_init 136 = .ok (.aload_n 0, 1) := by decide +kernel
theorem dPl_init_137 : decode cPl_init 137 = .ok (.sipush 4960, 3) := by decide +kernel
theorem dPl_init_140 : decode cPl_init 140 = .ok (.newarray .int, 2) := by decide +kernel
theorem dPl_init_142 : decode cPl_init 142 = .ok (.putfield 65, 3) := by decide +kernel
theorem dPl_init_145 : decode cPl_init 145 = .ok (.aload_n 0, 1) := by decide +kernel
theorem dPl_init_146 : decode cPl_init 146 = .ok (.sipush 1728, 3) := by decide +kernel
theorem dPl_init_149 : decode cPl_init 149 = .ok (.newarray .int, 2) := by decide +kernel
theorem dPl_init_151 : decode cPl_init 151 = .ok (.putfield 68, 3) := by decide +kernel
theorem dPl_init_154 : decode cPl_init 154 = .ok (.aload_n 0, 1) := by decide +kernel
theorem dPl_init_155 : decode cPl_init 155 = .ok (.sipush 400, 3) := by decide +kernel
theorem dPl_init_158 : decode cPl_init 158 = .ok (.newarray .int, 2) := by decide +kernel
theorem dPl_init_160 : decode cPl_init 160 = .ok (.putfield 71, 3) := by decide +kernel
theorem dPl_init_163 : decode cPl_init 163 = .ok (.iconst 0, 1) := by decide +kernel
theorem dPl_init_164 : decode cPl_init 164 = .ok (.istore_n 1, 1) := by decide +kernel
theorem dPl_init_165 : decode cPl_init 165 = .ok (.iload_n 1, 1) := by decide +kernel
theorem dPl_init_166 : decode cPl_init 166 = .ok (.bipush 6, 2) := by decide +kernel
theorem dPl_init_168 : decode cPl_init 168 = .ok (.if_icmp .ge 22, 3) := by decide +kernel
theorem dPl_init_171 : decode cPl_init 171 = .ok (.aload_n 0, 1) := by decide +kernel
theorem dPl_init_172 : decode cPl_init 172 = .ok (.getfield 30, 3) := by decide +kernel
theorem dPl_init_175 : decode cPl_init 175 = .ok (.iload_n 1, 1) := by decide +kernel
theorem dPl_init_176 : decode cPl_init 176 = .ok (.new 28, 3) := by decide +kernel
theorem dPl_init_179 : decode cPl_init 179 = .ok (.dup, 1) := by decide +kernel
theorem dPl_init_180 : decode cPl_init 180 = .ok (.invokespecial 74, 3) := by decide +kernel
theorem dPl_init_183 : decode cPl_init 183 = .ok (.aastore, 1) := by decide +kernel
theorem dPl_init_184 : decode cPl_init 184 = .ok (.iinc 1 1, 3) := by decide +kernel
theorem dPl_init_187 : decode cPl_init 187 = .ok (.goto (-22), 3) := by decide +kernel
theorem dPl_init_190 : decode cPl_init 190 = .ok (.return_, 1) := by decide +kernel
theorem dPl_clear_0 : decode cPl_clear 0 = .ok (.aload_n 0, 1) := by decide +kernel
theorem dPl_clear_1 : decode cPl_clear 1 = .ok (.getfield 18, 3) := by decide +kernel
theorem dPl_clear_4 : decode cPl_clear 4 = .ok (.iconst 0, 1) := by decide +kernel
theorem dPl_clear_5 : decode cPl_clear 5 = .ok (.putfield 75, 3) := by decide +kernel
theorem dPl_clear_8 : decode cPl_clear 8 = .ok (.aload_n 0, 1) := by decide +kernel
theorem dPl_clear_9 : decode cPl_clear 9 = .ok (.getfield 22, 3) := by decide +kernel
theorem dPl_clear_12 : decode cPl_clear 12 = .ok (.iconst 0, 1) := by decide +kernel
theorem dPl_clear_13 : decode cPl_clear 13 = .ok (.putfield 75, 3) := by decide +kernel
theorem dPl_clear_16 : decode cPl_clear 16 = .ok (.aload_n 0, 1) := by decide +kernel
theorem dPl_clear_17 : decode cPl_clear 17 = .ok (.getfield 25, 3) := by decide +kernel
theorem dPl_clear_20 : decode cPl_clear 20 = .ok (.iconst 0, 1) := by decide +kernel
theorem dPl_clear_21 : decode cPl_clear 21 = .ok (.putfield 75, 3) := by decide +kernel
theorem dPl_clear_24 : decode cPl_clear 24 = .ok (.aload_n 0, 1) := by decide +kernel
theorem dPl_clear_25 : decode cPl_clear 25 = .ok (.iconst 0, 1) := by decide +kernel
theorem dPl_clear_26 : decode cPl_clear 26 = .ok (.putfield 79, 3) := by decide +kernel
theorem dPl_clear_29 : decode cPl_clear 29 = .ok (.aload_n 0, 1) := by decide +kernel
theorem dPl_clear_30 : decode cPl_clear 30 = .ok (.iconst 0, 1) := by decide +kernel
theorem dPl_clear_31 : decode cPl_clear 31 = .ok (.putfield 80, 3) := by decide +kernel
theorem dPl_clear_34 : decode cPl_clear 34 = .ok (.aload_n 0, 1) := by decide +kernel
theorem dPl_clear_35 : decode cPl_clear 35 = .ok (.iconst 0, 1) := by decide +kernel
theorem dPl_clear_36 : decode cPl_clear 36 = .ok (.putfield 83, 3) := by decide +kernel
theorem dPl_clear_39 : decode cPl_clear 39 = .ok (.aload_n 0, 1) := by decide +kernel
theorem dPl_clear_40 : decode cPl_clear 40 = .ok (.getfield 34, 3) := by decide +kernel
theorem dPl_clear_43 : decode cPl_clear 43 = .ok (.iconst 0, 1) := by decide +kernel
theorem dPl_clear_44 : decode cPl_clear 44 = .ok (.invokestatic 86, 3) := by decide +kernel
theorem dPl_clear_47 : decode cPl_clear 47 = .ok (.aload_n 0, 1) := by decide +kernel
theorem dPl_clear_48 : decode cPl_clear 48 = .ok (.getfield 44, 3) := by decide +kernel
theorem dPl_clear_51 : decode cPl_clear 51 = .ok (.iconst 0, 1) := by decide +kernel
theorem dPl_clear_52 : decode cPl_clear 52 = .ok (.invokestatic 86, 3) := by decide +kernel
theorem dPl_clear_55 : decode cPl_clear 55 = .ok (.aload_n 0, 1) := by decide +kernel
theorem dPl_clear_56 : decode cPl_clear 56 = .ok (.getfield 68, 3) := by decide +kernel
theorem dPl_clear_59 : decode cPl_clear 59 = .ok (.iconst 0, 1) := by decide +kernel
theorem dPl_clear_60 : decode cPl_clear 60 = .ok (.invokestatic 86, 3) := by decide +kernel
theorem dPl_clear_63 : decode cPl_clear 63 = .ok (.return_, 1) := by decide +kernel
theorem dTk_init_0 : decode cTk_init 0 = .ok (.aload_n 0, 1) := by decide +kernel
theorem dTk_init_1 : decode cTk_init 1 = .ok (.invokespecial 1, 3) := by decide +kernel
theorem dTk_init_4 : decode cTk_init 4 = .ok (.aload_n 0, 1) := by decide +kernel
theorem dTk_init_5 : decode cTk_init 5 = .ok (.sipush 1202, 3) := by decide +kernel
theorem dTk_init_8 : decode cTk_init 8 = .ok (.newarray .int, 2) := by decide +kernel
theorem dTk_init_10 : decode cTk_init 10 = .ok (.putfield 9, 3) := by decide +kernel
theorem dTk_init_13 : decode cTk_init 13 = .ok (.aload_n 0, 1) := by decide +kernel
theorem dTk_init_14 : decode cTk_init 14 = .ok (.sipush 1202, 3) := by decide +kernel
theorem dTk_init_17 : decode cTk_init 17 = .ok (.newarray .int, 2) := by decide +kernel
theorem dTk_init_19 : decode cTk_init 19 = .ok (.putfield 13, 3) := by decide +kernel
theorem dTk_init_22 : decode cTk_init 22 = .ok (.aload_n 0, 1) := by decide +kernel
theorem dTk_init_23 : decode cTk_init 23 = .ok (.sipush 1202, 3) := by decide +kernel
theorem dTk_init_26 : decode cTk_init 26 = .ok (.newarray .long, 2) := by decide +kernel
theorem dTk_init_28 : decode cTk_init 28 = .ok (.putfield 16, 3) := by decide +kernel
theorem dTk_init_31 : decode cTk_init 31 = .ok (.aload_n 0, 1) := by decide +kernel
theorem dTk_init_32 : decode cTk_init 32 = .ok (.bipush 48, 2) := by decide +kernel
theorem dTk_init_34 : decode cTk_init 34 = .ok (.newarray .long, 2) := by decide +kernel
theorem dTk_init_36 : decode cTk_init 36 = .ok (.putfield 20, 3) := by decide +kernel
theorem dTk_init_39 : decode cTk_init 39 = .ok (.aload_n 0, 1) := by decide +kernel
theorem dTk_init_40 : decode cTk_init 40 = .ok (.iconst 0, 1) := by decide +kernel
theorem dTk_init_41 : decode cTk_init 41 = .ok (.newarray .byte, 2) := by decide +kernel
theorem dTk_init_43 : decode cTk_init 43 = .ok (.putfield 23, 3) := by decide +kernel
theorem dTk_init_46 : decode cTk_init 46 = .ok (.aload_n 0, 1) := by decide +kernel
theorem dTk_init_47 : decode cTk_init 47 = .ok (.ldc 27, 2) := by decide +kernel
theorem dTk_init_49 : decode cTk_init 49 = .ok (.aload_n 0, 1) := by decide +kernel
theorem dTk_init_50 : decode cTk_init 50 = .ok (.ldc 29, 2) := by decide +kernel
theorem dTk_init_52 : decode cTk_init 52 = .ok (.aload_n 0, 1) := by decide +kernel
theorem dTk_init_53 : decode cTk_init 53 = .ok (.ldc 31, 2) := by decide +kernel
theorem dTk_init_55 : decode cTk_init 55 = .ok (.aload_n 0, 1) := by decide +kernel
theorem dTk_init_56 : decode cTk_init 56 = .ok (.ldc 33, 2) := by decide +kernel
theorem dTk_init_58 : decode cTk_init 58 = .ok (.iconst 0, 1) := by decide +kernel
theorem dTk_init_59 : decode cTk_init 59 = .ok (.invokevirtual 35, 3) := by decide +kernel
theorem dTk_init_62 : decode cTk_init 62 = .ok (.invokevirtual 35, 3) := by decide +kernel
theorem dTk_init_65 : decode cTk_init 65 = .ok (.invokevirtual 35, 3) := by decide +kernel
theorem dTk_init_68 : decode cTk_init 68 = .ok (.invokevirtual 35, 3) := by decide +kernel
theorem dTk_init_71 : decode cTk_init 71 = .ok (.pop, 1) := by decide +kernel
theorem dTk_init_72 : decode cTk_init 72 = .ok (.return_, 1) := by decide +kernel
theorem dTk_read_0 : decode cTk_read 0 = .ok (.aload_n 0, 1) := by decide +kernel
theorem dTk_read_1 : decode cTk_read 1 = .ok (.aload_n 1, 1) := by decide +kernel
theorem dTk_read_2 : decode cTk_read 2 = .ok (.putfield 23, 3) := by decide +kernel
theorem dTk_read_5 : decode cTk_read 5 = .ok (.aload_n 0, 1) := by decide +kernel
theorem dTk_read_6 : decode cTk_read 6 = .ok (.iload_n 2, 1) := by decide +kernel
theorem dTk_read_7 : decode cTk_read 7 = .ok (.putfield 55, 3) := by decide +kernel
theorem dTk_read_10 : decode cTk_read 10 = .ok (.aload_n 0, 1) := by decide +kernel
theorem dTk_read_11 : decode cTk_read 11 = .ok (.iconst 0, 1) := by decide +kernel
theorem dTk_read_12 : decode cTk_read 12 = .ok (.putfield 58, 3) := by decide +kernel
theorem dTk_read_15 : decode cTk_read 15 = .ok (.aload_n 0, 1) := by decide +kernel
theorem dTk_read_16 : decode cTk_read 16 = .ok (.iconst 0, 1) := by decide +kernel
theorem dTk_read_17 : decode cTk_read 17 = .ok (.putfield 61, 3) := by decide +kernel
theorem dTk_read_20 : decode cTk_read 20 = .ok (.aload_n 0, 1) := by decide +kernel
theorem dTk_read_21 : decode cTk_read 21 = .ok (.iconst 0, 1) := by decide +kernel
theorem dTk_read_22 : decode cTk_read 22 = .ok (.putfield 64, 3) := by decide +kernel
theorem dTk_read_25 : decode cTk_read 25 = .ok (.aload_n 0, 1) := by decide +kernel
theorem dTk_read_26 : decode cTk_read 26 = .ok (.iconst 0, 1) := by decide +kernel
theorem dTk_read_27 : decode cTk_read 27 = .ok (.putfield 67, 3) := by decide +kernel
theorem dTk_read_30 : decode cTk_read 30 = .ok (.iconst 0, 1) := by decide +kernel
theorem dTk_read_31 : decode cTk_read 31 = .ok (.istore_n 3, 1) := by decide +kernel
theorem dTk_read_32 : decode cTk_read 32 = .ok (.aload_n 0, 1) := by decide +kernel
theorem dTk_read_33 : decode cTk_read 33 = .ok (.iconst 0, 1) := by decide +kernel
theorem dTk_read_34 : decode cTk_read 34 = .ok (.invokevirtual 70, 3) := by decide +kernel
theorem dTk_read_37 : decode cTk_read 37 = .ok (.istore 4, 2) := by decide +kernel
theorem dTk_read_39 : decode cTk_read 39 = .ok (.iconst 1, 1) := by decide +kernel
theorem dTk_read_40 : decode cTk_read 40 = .ok (.istore 5, 2) := by decide +kernel
theorem dTk_read_42 : decode cTk_read 42 = .ok (.iconst 0, 1) := by decide +kernel
theorem dTk_read_43 : decode cTk_read 43 = .ok (.istore 6, 2) := by decide +kernel
theorem dTk_read_45 : decode cTk_read 45 = .ok (.iload 6, 2) := by decide +kernel
theorem dTk_read_47 : decode cTk_read 47 = .ok (.sipush 1200, 3) := by decide +kernel
theorem dTk_read_50 : decode cTk_read 50 = .ok (.if_icmp .gt 66, 3) := by decide +kernel
theorem dTk_read_53 : decode cTk_read 53 = .ok (.iload 5, 2) := by decide +kernel
theorem dTk_read_55 : decode cTk_read 55 = .ok (.ifCond .eq 61, 3) := by decide +kernel
theorem dTk_read_58 : decode cTk_read 58 = .ok (.iload 4, 2) := by decide +kernel
theorem dTk_read_60 : decode cTk_read 60 = .ok (.iload_n 2, 1) := by decide +kernel
theorem dTk_read_61 : decode cTk_read 61 = .ok (.if_icmp .ge 55, 3) := by decide +kernel
theorem dTk_read_64 : decode cTk_read 64 = .ok (.aload_n 0, 1) := by decide +kernel
theorem dTk_read_65 : decode cTk_read 65 = .ok (.getfield 13, 3) := by decide +kernel
theorem dTk_read_68 : decode cTk_read 68 = .ok (.iload 6, 2) := by decide +kernel
theorem dTk_read_70 : decode cTk_read 70 = .ok (.iload 4, 2) := by decide +kernel
theorem dTk_read_72 : decode cTk_read 72 = .ok (.iastore, 1) := by decide +kernel
theorem dTk_read_73 : decode cTk_read 73 = .ok (.aload_n 0, 1) := by decide +kernel
theorem dTk_read_74 : decode cTk_read 74 = .ok (.aload_n 0, 1) := by decide +kernel
theorem dTk_read_75 : decode cTk_read 75 = .ok (.iload 6, 2) := by decide +kernel
theorem dTk_read_77 : decode cTk_read 77 = .ok (.iload 4, 2) := by decide +kernel
theorem dTk_read_79 : decode cTk_read 79 = .ok (.invokevirtual 73, 3) := by decide +kernel
theorem dTk_read_82 : decode cTk_read 82 = .ok (.invokevirtual 70, 3) := by decide +kernel
theorem dTk_read_85 : decode cTk_read 85 = .ok (.istore 4, 2) := by decide +kernel
theorem dTk_read_87 : decode cTk_read 87 = .ok (.aload_n 0, 1) := by decide +kernel
theorem dTk_read_88 : decode cTk_read 88 = .ok (.getfield 9, 3) := by decide +kernel
theorem dTk_read_91 : decode cTk_read 91 = .ok (.iload 6, 2) := by decide +kernel
theorem dTk_read_93 : decode cTk_read 93 = .ok (.iaload, 1) := by decide +kernel
theorem dTk_read_94 : decode cTk_read 94 = .ok (.iconst 1, 1) := by decide +kernel
theorem dTk_read_95 : decode cTk_read 95 = .ok (.if_icmp .eq 7, 3) := by decide +kernel
theorem dTk_read_98 : decode cTk_read 98 = .ok (.iconst 1, 1) := by decide +kernel
theorem dTk_read_99 : decode cTk_read 99 = .ok (.goto 4, 3) := by decide +kernel
theorem dTk_read_102 : decode cTk_read 102 = .ok (.iconst 0, 1) := by decide +kernel
theorem dTk_read_103 : decode cTk_read 103 = .ok (.istore 5, 2) := by decide +kernel
theorem dTk_read_105 : decode cTk_read 105 = .ok (.iload 6, 2) := by decide +kernel
theorem dTk_read_107 : decode cTk_read 107 = .ok (.iconst 1, 1) := by decide +kernel
theorem dTk_read_108 : decode cTk_read 108 = .ok (.iadd, 1) := by decide +kernel
theorem dTk_read_109 : decode cTk_read 109 = .ok (.istore_n 3, 1) := by decide +kernel
theorem dTk_read_110 : decode cTk_read 110 = .ok (.iinc 6 1, 3) := by decide +kernel
theorem dTk_read_113 : decode cTk_read 113 = .ok (.goto (-68), 3) := by decide +kernel
theorem dTk_read_116 : decode cTk_read 116 = .ok (.iload 5, 2) := by decide +kernel
theorem dTk_read_118 : decode cTk_read 118 = .ok (.ifCond .eq 17, 3) := by decide +kernel
theorem dTk_read_121 : decode cTk_read 121 = .ok (.aload_n 0, 1) := by decide +kernel
theorem dTk_read_122 : decode cTk_read 122 = .ok (.getfield 9, 3) := by decide +kernel
theorem dTk_read_125 : decode cTk_read 125 = .ok (.iload_n 3, 1) := by decide +kernel
theorem dTk_read_126 : decode cTk_read 126 = .ok (.iconst 0, 1) := by decide +kernel
theorem dTk_read_127 : decode cTk_read 127 = .ok (.iastore, 1) := by decide +kernel
theorem dTk_read_128 : decode cTk_read 128 = .ok (.aload_n 0, 1) := by decide +kernel
theorem dTk_read_129 : decode cTk_read 129 = .ok (.getfield 13, 3) := by decide +kernel
theorem dTk_read_132 : decode cTk_read 132 = .ok (.iload_n 3, 1) := by decide +kernel
theorem dTk_read_133 : decode cTk_read 133 = .ok (.iload_n 2, 1) := by decide +kernel
theorem dTk_read_134 : decode cTk_read 134 = .ok (.iastore, 1) := by decide +kernel
theorem dTk_read_135 : decode cTk_read 135 = .ok (.return_, 1) := by decide +kernel
theorem dTk_gap_0 : decode cTk_gap 0 = .ok (.iconst 0, 1) := by decide +kernel
theorem dTk_gap_1 : decode cTk_gap 1 = .ok (.istore_n 2, 1) := by decide +kernel
theorem dTk_gap_2 : decode cTk_gap 2 = .ok (.iload_n 1, 1) := by decide +kernel
theorem dTk_gap_3 : decode cTk_gap 3 = .ok (.istore_n 3, 1) := by decide +kernel
theorem dTk_gap_4 : decode cTk_gap 4 = .ok (.iload_n 3, 1) := by decide +kernel
theorem dTk_gap_5 : decode cTk_gap 5 = .ok (.aload_n 0, 1) := by decide +kernel
theorem dTk_gap_6 : decode cTk_gap 6 = .ok (.getfield 55, 3) := by decide +kernel
theorem dTk_gap_9 : decode cTk_gap 9 = .ok (.if_icmp .ge 79, 3) := by decide +kernel
theorem dTk_gap_12 : decode cTk_gap 12 = .ok (.aload_n 0, 1) := by decide +kernel
theorem dTk_gap_13 : decode cTk_gap 13 = .ok (.getfield 23, 3) := by decide +kernel
theorem dTk_gap_16 : decode cTk_gap 16 = .ok (.iload_n 3, 1) := by decide +kernel
theorem dTk_gap_17 : decode cTk_gap 17 = .ok (.baload, 1) := by decide +kernel
theorem dTk_gap_18 : decode cTk_gap 18 = .ok (.istore 4, 2) := by decide +kernel
theorem dTk_gap_20 : decode cTk_gap 20 = .ok (.iload_n 2, 1) := by decide +kernel
theorem dTk_gap_21 : decode cTk_gap 21 = .ok (.ifCond .eq 19, 3) := by decide +kernel
theorem dTk_gap_24 : decode cTk_gap 24 = .ok (.iload 4, 2) := by decide +kernel
theorem dTk_gap_26 : decode cTk_gap 26 = .ok (.bipush 10, 2) := by decide +kernel
theorem dTk_gap_28 : decode cTk_gap 28 = .ok (.if_icmp .eq 7, 3) := by decide +kernel
theorem dTk_gap_31 : decode cTk_gap 31 = .ok (.iconst 1, 1) := by decide +kernel
theorem dTk_gap_32 : decode cTk_gap 32 = .ok (.goto 4, 3) := by decide +kernel
theorem dTk_gap_35 : decode cTk_gap 35 = .ok (.iconst 0, 1) := by decide +kernel
theorem dTk_gap_36 : decode cTk_gap 36 = .ok (.istore_n 2, 1) := by decide +kernel
theorem dTk_gap_37 : decode cTk_gap 37 = .ok (.goto 45, 3) := by decide +kernel
theorem dTk_gap_40 : decode cTk_gap 40 = .ok (.iload 4, 2) := by decide +kernel
theorem dTk_gap_42 : decode cTk_gap 42 = .ok (.bipush 35, 2) := by decide +kernel
theorem dTk_gap_44 : decode cTk_gap 44 = .ok (.if_icmp .ne 8, 3) := by decide +kernel
theorem dTk_gap_47 : decode cTk_gap 47 = .ok (.iconst 1, 1) := by decide +kernel
theorem dTk_gap_48 : decode cTk_gap 48 = .ok (.istore_n 2, 1) := by decide +kernel
theorem dTk_gap_49 : decode cTk_gap 49 = .ok (.goto 33, 3) := by decide +kernel
theorem dTk_gap_52 : decode cTk_gap 52 = .ok (.iload 4, 2) := by decide +kernel
theorem dTk_gap_54 : decode cTk_gap 54 = .ok (.bipush 9, 2) := by decide +kernel
theorem dTk_gap_56 : decode cTk_gap 56 = .ok (.if_icmp .eq 26, 3) := by decide +kernel
theorem dTk_gap_59 : decode cTk_gap 59 = .ok (.iload 4, 2) := by decide +kernel
theorem dTk_gap_61 : decode cTk_gap 61 = .ok (.bipush 10, 2) := by decide +kernel
theorem dTk_gap_63 : decode cTk_gap 63 = .ok (.if_icmp .eq 19, 3) := by decide +kernel
theorem dTk_gap_66 : decode cTk_gap 66 = .ok (.iload 4, 2) := by decide +kernel
theorem dTk_gap_68 : decode cTk_gap 68 = .ok (.bipush 13, 2) := by decide +kernel
theorem dTk_gap_70 : decode cTk_gap 70 = .ok (.if_icmp .eq 12, 3) := by decide +kernel
theorem dTk_gap_73 : decode cTk_gap 73 = .ok (.iload 4, 2) := by decide +kernel
theorem dTk_gap_75 : decode cTk_gap 75 = .ok (.bipush 32, 2) := by decide +kernel
theorem dTk_gap_77 : decode cTk_gap 77 = .ok (.if_icmp .eq 5, 3) := by decide +kernel
theorem dTk_gap_80 : decode cTk_gap 80 = .ok (.iload_n 3, 1) := by decide +kernel
theorem dTk_gap_81 : decode cTk_gap 81 = .ok (.ireturn, 1) := by decide +kernel
theorem dTk_gap_82 : decode cTk_gap 82 = .ok (.iinc 3 1, 3) := by decide +kernel
theorem dTk_gap_85 : decode cTk_gap 85 = .ok (.goto (-81), 3) := by decide +kernel
theorem dTk_gap_88 : decode cTk_gap 88 = .ok (.iload_n 3, 1) := by decide +kernel
theorem dTk_gap_89 : decode cTk_gap 89 = .ok (.ireturn, 1) := by decide +kernel
theorem dTk_seen_0 : decode cTk_seen 0 = .ok (.aload_n 0, 1) := by decide +kernel
theorem dTk_seen_1 : decode cTk_seen 1 = .ok (.getfield 64, 3) := by decide +kernel
theorem dTk_seen_4 : decode cTk_seen 4 = .ok (.ifCond .eq 7, 3) := by decide +kernel
theorem dTk_seen_7 : decode cTk_seen 7 = .ok (.iconst 1, 1) := by decide +kernel
theorem dTk_seen_8 : decode cTk_seen 8 = .ok (.goto 12, 3) := by decide +kernel
theorem dTk_seen_11 : decode cTk_seen 11 = .ok (.aload_n 0, 1) := by decide +kernel
theorem dTk_seen_12 : decode cTk_seen 12 = .ok (.getfield 9, 3) := by decide +kernel
theorem dTk_seen_15 : decode cTk_seen 15 = .ok (.aload_n 0, 1) := by decide +kernel
theorem dTk_seen_16 : decode cTk_seen 16 = .ok (.getfield 58, 3) := by decide +kernel
theorem dTk_seen_19 : decode cTk_seen 19 = .ok (.iaload, 1) := by decide +kernel
theorem dTk_seen_20 : decode cTk_seen 20 = .ok (.ireturn, 1) := by decide +kernel
theorem dTk_take_0 : decode cTk_take 0 = .ok (.aload_n 0, 1) := by decide +kernel
theorem dTk_take_1 : decode cTk_take 1 = .ok (.getfield 64, 3) := by decide +kernel
theorem dTk_take_4 : decode cTk_take 4 = .ok (.ifCond .ne 16, 3) := by decide +kernel
theorem dTk_take_7 : decode cTk_take 7 = .ok (.aload_n 0, 1) := by decide +kernel
theorem dTk_take_8 : decode cTk_take 8 = .ok (.getfield 9, 3) := by decide +kernel
theorem dTk_take_11 : decode cTk_take 11 = .ok (.aload_n 0, 1) := by decide +kernel
theorem dTk_take_12 : decode cTk_take 12 = .ok (.getfield 58, 3) := by decide +kernel
theorem dTk_take_15 : decode cTk_take 15 = .ok (.iaload, 1) := by decide +kernel
theorem dTk_take_16 : decode cTk_take 16 = .ok (.iload_n 1, 1) := by decide +kernel
theorem dTk_take_17 : decode cTk_take 17 = .ok (.if_icmp .eq 5, 3) := by decide +kernel
theorem dTk_take_20 : decode cTk_take 20 = .ok (.iconst 0, 1) := by decide +kernel
theorem dTk_take_21 : decode cTk_take 21 = .ok (.ireturn, 1) := by decide +kernel
theorem dTk_take_22 : decode cTk_take 22 = .ok (.aload_n 0, 1) := by decide +kernel
theorem dTk_take_23 : decode cTk_take 23 = .ok (.getfield 58, 3) := by decide +kernel
theorem dTk_take_26 : decode cTk_take 26 = .ok (.sipush 1200, 3) := by decide +kernel
theorem dTk_take_29 : decode cTk_take 29 = .ok (.if_icmp .ne 24, 3) := by decide +kernel
theorem dTk_take_32 : decode cTk_take 32 = .ok (.aload_n 0, 1) := by decide +kernel
theorem dTk_take_33 : decode cTk_take 33 = .ok (.iconst 2, 1) := by decide +kernel
theorem dTk_take_34 : decode cTk_take 34 = .ok (.putfield 64, 3) := by decide +kernel
theorem dTk_take_37 : decode cTk_take 37 = .ok (.aload_n 0, 1) := by decide +kernel
theorem dTk_take_38 : decode cTk_take 38 = .ok (.aload_n 0, 1) := by decide +kernel
theorem dTk_take_39 : decode cTk_take 39 = .ok (.getfield 13, 3) := by decide +kernel
theorem dTk_take_42 : decode cTk_take 42 = .ok (.aload_n 0, 1) := by decide +kernel
theorem dTk_take_43 : decode cTk_take 43 = .ok (.getfield 58, 3) := by decide +kernel
theorem dTk_take_46 : decode cTk_take 46 = .ok (.iaload, 1) := by decide +kernel
theorem dTk_take_47 : decode cTk_take 47 = .ok (.putfield 103, 3) := by decide +kernel
theorem dTk_take_50 : decode cTk_take 50 = .ok (.goto 13, 3) := by decide +kernel
theorem dTk_take_53 : decode cTk_take 53 = .ok (.aload_n 0, 1) := by decide +kernel
theorem dTk_take_54 : decode cTk_take 54 = .ok (.dup, 1) := by decide +kernel
theorem dTk_take_55 : decode cTk_take 55 = .ok (.getfield 58, 3) := by decide +kernel
theorem dTk_take_58 : decode cTk_take 58 = .ok (.iconst 1, 1) := by decide +kernel
theorem dTk_take_59 : decode cTk_take 59 = .ok (.iadd, 1) := by decide +kernel
theorem dTk_take_60 : decode cTk_take 60 = .ok (.putfield 58, 3) := by decide +kernel
theorem dTk_take_63 : decode cTk_take 63 = .ok (.iconst 1, 1) := by decide +kernel
theorem dTk_take_64 : decode cTk_take 64 = .ok (.ireturn, 1) := by decide +kernel
theorem dTk_fail_0 : decode cTk_fail 0 = .ok (.aload_n 0, 1) := by decide +kernel
theorem dTk_fail_1 : decode cTk_fail 1 = .ok (.getfield 64, 3) := by decide +kernel
theorem dTk_fail_4 : decode cTk_fail 4 = .ok (.ifCond .ne 18, 3) := by decide +kernel
theorem dTk_fail_7 : decode cTk_fail 7 = .ok (.aload_n 0, 1) := by decide +kernel
theorem dTk_fail_8 : decode cTk_fail 8 = .ok (.iload_n 1, 1) := by decide +kernel
theorem dTk_fail_9 : decode cTk_fail 9 = .ok (.putfield 64, 3) := by decide +kernel
theorem dTk_fail_12 : decode cTk_fail 12 = .ok (.aload_n 0, 1) := by decide +kernel
theorem dTk_fail_13 : decode cTk_fail 13 = .ok (.aload_n 0, 1) := by decide +kernel
theorem dTk_fail_14 : decode cTk_fail 14 = .ok (.getfield 13, 3) := by decide +kernel
theorem dTk_fail_17 : decode cTk_fail 17 = .ok (.iload_n 2, 1) := by decide +kernel
theorem dTk_fail_18 : decode cTk_fail 18 = .ok (.iaload, 1) := by decide +kernel
theorem dTk_fail_19 : decode cTk_fail 19 = .ok (.putfield 103, 3) := by decide +kernel
theorem dTk_fail_22 : decode cTk_fail 22 = .ok (.return_, 1) := by decide +kernel
theorem dTk_fault_0 : decode cTk_fault 0 = .ok (.aload_n 0, 1) := by decide +kernel
theorem dTk_fault_1 : decode cTk_fault 1 = .ok (.getfield 64, 3) := by decide +kernel
theorem dTk_fault_4 : decode cTk_fault 4 = .ok (.ifCond .eq 10, 3) := by decide +kernel
theorem dTk_fault_7 : decode cTk_fault 7 = .ok (.aload_n 0, 1) := by decide +kernel
theorem dTk_fault_8 : decode cTk_fault 8 = .ok (.getfield 64, 3) := by decide +kernel
theorem dTk_fault_11 : decode cTk_fault 11 = .ok (.goto 7, 3) := by decide +kernel
theorem dTk_fault_14 : decode cTk_fault 14 = .ok (.aload_n 0, 1) := by decide +kernel
theorem dTk_fault_15 : decode cTk_fault 15 = .ok (.getfield 67, 3) := by decide +kernel
theorem dTk_fault_18 : decode cTk_fault 18 = .ok (.ireturn, 1) := by decide +kernel
theorem dTk_faultPlace_0 : decode cTk_faultPlace 0 = .ok (.aload_n 0, 1) := by decide +kernel
theorem dTk_faultPlace_1 : decode cTk_faultPlace 1 = .ok (.getfield 64, 3) := by decide +kernel
theorem dTk_faultPlace_4 : decode cTk_faultPlace 4 = .ok (.ifCond .eq 10, 3) := by decide +kernel
theorem dTk_faultPlace_7 : decode cTk_faultPlace 7 = .ok (.aload_n 0, 1) := by decide +kernel
theorem dTk_faultPlace_8 : decode cTk_faultPlace 8 = .ok (.getfield 103, 3) := by decide +kernel
theorem dTk_faultPlace_11 : decode cTk_faultPlace 11 = .ok (.goto 7, 3) := by decide +kernel
theorem dTk_faultPlace_14 : decode cTk_faultPlace 14 = .ok (.aload_n 0, 1) := by decide +kernel
theorem dTk_faultPlace_15 : decode cTk_faultPlace 15 = .ok (.getfield 114, 3) := by decide +kernel
theorem dTk_faultPlace_18 : decode cTk_faultPlace 18 = .ok (.ireturn, 1) := by decide +kernel
theorem dE_feed_0 : decode cE_feed 0 = .ok (.aload_n 0, 1) := by decide +kernel
theorem dE_feed_1 : decode cE_feed 1 = .ok (.getfield 17, 3) := by decide +kernel
theorem dE_feed_4 : decode cE_feed 4 = .ok (.bipush 20, 2) := by decide +kernel
theorem dE_feed_6 : decode cE_feed 6 = .ok (.iadd, 1) := by decide +kernel
theorem dE_feed_7 : decode cE_feed 7 = .ok (.sipush 5000, 3) := by decide +kernel
theorem dE_feed_10 : decode cE_feed 10 = .ok (.if_icmp .le 5, 3) := by decide +kernel
theorem dE_feed_13 : decode cE_feed 13 = .ok (.iconst 0, 1) := by decide +kernel
theorem dE_feed_14 : decode cE_feed 14 = .ok (.ireturn, 1) := by decide +kernel
theorem dE_feed_15 : decode cE_feed 15 = .ok (.aload_n 0, 1) := by decide +kernel
theorem dE_feed_16 : decode cE_feed 16 = .ok (.getfield 7, 3) := by decide +kernel
theorem dE_feed_19 : decode cE_feed 19 = .ok (.arraylength, 1) := by decide +kernel
theorem dE_feed_20 : decode cE_feed 20 = .ok (.ifCond .ne 12, 3) := by decide +kernel
theorem dE_feed_23 : decode cE_feed 23 = .ok (.aload_n 0, 1) := by decide +kernel
theorem dE_feed_24 : decode cE_feed 24 = .ok (.sipush 5000, 3) := by decide +kernel
theorem dE_feed_27 : decode cE_feed 27 = .ok (.newarray .byte, 2) := by decide +kernel
theorem dE_feed_29 : decode cE_feed 29 = .ok (.putfield 7, 3) := by decide +kernel
theorem dE_feed_32 : decode cE_feed 32 = .ok (.aload_n 0, 1) := by decide +kernel
theorem dE_feed_33 : decode cE_feed 33 = .ok (.iload_n 1, 1) := by decide +kernel
theorem dE_feed_34 : decode cE_feed 34 = .ok (.invokevirtual 20, 3) := by decide +kernel
theorem dE_feed_37 : decode cE_feed 37 = .ok (.aload_n 0, 1) := by decide +kernel
theorem dE_feed_38 : decode cE_feed 38 = .ok (.iload_n 2, 1) := by decide +kernel
theorem dE_feed_39 : decode cE_feed 39 = .ok (.invokevirtual 20, 3) := by decide +kernel
theorem dE_feed_42 : decode cE_feed 42 = .ok (.aload_n 0, 1) := by decide +kernel
theorem dE_feed_43 : decode cE_feed 43 = .ok (.iload_n 3, 1) := by decide +kernel
theorem dE_feed_44 : decode cE_feed 44 = .ok (.invokevirtual 20, 3) := by decide +kernel
theorem dE_feed_47 : decode cE_feed 47 = .ok (.aload_n 0, 1) := by decide +kernel
theorem dE_feed_48 : decode cE_feed 48 = .ok (.iload 4, 2) := by decide +kernel
theorem dE_feed_50 : decode cE_feed 50 = .ok (.invokevirtual 20, 3) := by decide +kernel
theorem dE_feed_53 : decode cE_feed 53 = .ok (.aload_n 0, 1) := by decide +kernel
theorem dE_feed_54 : decode cE_feed 54 = .ok (.iload 5, 2) := by decide +kernel
theorem dE_feed_56 : decode cE_feed 56 = .ok (.invokevirtual 20, 3) := by decide +kernel
theorem dE_feed_59 : decode cE_feed 59 = .ok (.iconst 1, 1) := by decide +kernel
theorem dE_feed_60 : decode cE_feed 60 = .ok (.ireturn, 1) := by decide +kernel
theorem dE_write_0 : decode cE_write 0 = .ok (.bipush 24, 2) := by decide +kernel
theorem dE_write_2 : decode cE_write 2 = .ok (.istore_n 2, 1) := by decide +kernel
theorem dE_write_3 : decode cE_write 3 = .ok (.iload_n 2, 1) := by decide +kernel
theorem dE_write_4 : decode cE_write 4 = .ok (.ifCond .lt 32, 3) := by decide +kernel
theorem dE_write_7 : decode cE_write 7 = .ok (.aload_n 0, 1) := by decide +kernel
theorem dE_write_8 : decode cE_write 8 = .ok (.getfield 7, 3) := by decide +kernel
theorem dE_write_11 : decode cE_write 11 = .ok (.aload_n 0, 1) := by decide +kernel
theorem dE_write_12 : decode cE_write 12 = .ok (.getfield 17, 3) := by decide +kernel
theorem dE_write_15 : decode cE_write 15 = .ok (.iload_n 1, 1) := by decide +kernel
theorem dE_write_16 : decode cE_write 16 = .ok (.iload_n 2, 1) := by decide +kernel
theorem dE_write_17 : decode cE_write 17 = .ok (.iushr, 1) := by decide +kernel
theorem dE_write_18 : decode cE_write 18 = .ok (.i2b, 1) := by decide +kernel
theorem dE_write_19 : decode cE_write 19 = .ok (.bastore, 1) := by decide +kernel
theorem dE_write_20 : decode cE_write 20 = .ok (.aload_n 0, 1) := by decide +kernel
theorem dE_write_21 : decode cE_write 21 = .ok (.dup, 1) := by decide +kernel
theorem dE_write_22 : decode cE_write 22 = .ok (.getfield 17, 3) := by decide +kernel
theorem dE_write_25 : decode cE_write 25 = .ok (.iconst 1, 1) := by decide +kernel
theorem dE_write_26 : decode cE_write 26 = .ok (.iadd, 1) := by decide +kernel
theorem dE_write_27 : decode cE_write 27 = .ok (.putfield 17, 3) := by decide +kernel
theorem dE_write_30 : decode cE_write 30 = .ok (.iinc 2 (-8), 3) := by decide +kernel
theorem dE_write_33 : decode cE_write 33 = .ok (.goto (-30), 3) := by decide +kernel
theorem dE_write_36 : decode cE_write 36 = .ok (.return_, 1) := by decide +kernel
theorem dE_load_0 : decode cE_load 0 = .ok (.iload_n 1, 1) := by decide +kernel
theorem dE_load_1 : decode cE_load 1 = .ok (.ifCond .lt 11, 3) := by decide +kernel
theorem dE_load_4 : decode cE_load 4 = .ok (.iload_n 1, 1) := by decide +kernel
theorem dE_load_5 : decode cE_load 5 = .ok (.aload_n 0, 1) := by decide +kernel
theorem dE_load_6 : decode cE_load 6 = .ok (.getfield 17, 3) := by decide +kernel
theorem dE_load_9 : decode cE_load 9 = .ok (.if_icmp .le 6, 3) := by decide +kernel
theorem dE_load_12 : decode cE_load 12 = .ok (.bipush (-2), 2) := by decide +kernel
theorem dE_load_14 : decode cE_load 14 = .ok (.ireturn, 1) := by decide +kernel
theorem dE_load_15 : decode cE_load 15 = .ok (.aload_n 0, 1) := by decide +kernel
theorem dE_load_16 : decode cE_load 16 = .ok (.iconst 0, 1) := by decide +kernel
theorem dE_load_17 : decode cE_load 17 = .ok (.putfield 17, 3) := by decide +kernel
theorem dE_load_20 : decode cE_load 20 = .ok (.aload_n 0, 1) := by decide +kernel
theorem dE_load_21 : decode cE_load 21 = .ok (.getfield 24, 3) := by decide +kernel
theorem dE_load_24 : decode cE_load 24 = .ok (.ifnonnull 44, 3) := by decide +kernel
theorem dE_load_27 : decode cE_load 27 = .ok (.aload_n 0, 1) := by decide +kernel
theorem dE_load_28 : decode cE_load 28 = .ok (.new 28, 3) := by decide +kernel
theorem dE_load_31 : decode cE_load 31 = .ok (.dup, 1) := by decide +kernel
theorem dE_load_32 : decode cE_load 32 = .ok (.invokespecial 30, 3) := by decide +kernel
theorem dE_load_35 : decode cE_load 35 = .ok (.putfield 24, 3) := by decide +kernel
theorem dE_load_38 : decode cE_load 38 = .ok (.aload_n 0, 1) := by decide +kernel
theorem dE_load_39 : decode cE_load 39 = .ok (.new 31, 3) := by decide +kernel
theorem dE_load_42 : decode cE_load 42 = .ok (.dup, 1) := by decide +kernel
theorem dE_load_43 : decode cE_load 43 = .ok (.aload_n 0, 1) := by decide +kernel
theorem dE_load_44 : decode cE_load 44 = .ok (.getfield 24, 3) := by decide +kernel
theorem dE_load_47 : decode cE_load 47 = .ok (.invokespecial 33, 3) := by decide +kernel
theorem dE_load_50 : decode cE_load 50 = .ok (.putfield 36, 3) := by decide +kernel
theorem dE_load_53 : decode cE_load 53 = .ok (.aload_n 0, 1) := by decide +kernel
theorem dE_load_54 : decode cE_load 54 = .ok (.new 40, 3) := by decide +kernel
theorem dE_load_57 : decode cE_load 57 = .ok (.dup, 1) := by decide +kernel
theorem dE_load_58 : decode cE_load 58 = .ok (.aload_n 0, 1) := by decide +kernel
theorem dE_load_59 : decode cE_load 59 = .ok (.getfield 24, 3) := by decide +kernel
theorem dE_load_62 : decode cE_load 62 = .ok (.invokespecial 42, 3) := by decide +kernel
theorem dE_load_65 : decode cE_load 65 = .ok (.putfield 43, 3) := by decide +kernel
theorem dE_load_68 : decode cE_load 68 = .ok (.aload_n 0, 1) := by decide +kernel
theorem dE_load_69 : decode cE_load 69 = .ok (.getfield 47, 3) := by decide +kernel
theorem dE_load_72 : decode cE_load 72 = .ok (.ifnonnull 14, 3) := by decide +kernel
theorem dE_load_75 : decode cE_load 75 = .ok (.aload_n 0, 1) := by decide +kernel
theorem dE_load_76 : decode cE_load 76 = .ok (.new 51, 3) := by decide +kernel
theorem dE_load_79 : decode cE_load 79 = .ok (.dup, 1) := by decide +kernel
theorem dE_load_80 : decode cE_load 80 = .ok (.invokespecial 53, 3) := by decide +kernel
theorem dE_load_83 : decode cE_load 83 = .ok (.putfield 47, 3) := by decide +kernel
theorem dE_load_86 : decode cE_load 86 = .ok (.aload_n 0, 1) := by decide +kernel
theorem dE_load_87 : decode cE_load 87 = .ok (.getfield 24, 3) := by decide +kernel
theorem dE_load_90 : decode cE_load 90 = .ok (.aload_n 0, 1) := by decide +kernel
theorem dE_load_91 : decode cE_load 91 = .ok (.getfield 7, 3) := by decide +kernel
theorem dE_load_94 : decode cE_load 94 = .ok (.iload_n 1, 1) := by decide +kernel
theorem dE_load_95 : decode cE_load 95 = .ok (.invokevirtual 54, 3) := by decide +kernel
theorem dE_load_98 : decode cE_load 98 = .ok (.aload_n 0, 1) := by decide +kernel
theorem dE_load_99 : decode cE_load 99 = .ok (.getfield 36, 3) := by decide +kernel
theorem dE_load_102 : decode cE_load 102 = .ok (.aload_n 0, 1) := by decide +kernel
theorem dE_load_103 : decode cE_load 103 = .ok (.getfield 47, 3) := by decide +kernel
theorem dE_load_106 : decode cE_load 106 = .ok (.invokevirtual 58, 3) := by decide +kernel
theorem dE_load_109 : decode cE_load 109 = .ok (.aload_n 0, 1) := by decide +kernel
theorem dE_load_110 : decode cE_load 110 = .ok (.getfield 24, 3) := by decide +kernel
theorem dE_load_113 : decode cE_load 113 = .ok (.getfield 62, 3) := by decide +kernel
theorem dE_load_116 : decode cE_load 116 = .ok (.ifCond .ne 14, 3) := by decide +kernel
theorem dE_load_119 : decode cE_load 119 = .ok (.aload_n 0, 1) := by decide +kernel
theorem dE_load_120 : decode cE_load 120 = .ok (.getfield 43, 3) := by decide +kernel
theorem dE_load_123 : decode cE_load 123 = .ok (.aload_n 0, 1) := by decide +kernel
theorem dE_load_124 : decode cE_load 124 = .ok (.getfield 47, 3) := by decide +kernel
theorem dE_load_127 : decode cE_load 127 = .ok (.invokevirtual 65, 3) := by decide +kernel
theorem dE_load_130 : decode cE_load 130 = .ok (.aload_n 0, 1) := by decide +kernel
theorem dE_load_131 : decode cE_load 131 = .ok (.getfield 24, 3) := by decide +kernel
theorem dE_load_134 : decode cE_load 134 = .ok (.invokevirtual 68, 3) := by decide +kernel
theorem dE_load_137 : decode cE_load 137 = .ok (.istore_n 2, 1) := by decide +kernel
theorem dE_load_138 : decode cE_load 138 = .ok (.iload_n 2, 1) := by decide +kernel
theorem dE_load_139 : decode cE_load 139 = .ok (.ifCond .eq 16, 3) := by decide +kernel
theorem dE_load_142 : decode cE_load 142 = .ok (.aload_n 0, 1) := by decide +kernel
theorem dE_load_143 : decode cE_load 143 = .ok (.aload_n 0, 1) := by decide +kernel
theorem dE_load_144 : decode cE_load 144 = .ok (.getfield 24, 3) := by decide +kernel
theorem dE_load_147 : decode cE_load 147 = .ok (.invokevirtual 72, 3) := by decide +kernel
theorem dE_load_150 : decode cE_load 150 = .ok (.putfield 13, 3) := by decide +kernel
theorem dE_load_153 : decode cE_load 153 = .ok (.iload_n 2, 1) := by decide +kernel
theorem dE_load_154 : decode cE_load 154 = .ok (.ireturn, 1) := by decide +kernel
theorem dE_load_155 : decode cE_load 155 = .ok (.aload_n 0, 1) := by decide +kernel
theorem dE_load_156 : decode cE_load 156 = .ok (.getfield 43, 3) := by decide +kernel
theorem dE_load_159 : decode cE_load 159 = .ok (.aload_n 0, 1) := by decide +kernel
theorem dE_load_160 : decode cE_load 160 = .ok (.getfield 47, 3) := by decide +kernel
theorem dE_load_163 : decode cE_load 163 = .ok (.invokevirtual 74, 3) := by decide +kernel
theorem dE_load_166 : decode cE_load 166 = .ok (.aload_n 0, 1) := by decide +kernel
theorem dE_load_167 : decode cE_load 167 = .ok (.getfield 77, 3) := by decide +kernel
theorem dE_load_170 : decode cE_load 170 = .ok (.astore_n 3, 1) := by decide +kernel
theorem dE_load_171 : decode cE_load 171 = .ok (.aload_n 0, 1) := by decide +kernel
theorem dE_load_172 : decode cE_load 172 = .ok (.aload_n 0, 1) := by decide +kernel
theorem dE_load_173 : decode cE_load 173 = .ok (.getfield 47, 3) := by decide +kernel
theorem dE_load_176 : decode cE_load 176 = .ok (.putfield 77, 3) := by decide +kernel
theorem dE_load_179 : decode cE_load 179 = .ok (.aload_n 0, 1) := by decide +kernel
theorem dE_load_180 : decode cE_load 180 = .ok (.aload_n 3, 1) := by decide +kernel
theorem dE_load_181 : decode cE_load 181 = .ok (.putfield 47, 3) := by decide +kernel
theorem dE_load_184 : decode cE_load 184 = .ok (.aload_n 0, 1) := by decide +kernel
theorem dE_load_185 : decode cE_load 185 = .ok (.iconst 0, 1) := by decide +kernel
theorem dE_load_186 : decode cE_load 186 = .ok (.putfield 80, 3) := by decide +kernel
theorem dE_load_189 : decode cE_load 189 = .ok (.iconst 0, 1) := by decide +kernel
theorem dE_load_190 : decode cE_load 190 = .ok (.ireturn, 1) := by decide +kernel
theorem flE_24 : Cond.fieldLink RE 24 RE (TE 2).2.1 (TE 2).2.2.1 ∈ tb := tm 331 (by decide +kernel) rfl
theorem flE_36 : Cond.fieldLink RE 36 RE (TE 3).2.1 (TE 3).2.2.1 ∈ tb := tm 332 (by decide +kernel) rfl
theorem flE_43 : Cond.fieldLink RE 43 RE (TE 4).2.1 (TE 4).2.2.1 ∈ tb := tm 333 (by decide +kernel) rfl
theorem flE_47 : Cond.fieldLink RE 47 RE (TE 9).2.1 (TE 9).2.2.1 ∈ tb := tm 338 (by decide +kernel) rfl
theorem flE_62 : Cond.fieldLink RE 62 RTk (TTk 5).2.1 (TTk 5).2.2.1 ∈ tb := tm 464 (by decide +kernel) rfl
theorem flJu_12 : Cond.fieldLink RJu 12 RJu (TJu 2).2.1 (TJu 2).2.2.1 ∈ tb := tm 653 (by decide +kernel) rfl
theorem flJu_18 : Cond.fieldLink RJu 18 RJu (TJu 4).2.1 (TJu 4).2.2.1 ∈ tb := tm 655 (by decide +kernel) rfl
theorem flJu_22 : Cond.fieldLink RJu 22 RJu (TJu 5).2.1 (TJu 5).2.2.1 ∈ tb := tm 656 (by decide +kernel) rfl
theorem flJu_27 : Cond.fieldLink RJu 27 RJu (TJu 7).2.1 (TJu 7).2.2.1 ∈ tb := tm 658 (by decide +kernel) rfl
theorem flJu_30 : Cond.fieldLink RJu 30 RJu (TJu 0).2.1 (TJu 0).2.2.1 ∈ tb := tm 651 (by decide +kernel) rfl
theorem flKd_14 : Cond.fieldLink RKd 14 RKd (TKd 0).2.1 (TKd 0).2.2.1 ∈ tb := tm 537 (by decide +kernel) rfl
theorem flKd_20 : Cond.fieldLink RKd 20 RKd (TKd 1).2.1 (TKd 1).2.2.1 ∈ tb := tm 540 (by decide +kernel) rfl
theorem flKd_23 : Cond.fieldLink RKd 23 RKd (TKd 2).2.1 (TKd 2).2.2.1 ∈ tb := tm 544 (by decide +kernel) rfl
theorem flKd_26 : Cond.fieldLink RKd 26 RKd (TKd 3).2.1 (TKd 3).2.2.1 ∈ tb := tm 548 (by decide +kernel) rfl
theorem flKd_29 : Cond.fieldLink RKd 29 RKd (TKd 4).2.1 (TKd 4).2.2.1 ∈ tb := tm 551 (by decide +kernel) rfl
theorem flKd_33 : Cond.fieldLink RKd 33 RKd (TKd 5).2.1 (TKd 5).2.2.1 ∈ tb := tm 553 (by decide +kernel) rfl
theorem flKd_36 : Cond.fieldLink RKd 36 RKd (TKd 6).2.1 (TKd 6).2.2.1 ∈ tb := tm 555 (by decide +kernel) rfl
theorem flKd_39 : Cond.fieldLink RKd 39 RKd (TKd 7).2.1 (TKd 7).2.2.1 ∈ tb := tm 557 (by decide +kernel) rfl
theorem flNa_9 : Cond.fieldLink RNa 9 RNa (TNa 0).2.1 (TNa 0).2.2.1 ∈ tb := tm 516 (by decide +kernel) rfl
theorem flNa_15 : Cond.fieldLink RNa 15 RNa (TNa 1).2.1 (TNa 1).2.2.1 ∈ tb := tm 518 (by decide +kernel) rfl
theorem flPa_14 : Cond.fieldLink RPa 14 RPa (TPa 2).2.1 (TPa 2).2.2.1 ∈ tb := tm 626 (by decide +kernel) rfl
theorem flPa_18 : Cond.fieldLink RPa 18 RPa (TPa 0).2.1 (TPa 0).2.2.1 ∈ tb := tm 624 (by decide +kernel) rfl
theorem flPa_22 : Cond.fieldLink RPa 22 RPa (TPa 1).2.1 (TPa 1).2.2.1 ∈ tb := tm 625 (by decide +kernel) rfl
theorem flPa_31 : Cond.fieldLink RPa 31 RPa (TPa 3).2.1 (TPa 3).2.2.1 ∈ tb := tm 627 (by decide +kernel) rfl
theorem flPa_37 : Cond.fieldLink RPa 37 RTk (TTk 5).2.1 (TTk 5).2.2.1 ∈ tb := tm 461 (by decide +kernel) rfl
theorem flPa_51 : Cond.fieldLink RPa 51 RTk (TTk 3).2.1 (TTk 3).2.2.1 ∈ tb := tm 456 (by decide +kernel) rfl
theorem flPl_18 : Cond.fieldLink RPl 18 RPl (TPl 0).2.1 (TPl 0).2.2.1 ∈ tb := tm 693 (by decide +kernel) rfl
theorem flPl_22 : Cond.fieldLink RPl 22 RPl (TPl 1).2.1 (TPl 1).2.2.1 ∈ tb := tm 698 (by decide +kernel) rfl
theorem flPl_25 : Cond.fieldLink RPl 25 RPl (TPl 2).2.1 (TPl 2).2.2.1 ∈ tb := tm 705 (by decide +kernel) rfl
theorem flPl_30 : Cond.fieldLink RPl 30 RPl (TPl 3).2.1 (TPl 3).2.2.1 ∈ tb := tm 710 (by decide +kernel) rfl
theorem flPl_34 : Cond.fieldLink RPl 34 RPl (TPl 4).2.1 (TPl 4).2.2.1 ∈ tb := tm 717 (by decide +kernel) rfl
theorem flPl_38 : Cond.fieldLink RPl 38 RPl (TPl 5).2.1 (TPl 5).2.2.1 ∈ tb := tm 721 (by decide +kernel) rfl
theorem flPl_41 : Cond.fieldLink RPl 41 RPl (TPl 6).2.1 (TPl 6).2.2.1 ∈ tb := tm 723 (by decide +kernel) rfl
theorem flPl_44 : Cond.fieldLink RPl 44 RPl (TPl 7).2.1 (TPl 7).2.2.1 ∈ tb := tm 726 (by decide +kernel) rfl
theorem flPl_47 : Cond.fieldLink RPl 47 RPl (TPl 8).2.1 (TPl 8).2.2.1 ∈ tb := tm 728 (by decide +kernel) rfl
theorem flPl_50 : Cond.fieldLink RPl 50 RPl (TPl 9).2.1 (TPl 9).2.2.1 ∈ tb := tm 731 (by decide +kernel) rfl
theorem flPl_53 : Cond.fieldLink RPl 53 RPl (TPl 10).2.1 (TPl 10).2.2.1 ∈ tb := tm 734 (by decide +kernel) rfl
theorem flPl_56 : Cond.fieldLink RPl 56 RPl (TPl 11).2.1 (TPl 11).2.2.1 ∈ tb := tm 737 (by decide +kernel) rfl
theorem flPl_59 : Cond.fieldLink RPl 59 RPl (TPl 12).2.1 (TPl 12).2.2.1 ∈ tb := tm 741 (by decide +kernel) rfl
theorem flPl_62 : Cond.fieldLink RPl 62 RPl (TPl 13).2.1 (TPl 13).2.2.1 ∈ tb := tm 745 (by decide +kernel) rfl
theorem flPl_65 : Cond.fieldLink RPl 65 RPl (TPl 15).2.1 (TPl 15).2.2.1 ∈ tb := tm 751 (by decide +kernel) rfl
theorem flPl_68 : Cond.fieldLink RPl 68 RPl (TPl 17).2.1 (TPl 17).2.2.1 ∈ tb := tm 756 (by decide +kernel) rfl
theorem flPl_71 : Cond.fieldLink RPl 71 RPl (TPl 18).2.1 (TPl 18).2.2.1 ∈ tb := tm 758 (by decide +kernel) rfl
theorem flPl_75 : Cond.fieldLink RPl 75 RNa (TNa 2).2.1 (TNa 2).2.2.1 ∈ tb := tm 521 (by decide +kernel) rfl
theorem flPl_79 : Cond.fieldLink RPl 79 RPl (TPl 14).2.1 (TPl 14).2.2.1 ∈ tb := tm 747 (by decide +kernel) rfl
theorem flPl_80 : Cond.fieldLink RPl 80 RPl (TPl 16).2.1 (TPl 16).2.2.1 ∈ tb := tm 754 (by decide +kernel) rfl
theorem flPl_83 : Cond.fieldLink RPl 83 RPl (TPl 19).2.1 (TPl 19).2.2.1 ∈ tb := tm 761 (by decide +kernel) rfl
theorem flTk_9 : Cond.fieldLink RTk 9 RTk (TTk 0).2.1 (TTk 0).2.2.1 ∈ tb := tm 445 (by decide +kernel) rfl
theorem flTk_13 : Cond.fieldLink RTk 13 RTk (TTk 1).2.1 (TTk 1).2.2.1 ∈ tb := tm 448 (by decide +kernel) rfl
theorem flTk_16 : Cond.fieldLink RTk 16 RTk (TTk 2).2.1 (TTk 2).2.2.1 ∈ tb := tm 452 (by decide +kernel) rfl
theorem flTk_20 : Cond.fieldLink RTk 20 RTk (TTk 9).2.1 (TTk 9).2.2.1 ∈ tb := tm 468 (by decide +kernel) rfl
theorem flTk_23 : Cond.fieldLink RTk 23 RTk (TTk 10).2.1 (TTk 10).2.2.1 ∈ tb := tm 469 (by decide +kernel) rfl
theorem flTk_55 : Cond.fieldLink RTk 55 RTk (TTk 11).2.1 (TTk 11).2.2.1 ∈ tb := tm 470 (by decide +kernel) rfl
theorem flTk_58 : Cond.fieldLink RTk 58 RTk (TTk 3).2.1 (TTk 3).2.2.1 ∈ tb := tm 458 (by decide +kernel) rfl
theorem flTk_61 : Cond.fieldLink RTk 61 RTk (TTk 4).2.1 (TTk 4).2.2.1 ∈ tb := tm 459 (by decide +kernel) rfl
theorem flTk_64 : Cond.fieldLink RTk 64 RTk (TTk 5).2.1 (TTk 5).2.2.1 ∈ tb := tm 463 (by decide +kernel) rfl
theorem flTk_67 : Cond.fieldLink RTk 67 RTk (TTk 7).2.1 (TTk 7).2.2.1 ∈ tb := tm 466 (by decide +kernel) rfl
theorem flTk_103 : Cond.fieldLink RTk 103 RTk (TTk 6).2.1 (TTk 6).2.2.1 ∈ tb := tm 465 (by decide +kernel) rfl
theorem clE_28 : Cond.classLink RE 28 RTk ∈ tb := tm 379 (by decide +kernel) rfl
theorem clE_31 : Cond.classLink RE 31 RPa ∈ tb := tm 498 (by decide +kernel) rfl
theorem clE_40 : Cond.classLink RE 40 RJu ∈ tb := tm 643 (by decide +kernel) rfl
theorem clE_51 : Cond.classLink RE 51 RPl ∈ tb := tm 682 (by decide +kernel) rfl
theorem clJu_9 : Cond.classLink RJu 9 RKd ∈ tb := tm 649 (by decide +kernel) rfl
theorem clKd_7 : Cond.classLink RKd 7 RNa ∈ tb := tm 510 (by decide +kernel) rfl
theorem clPa_1 : Cond.classLink RPa 1 RKd ∈ tb := tm 504 (by decide +kernel) rfl
theorem clPl_13 : Cond.classLink RPl 13 RNa ∈ tb := tm 688 (by decide +kernel) rfl
theorem clPl_28 : Cond.classLink RPl 28 RKd ∈ tb := tm 690 (by decide +kernel) rfl
theorem mlE_30 : Cond.methodLink RE 30 yTk_init ∈ tb := tm 381 (by decide +kernel) rfl
theorem imTk_init : Cond.instanceMethod yTk_init ∈ tb := tm 382 (by decide +kernel) rfl
theorem iiTk_init : Cond.initialized yTk_init.cls ∈ tb := tm 307 (by decide +kernel) rfl
theorem icTk_init : Cond.code yTk_init cTk_init 1 none ∈ tb := tm 383 (by decide +kernel) rfl
theorem npTk_init : nPar yTk_init 0 := by decide +kernel
theorem mlE_33 : Cond.methodLink RE 33 yPa_init ∈ tb := tm 500 (by decide +kernel) rfl
theorem imPa_init : Cond.instanceMethod yPa_init ∈ tb := tm 501 (by decide +kernel) rfl
theorem iiPa_init : Cond.initialized yPa_init.cls ∈ tb := tm 308 (by decide +kernel) rfl
theorem icPa_init : Cond.code yPa_init cPa_init 2 none ∈ tb := tm 502 (by decide +kernel) rfl
theorem npPa_init : nPar yPa_init 1 := by decide +kernel
theorem mlE_42 : Cond.methodLink RE 42 yJu_init ∈ tb := tm 645 (by decide +kernel) rfl
theorem imJu_init : Cond.instanceMethod yJu_init ∈ tb := tm 646 (by decide +kernel) rfl
theorem iiJu_init : Cond.initialized yJu_init.cls ∈ tb := tm 311 (by decide +kernel) rfl
theorem icJu_init : Cond.code yJu_init cJu_init 2 none ∈ tb := tm 647 (by decide +kernel) rfl
theorem npJu_init : nPar yJu_init 1 := by decide +kernel
theorem mlE_53 : Cond.methodLink RE 53 yPl_init ∈ tb := tm 684 (by decide +kernel) rfl
theorem imPl_init : Cond.instanceMethod yPl_init ∈ tb := tm 685 (by decide +kernel) rfl
theorem iiPl_init : Cond.initialized yPl_init.cls ∈ tb := tm 312 (by decide +kernel) rfl
theorem icPl_init : Cond.code yPl_init cPl_init 2 none ∈ tb := tm 686 (by decide +kernel) rfl
theorem npPl_init : nPar yPl_init 0 := by decide +kernel
theorem imKd_init : Cond.instanceMethod yKd_init ∈ tb := tm 507 (by decide +kernel) rfl
theorem iiKd_init : Cond.initialized yKd_init.cls ∈ tb := tm 309 (by decide +kernel) rfl
theorem icKd_init : Cond.code yKd_init cKd_init 1 none ∈ tb := tm 508 (by decide +kernel) rfl
theorem npKd_init : nPar yKd_init 0 := by decide +kernel
theorem mlKd_11 : Cond.methodLink RKd 11 yNa_init ∈ tb := tm 512 (by decide +kernel) rfl
theorem imNa_init : Cond.instanceMethod yNa_init ∈ tb := tm 513 (by decide +kernel) rfl
theorem iiNa_init : Cond.initialized yNa_init.cls ∈ tb := tm 310 (by decide +kernel) rfl
theorem icNa_init : Cond.code yNa_init cNa_init 2 none ∈ tb := tm 514 (by decide +kernel) rfl
theorem npNa_init : nPar yNa_init 1 := by decide +kernel
theorem mlPl_15 : Cond.methodLink RPl 15 yNa_init ∈ tb := tm 689 (by decide +kernel) rfl
theorem mlPl_86 : Cond.methodLink RPl 86 yJ7_fill_53178 ∈ tb := tm 853 (by decide +kernel) rfl
theorem isJ7_fill_53178 : Cond.static yJ7_fill_53178 ∈ tb := tm 854 (by decide +kernel) rfl
theorem iiJ7_fill_53178 : Cond.initialized yJ7_fill_53178.cls ∈ tb := tm 313 (by decide +kernel) rfl
theorem icJ7_fill_53178 : Cond.code yJ7_fill_53178 cJ7_fill_53178 4 none ∈ tb := tm 855 (by decide +kernel) rfl
theorem npJ7_fill_53178 : nPar yJ7_fill_53178 2 := by decide +kernel
theorem vE_feed_20 : OkV RE 20 yE_write cE_write 3 none 1 := ⟨aw_v (tm 371 (by decide +kernel) rfl) (tm 373 (by decide +kernel) rfl) (tm 0 (by decide +kernel) rfl) (tm 301 (by decide +kernel) rfl) (tm 374 (by decide +kernel) rfl), by decide +kernel, by decide +kernel, by decide +kernel⟩
theorem koNa : Cond.methodLink RNa 3 Lib.objectInit ∈ tb := tm 515 (by decide +kernel) rfl
theorem koKd : Cond.methodLink RKd 1 Lib.objectInit ∈ tb := tm 509 (by decide +kernel) rfl
theorem koJu : Cond.methodLink RJu 3 Lib.objectInit ∈ tb := tm 648 (by decide +kernel) rfl
theorem koPa : Cond.methodLink RPa 7 Lib.objectInit ∈ tb := tm 503 (by decide +kernel) rfl
theorem koTk : Cond.methodLink RTk 1 Lib.objectInit ∈ tb := tm 384 (by decide +kernel) rfl
theorem vTk_init_35 : OkV RTk 35 yTk_learn cTk_learn 8 (some .int) 2 := ⟨aw_v (tm 389 (by decide +kernel) rfl) (tm 391 (by decide +kernel) rfl) (tm 1 (by decide +kernel) rfl) (tm 307 (by decide +kernel) rfl) (tm 392 (by decide +kernel) rfl), by decide +kernel, by decide +kernel, by decide +kernel⟩
theorem vTk_read_70 : OkV RTk 70 yTk_gap cTk_gap 5 (some .int) 1 := ⟨aw_v (tm 809 (by decide +kernel) rfl) (tm 811 (by decide +kernel) rfl) (tm 2 (by decide +kernel) rfl) (tm 307 (by decide +kernel) rfl) (tm 812 (by decide +kernel) rfl), by decide +kernel, by decide +kernel, by decide +kernel⟩
theorem koPl : Cond.methodLink RPl 7 Lib.objectInit ∈ tb := tm 687 (by decide +kernel) rfl
theorem vPa_parse_26 : OkV RPa 26 yPl_clear cPl_clear 1 none 0 := ⟨aw_v (tm 849 (by decide +kernel) rfl) (tm 850 (by decide +kernel) rfl) (tm 851 (by decide +kernel) rfl) (tm 312 (by decide +kernel) rfl) (tm 852 (by decide +kernel) rfl), by decide +kernel, by decide +kernel, by decide +kernel⟩
theorem vPa_parse_40 : OkV RPa 40 yPa_isOver cPa_isOver 2 (some .boolean) 1 := ⟨aw_v (tm 856 (by decide +kernel) rfl) (tm 858 (by decide +kernel) rfl) (tm 9 (by decide +kernel) rfl) (tm 308 (by decide +kernel) rfl) (tm 859 (by decide +kernel) rfl), by decide +kernel, by decide +kernel, by decide +kernel⟩
theorem vPa_parse_44 : OkV RPa 44 yTk_seen cTk_seen 1 (some .int) 0 := ⟨aw_v (tm 860 (by decide +kernel) rfl) (tm 861 (by decide +kernel) rfl) (tm 862 (by decide +kernel) rfl) (tm 307 (by decide +kernel) rfl) (tm 863 (by decide +kernel) rfl), by decide +kernel, by decide +kernel, by decide +kernel⟩
theorem vPa_parse_48 : OkV RPa 48 yPa_fits cPa_fits 2 (some .boolean) 1 := ⟨aw_v (tm 864 (by decide +kernel) rfl) (tm 866 (by decide +kernel) rfl) (tm 10 (by decide +kernel) rfl) (tm 308 (by decide +kernel) rfl) (tm 867 (by decide +kernel) rfl), by decide +kernel, by decide +kernel, by decide +kernel⟩
theorem vPa_parse_54 : OkV RPa 54 yTk_fail cTk_fail 3 none 2 := ⟨aw_v (tm 868 (by decide +kernel) rfl) (tm 869 (by decide +kernel) rfl) (tm 870 (by decide +kernel) rfl) (tm 307 (by decide +kernel) rfl) (tm 871 (by decide +kernel) rfl), by decide +kernel, by decide +kernel, by decide +kernel⟩
theorem vPa_parse_58 : OkV RPa 58 yTk_take cTk_take 2 (some .boolean) 1 := ⟨aw_v (tm 872 (by decide +kernel) rfl) (tm 873 (by decide +kernel) rfl) (tm 874 (by decide +kernel) rfl) (tm 307 (by decide +kernel) rfl) (tm 875 (by decide +kernel) rfl), by decide +kernel, by decide +kernel, by decide +kernel⟩
theorem vE_load_54 : OkV RE 54 yTk_read cTk_read 7 none 2 := ⟨aw_v (tm 805 (by decide +kernel) rfl) (tm 806 (by decide +kernel) rfl) (tm 807 (by decide +kernel) rfl) (tm 307 (by decide +kernel) rfl) (tm 808 (by decide +kernel) rfl), by decide +kernel, by decide +kernel, by decide +kernel⟩
theorem vE_load_58 : OkV RE 58 yPa_parse cPa_parse 4 none 1 := ⟨aw_v (tm 845 (by decide +kernel) rfl) (tm 846 (by decide +kernel) rfl) (tm 847 (by decide +kernel) rfl) (tm 308 (by decide +kernel) rfl) (tm 848 (by decide +kernel) rfl), by decide +kernel, by decide +kernel, by decide +kernel⟩
theorem vE_load_68 : OkV RE 68 yTk_fault cTk_fault 1 (some .int) 0 := ⟨aw_v (tm 1198 (by decide +kernel) rfl) (tm 1199 (by decide +kernel) rfl) (tm 1200 (by decide +kernel) rfl) (tm 307 (by decide +kernel) rfl) (tm 1201 (by decide +kernel) rfl), by decide +kernel, by decide +kernel, by decide +kernel⟩
theorem vE_load_72 : OkV RE 72 yTk_faultPlace cTk_faultPlace 1 (some .int) 0 := ⟨aw_v (tm 1202 (by decide +kernel) rfl) (tm 1203 (by decide +kernel) rfl) (tm 1204 (by decide +kernel) rfl) (tm 307 (by decide +kernel) rfl) (tm 1205 (by decide +kernel) rfl), by decide +kernel, by decide +kernel, by decide +kernel⟩
