theorem dX1_init_0 : decode cX1_init 0 = .ok (.aload_n 0, 1) := by decide +kernel
theorem dX1_init_1 : decode cX1_init 1 = .ok (.invokespecial 3, 3) := by decide +kernel
theorem dX1_init_4 : decode cX1_init 4 = .ok (.aload_n 0, 1) := by decide +kernel
theorem dX1_init_5 : decode cX1_init 5 = .ok (.new 9, 3) := by decide +kernel
theorem dX1_init_8 : decode cX1_init 8 = .ok (.dup, 1) := by decide +kernel
theorem dX1_init_9 : decode cX1_init 9 = .ok (.invokespecial 11, 3) := by decide +kernel
theorem dX1_init_12 : decode cX1_init 12 = .ok (.putfield 12, 3) := by decide +kernel
theorem dX1_init_15 : decode cX1_init 15 = .ok (.aload_n 0, 1) := by decide +kernel
theorem dX1_init_16 : decode cX1_init 16 = .ok (.bipush 60, 2) := by decide +kernel
theorem dX1_init_18 : decode cX1_init 18 = .ok (.newarray .int, 2) := by decide +kernel
theorem dX1_init_20 : decode cX1_init 20 = .ok (.putfield 18, 3) := by decide +kernel
theorem dX1_init_23 : decode cX1_init 23 = .ok (.aload_n 0, 1) := by decide +kernel
theorem dX1_init_24 : decode cX1_init 24 = .ok (.bipush 60, 2) := by decide +kernel
theorem dX1_init_26 : decode cX1_init 26 = .ok (.newarray .int, 2) := by decide +kernel
theorem dX1_init_28 : decode cX1_init 28 = .ok (.putfield 22, 3) := by decide +kernel
theorem dX1_init_31 : decode cX1_init 31 = .ok (.aload_n 0, 1) := by decide +kernel
theorem dX1_init_32 : decode cX1_init 32 = .ok (.bipush 60, 2) := by decide +kernel
theorem dX1_init_34 : decode cX1_init 34 = .ok (.newarray .int, 2) := by decide +kernel
theorem dX1_init_36 : decode cX1_init 36 = .ok (.putfield 25, 3) := by decide +kernel
theorem dX1_init_39 : decode cX1_init 39 = .ok (.aload_n 0, 1) := by decide +kernel
theorem dX1_init_40 : decode cX1_init 40 = .ok (.iconst 0, 1) := by decide +kernel
theorem dX1_init_41 : decode cX1_init 41 = .ok (.putfield 28, 3) := by decide +kernel
theorem dX1_init_44 : decode cX1_init 44 = .ok (.aload_n 0, 1) := by decide +kernel
theorem dX1_init_45 : decode cX1_init 45 = .ok (.iconst 0, 1) := by decide +kernel
theorem dX1_init_46 : decode cX1_init 46 = .ok (.putfield 32, 3) := by decide +kernel
theorem dX1_init_49 : decode cX1_init 49 = .ok (.return_, 1) := by decide +kernel
theorem dX1_read_0 : decode cX1_read 0 = .ok (.aload_n 0, 1) := by decide +kernel
theorem dX1_read_1 : decode cX1_read 1 = .ok (.iconst 0, 1) := by decide +kernel
theorem dX1_read_2 : decode cX1_read 2 = .ok (.putfield 32, 3) := by decide +kernel
theorem dX1_read_5 : decode cX1_read 5 = .ok (.aload_n 0, 1) := by decide +kernel
theorem dX1_read_6 : decode cX1_read 6 = .ok (.iconst 0, 1) := by decide +kernel
theorem dX1_read_7 : decode cX1_read 7 = .ok (.putfield 28, 3) := by decide +kernel
theorem dX1_read_10 : decode cX1_read 10 = .ok (.aload_n 0, 1) := by decide +kernel
theorem dX1_read_11 : decode cX1_read 11 = .ok (.getfield 28, 3) := by decide +kernel
theorem dX1_read_14 : decode cX1_read 14 = .ok (.bipush 60, 2) := by decide +kernel
theorem dX1_read_16 : decode cX1_read 16 = .ok (.if_icmp .ge 51, 3) := by decide +kernel
theorem dX1_read_19 : decode cX1_read 19 = .ok (.aload_n 0, 1) := by decide +kernel
theorem dX1_read_20 : decode cX1_read 20 = .ok (.aload_n 0, 1) := by decide +kernel
theorem dX1_read_21 : decode cX1_read 21 = .ok (.getfield 28, 3) := by decide +kernel
theorem dX1_read_24 : decode cX1_read 24 = .ok (.invokevirtual 35, 3) := by decide +kernel
theorem dX1_read_27 : decode cX1_read 27 = .ok (.ifCond .eq 40, 3) := by decide +kernel
theorem dX1_read_30 : decode cX1_read 30 = .ok (.aload_n 0, 1) := by decide +kernel
theorem dX1_read_31 : decode cX1_read 31 = .ok (.dup, 1) := by decide +kernel
theorem dX1_read_32 : decode cX1_read 32 = .ok (.getfield 28, 3) := by decide +kernel
theorem dX1_read_35 : decode cX1_read 35 = .ok (.iconst 1, 1) := by decide +kernel
theorem dX1_read_36 : decode cX1_read 36 = .ok (.iadd, 1) := by decide +kernel
theorem dX1_read_37 : decode cX1_read 37 = .ok (.putfield 28, 3) := by decide +kernel
theorem dX1_read_40 : decode cX1_read 40 = .ok (.aload_n 0, 1) := by decide +kernel
theorem dX1_read_41 : decode cX1_read 41 = .ok (.getfield 32, 3) := by decide +kernel
theorem dX1_read_44 : decode cX1_read 44 = .ok (.aload_n 0, 1) := by decide +kernel
theorem dX1_read_45 : decode cX1_read 45 = .ok (.getfield 12, 3) := by decide +kernel
theorem dX1_read_48 : decode cX1_read 48 = .ok (.invokevirtual 39, 3) := by decide +kernel
theorem dX1_read_51 : decode cX1_read 51 = .ok (.if_icmp .lt 5, 3) := by decide +kernel
theorem dX1_read_54 : decode cX1_read 54 = .ok (.iconst 1, 1) := by decide +kernel
theorem dX1_read_55 : decode cX1_read 55 = .ok (.ireturn, 1) := by decide +kernel
theorem dX1_read_56 : decode cX1_read 56 = .ok (.aload_n 0, 1) := by decide +kernel
theorem dX1_read_57 : decode cX1_read 57 = .ok (.bipush 59, 2) := by decide +kernel
theorem dX1_read_59 : decode cX1_read 59 = .ok (.invokevirtual 43, 3) := by decide +kernel
theorem dX1_read_62 : decode cX1_read 62 = .ok (.ifCond .ne (-52), 3) := by decide +kernel
theorem dX1_read_65 : decode cX1_read 65 = .ok (.iconst 0, 1) := by decide +kernel
theorem dX1_read_66 : decode cX1_read 66 = .ok (.ireturn, 1) := by decide +kernel
theorem dX1_read_67 : decode cX1_read 67 = .ok (.iconst 0, 1) := by decide +kernel
theorem dX1_read_68 : decode cX1_read 68 = .ok (.ireturn, 1) := by decide +kernel
theorem dX1_readCommand_0 : decode cX1_readCommand 0 = .ok (.aload_n 0, 1) := by decide +kernel
theorem dX1_readCommand_1 : decode cX1_readCommand 1 = .ok (.getfield 32, 3) := by decide +kernel
theorem dX1_readCommand_4 : decode cX1_readCommand 4 = .ok (.aload_n 0, 1) := by decide +kernel
theorem dX1_readCommand_5 : decode cX1_readCommand 5 = .ok (.getfield 12, 3) := by decide +kernel
theorem dX1_readCommand_8 : decode cX1_readCommand 8 = .ok (.invokevirtual 39, 3) := by decide +kernel
theorem dX1_readCommand_11 : decode cX1_readCommand 11 = .ok (.if_icmp .ge 22, 3) := by decide +kernel
theorem dX1_readCommand_14 : decode cX1_readCommand 14 = .ok (.ldc 47, 2) := by decide +kernel
theorem dX1_readCommand_16 : decode cX1_readCommand 16 = .ok (.aload_n 0, 1) := by decide +kernel
theorem dX1_readCommand_17 : decode cX1_readCommand 17 = .ok (.getfield 12, 3) := by decide +kernel
theorem dX1_readCommand_20 : decode cX1_readCommand 20 = .ok (.aload_n 0, 1) := by decide +kernel
theorem dX1_readCommand_21 : decode cX1_readCommand 21 = .ok (.getfield 32, 3) := by decide +kernel
theorem dX1_readCommand_24 : decode cX1_readCommand 24 = .ok (.invokevirtual 49, 3) := by decide +kernel
theorem dX1_readCommand_27 : decode cX1_readCommand 27 = .ok (.invokevirtual 53, 3) := by decide +kernel
theorem dX1_readCommand_30 : decode cX1_readCommand 30 = .ok (.ifCond .ge 5, 3) := by decide +kernel
theorem dX1_readCommand_33 : decode cX1_readCommand 33 = .ok (.iconst 0, 1) := by decide +kernel
theorem dX1_readCommand_34 : decode cX1_readCommand 34 = .ok (.ireturn, 1) := by decide +kernel
theorem dX1_readCommand_35 : decode cX1_readCommand 35 = .ok (.aload_n 0, 1) := by decide +kernel
theorem dX1_readCommand_36 : decode cX1_readCommand 36 = .ok (.getfield 18, 3) := by decide +kernel
theorem dX1_readCommand_39 : decode cX1_readCommand 39 = .ok (.iload_n 1, 1) := by decide +kernel
theorem dX1_readCommand_40 : decode cX1_readCommand 40 = .ok (.aload_n 0, 1) := by decide +kernel
theorem dX1_readCommand_41 : decode cX1_readCommand 41 = .ok (.getfield 12, 3) := by decide +kernel
theorem dX1_readCommand_44 : decode cX1_readCommand 44 = .ok (.aload_n 0, 1) := by decide +kernel
theorem dX1_readCommand_45 : decode cX1_readCommand 45 = .ok (.getfield 32, 3) := by decide +kernel
theorem dX1_readCommand_48 : decode cX1_readCommand 48 = .ok (.invokevirtual 49, 3) := by decide +kernel
theorem dX1_readCommand_51 : decode cX1_readCommand 51 = .ok (.iastore, 1) := by decide +kernel
theorem dX1_readCommand_52 : decode cX1_readCommand 52 = .ok (.aload_n 0, 1) := by decide +kernel
theorem dX1_readCommand_53 : decode cX1_readCommand 53 = .ok (.getfield 22, 3) := by decide +kernel
theorem dX1_readCommand_56 : decode cX1_readCommand 56 = .ok (.iload_n 1, 1) := by decide +kernel
theorem dX1_readCommand_57 : decode cX1_readCommand 57 = .ok (.iconst 0, 1) := by decide +kernel
theorem dX1_readCommand_58 : decode cX1_readCommand 58 = .ok (.iastore, 1) := by decide +kernel
theorem dX1_readCommand_59 : decode cX1_readCommand 59 = .ok (.aload_n 0, 1) := by decide +kernel
theorem dX1_readCommand_60 : decode cX1_readCommand 60 = .ok (.getfield 25, 3) := by decide +kernel
theorem dX1_readCommand_63 : decode cX1_readCommand 63 = .ok (.iload_n 1, 1) := by decide +kernel
theorem dX1_readCommand_64 : decode cX1_readCommand 64 = .ok (.iconst 0, 1) := by decide +kernel
theorem dX1_readCommand_65 : decode cX1_readCommand 65 = .ok (.iastore, 1) := by decide +kernel
theorem dX1_readCommand_66 : decode cX1_readCommand 66 = .ok (.aload_n 0, 1) := by decide +kernel
theorem dX1_readCommand_67 : decode cX1_readCommand 67 = .ok (.dup, 1) := by decide +kernel
theorem dX1_readCommand_68 : decode cX1_readCommand 68 = .ok (.getfield 32, 3) := by decide +kernel
theorem dX1_readCommand_71 : decode cX1_readCommand 71 = .ok (.iconst 1, 1) := by decide +kernel
theorem dX1_readCommand_72 : decode cX1_readCommand 72 = .ok (.iadd, 1) := by decide +kernel
theorem dX1_readCommand_73 : decode cX1_readCommand 73 = .ok (.putfield 32, 3) := by decide +kernel
theorem dX1_readCommand_76 : decode cX1_readCommand 76 = .ok (.aload_n 0, 1) := by decide +kernel
theorem dX1_readCommand_77 : decode cX1_readCommand 77 = .ok (.getfield 18, 3) := by decide +kernel
theorem dX1_readCommand_80 : decode cX1_readCommand 80 = .ok (.iload_n 1, 1) := by decide +kernel
theorem dX1_readCommand_81 : decode cX1_readCommand 81 = .ok (.iaload, 1) := by decide +kernel
theorem dX1_readCommand_82 : decode cX1_readCommand 82 = .ok (.tableswitch 187 99 121 #[108, 187, 187, 174, 187, 187, 187, 187, 187, 187, 187, 187, 187, 181, 106, 187, 187, 174, 187, 187, 187, 106, 141], 106) := by decide +kernel
theorem dX1_readCommand_188 : decode cX1_readCommand 188 = .ok (.iconst 1, 1) := by decide +kernel
theorem dX1_readCommand_189 : decode cX1_readCommand 189 = .ok (.ireturn, 1) := by decide +kernel
theorem dX1_readCommand_190 : decode cX1_readCommand 190 = .ok (.aload_n 0, 1) := by decide +kernel
theorem dX1_readCommand_191 : decode cX1_readCommand 191 = .ok (.iload_n 1, 1) := by decide +kernel
theorem dX1_readCommand_192 : decode cX1_readCommand 192 = .ok (.iconst 2, 1) := by decide +kernel
theorem dX1_readCommand_193 : decode cX1_readCommand 193 = .ok (.invokevirtual 59, 3) := by decide +kernel
theorem dX1_readCommand_196 : decode cX1_readCommand 196 = .ok (.ifCond .eq 25, 3) := by decide +kernel
theorem dX1_readCommand_199 : decode cX1_readCommand 199 = .ok (.aload_n 0, 1) := by decide +kernel
theorem dX1_readCommand_200 : decode cX1_readCommand 200 = .ok (.bipush 45, 2) := by decide +kernel
theorem dX1_readCommand_202 : decode cX1_readCommand 202 = .ok (.invokevirtual 43, 3) := by decide +kernel
theorem dX1_readCommand_205 : decode cX1_readCommand 205 = .ok (.ifCond .eq 16, 3) := by decide +kernel
theorem dX1_readCommand_208 : decode cX1_readCommand 208 = .ok (.aload_n 0, 1) := by decide +kernel
theorem dX1_readCommand_209 : decode cX1_readCommand 209 = .ok (.iload_n 1, 1) := by decide +kernel
theorem dX1_readCommand_210 : decode cX1_readCommand 210 = .ok (.iconst 2, 1) := by decide +kernel
theorem dX1_readCommand_211 : decode cX1_readCommand 211 = .ok (.invokevirtual 63, 3) := by decide +kernel
theorem dX1_readCommand_214 : decode cX1_readCommand 214 = .ok (.ifCond .eq 7, 3) := by decide +kernel
theorem dX1_readCommand_217 : decode cX1_readCommand 217 = .ok (.iconst 1, 1) := by decide +kernel
theorem dX1_readCommand_218 : decode cX1_readCommand 218 = .ok (.goto 4, 3) := by decide +kernel
theorem dX1_readCommand_221 : decode cX1_readCommand 221 = .ok (.iconst 0, 1) := by decide +kernel
theorem dX1_readCommand_222 : decode cX1_readCommand 222 = .ok (.ireturn, 1) := by decide +kernel
theorem dX1_readCommand_223 : decode cX1_readCommand 223 = .ok (.aload_n 0, 1) := by decide +kernel
theorem dX1_readCommand_224 : decode cX1_readCommand 224 = .ok (.iload_n 1, 1) := by decide +kernel
theorem dX1_readCommand_225 : decode cX1_readCommand 225 = .ok (.iconst 1, 1) := by decide +kernel
theorem dX1_readCommand_226 : decode cX1_readCommand 226 = .ok (.invokevirtual 59, 3) := by decide +kernel
theorem dX1_readCommand_229 : decode cX1_readCommand 229 = .ok (.ifCond .eq 25, 3) := by decide +kernel
theorem dX1_readCommand_232 : decode cX1_readCommand 232 = .ok (.aload_n 0, 1) := by decide +kernel
theorem dX1_readCommand_233 : decode cX1_readCommand 233 = .ok (.bipush 61, 2) := by decide +kernel
theorem dX1_readCommand_235 : decode cX1_readCommand 235 = .ok (.invokevirtual 43, 3) := by decide +kernel
theorem dX1_readCommand_238 : decode cX1_readCommand 238 = .ok (.ifCond .eq 16, 3) := by decide +kernel
theorem dX1_readCommand_241 : decode cX1_readCommand 241 = .ok (.aload_n 0, 1) := by decide +kernel
theorem dX1_readCommand_242 : decode cX1_readCommand 242 = .ok (.iload_n 1, 1) := by decide +kernel
theorem dX1_readCommand_243 : decode cX1_readCommand 243 = .ok (.iconst 2, 1) := by decide +kernel
theorem dX1_readCommand_244 : decode cX1_readCommand 244 = .ok (.invokevirtual 63, 3) := by decide +kernel
theorem dX1_readCommand_247 : decode cX1_readCommand 247 = .ok (.ifCond .eq 7, 3) := by decide +kernel
theorem dX1_readCommand_250 : decode cX1_readCommand 250 = .ok (.iconst 1, 1) := by decide +kernel
theorem dX1_readCommand_251 : decode cX1_readCommand 251 = .ok (.goto 4, 3) := by decide +kernel
theorem dX1_readCommand_254 : decode cX1_readCommand 254 = .ok (.iconst 0, 1) := by decide +kernel
theorem dX1_readCommand_255 : decode cX1_readCommand 255 = .ok (.ireturn, 1) := by decide +kernel
theorem dX1_readCommand_256 : decode cX1_readCommand 256 = .ok (.aload_n 0, 1) := by decide +kernel
theorem dX1_readCommand_257 : decode cX1_readCommand 257 = .ok (.iload_n 1, 1) := by decide +kernel
theorem dX1_readCommand_258 : decode cX1_readCommand 258 = .ok (.iconst 1, 1) := by decide +kernel
theorem dX1_readCommand_259 : decode cX1_readCommand 259 = .ok (.invokevirtual 59, 3) := by decide +kernel
theorem dX1_readCommand_262 : decode cX1_readCommand 262 = .ok (.ireturn, 1) := by decide +kernel
theorem dX1_readCommand_263 : decode cX1_readCommand 263 = .ok (.aload_n 0, 1) := by decide +kernel
theorem dX1_readCommand_264 : decode cX1_readCommand 264 = .ok (.iload_n 1, 1) := by decide +kernel
theorem dX1_readCommand_265 : decode cX1_readCommand 265 = .ok (.invokevirtual 66, 3) := by decide +kernel
theorem dX1_readCommand_268 : decode cX1_readCommand 268 = .ok (.ireturn, 1) := by decide +kernel
theorem dX1_readCommand_269 : decode cX1_readCommand 269 = .ok (.aload_n 0, 1) := by decide +kernel
theorem dX1_readCommand_270 : decode cX1_readCommand 270 = .ok (.iload_n 1, 1) := by decide +kernel
theorem dX1_readCommand_271 : decode cX1_readCommand 271 = .ok (.iconst 2, 1) := by decide +kernel
theorem dX1_readCommand_272 : decode cX1_readCommand 272 = .ok (.invokevirtual 59, 3) := by decide +kernel
theorem dX1_readCommand_275 : decode cX1_readCommand 275 = .ok (.ireturn, 1) := by decide +kernel
theorem dX1_skip_0 : decode cX1_skip 0 = .ok (.aload_n 0, 1) := by decide +kernel
theorem dX1_skip_1 : decode cX1_skip 1 = .ok (.getfield 32, 3) := by decide +kernel
theorem dX1_skip_4 : decode cX1_skip 4 = .ok (.aload_n 0, 1) := by decide +kernel
theorem dX1_skip_5 : decode cX1_skip 5 = .ok (.getfield 12, 3) := by decide +kernel
theorem dX1_skip_8 : decode cX1_skip 8 = .ok (.invokevirtual 39, 3) := by decide +kernel
theorem dX1_skip_11 : decode cX1_skip 11 = .ok (.if_icmp .ge 18, 3) := by decide +kernel
theorem dX1_skip_14 : decode cX1_skip 14 = .ok (.aload_n 0, 1) := by decide +kernel
theorem dX1_skip_15 : decode cX1_skip 15 = .ok (.getfield 12, 3) := by decide +kernel
theorem dX1_skip_18 : decode cX1_skip 18 = .ok (.aload_n 0, 1) := by decide +kernel
theorem dX1_skip_19 : decode cX1_skip 19 = .ok (.getfield 32, 3) := by decide +kernel
theorem dX1_skip_22 : decode cX1_skip 22 = .ok (.invokevirtual 49, 3) := by decide +kernel
theorem dX1_skip_25 : decode cX1_skip 25 = .ok (.iload_n 1, 1) := by decide +kernel
theorem dX1_skip_26 : decode cX1_skip 26 = .ok (.if_icmp .eq 5, 3) := by decide +kernel
theorem dX1_skip_29 : decode cX1_skip 29 = .ok (.iconst 0, 1) := by decide +kernel
theorem dX1_skip_30 : decode cX1_skip 30 = .ok (.ireturn, 1) := by decide +kernel
theorem dX1_skip_31 : decode cX1_skip 31 = .ok (.aload_n 0, 1) := by decide +kernel
theorem dX1_skip_32 : decode cX1_skip 32 = .ok (.dup, 1) := by decide +kernel
theorem dX1_skip_33 : decode cX1_skip 33 = .ok (.getfield 32, 3) := by decide +kernel
theorem dX1_skip_36 : decode cX1_skip 36 = .ok (.iconst 1, 1) := by decide +kernel
theorem dX1_skip_37 : decode cX1_skip 37 = .ok (.iadd, 1) := by decide +kernel
theorem dX1_skip_38 : decode cX1_skip 38 = .ok (.putfield 32, 3) := by decide +kernel
theorem dX1_skip_41 : decode cX1_skip 41 = .ok (.iconst 1, 1) := by decide +kernel
theorem dX1_skip_42 : decode cX1_skip 42 = .ok (.ireturn, 1) := by decide +kernel
theorem dX1_readFirst_0 : decode cX1_readFirst 0 = .ok (.aload_n 0, 1) := by decide +kernel
theorem dX1_readFirst_1 : decode cX1_readFirst 1 = .ok (.getfield 22, 3) := by decide +kernel
theorem dX1_readFirst_4 : decode cX1_readFirst 4 = .ok (.iload_n 1, 1) := by decide +kernel
theorem dX1_readFirst_5 : decode cX1_readFirst 5 = .ok (.aload_n 0, 1) := by decide +kernel
theorem dX1_readFirst_6 : decode cX1_readFirst 6 = .ok (.iload_n 2, 1) := by decide +kernel
theorem dX1_readFirst_7 : decode cX1_readFirst 7 = .ok (.invokevirtual 69, 3) := by decide +kernel
theorem dX1_readFirst_10 : decode cX1_readFirst 10 = .ok (.iastore, 1) := by decide +kernel
theorem dX1_readFirst_11 : decode cX1_readFirst 11 = .ok (.aload_n 0, 1) := by decide +kernel
theorem dX1_readFirst_12 : decode cX1_readFirst 12 = .ok (.getfield 22, 3) := by decide +kernel
theorem dX1_readFirst_15 : decode cX1_readFirst 15 = .ok (.iload_n 1, 1) := by decide +kernel
theorem dX1_readFirst_16 : decode cX1_readFirst 16 = .ok (.iaload, 1) := by decide +kernel
theorem dX1_readFirst_17 : decode cX1_readFirst 17 = .ok (.iconst (-1), 1) := by decide +kernel
theorem dX1_readFirst_18 : decode cX1_readFirst 18 = .ok (.if_icmp .eq 7, 3) := by decide +kernel
theorem dX1_readFirst_21 : decode cX1_readFirst 21 = .ok (.iconst 1, 1) := by decide +kernel
theorem dX1_readFirst_22 : decode cX1_readFirst 22 = .ok (.goto 4, 3) := by decide +kernel
theorem dX1_readFirst_25 : decode cX1_readFirst 25 = .ok (.iconst 0, 1) := by decide +kernel
theorem dX1_readFirst_26 : decode cX1_readFirst 26 = .ok (.ireturn, 1) := by decide +kernel
theorem dX1_readSecond_0 : decode cX1_readSecond 0 = .ok (.aload_n 0, 1) := by decide +kernel
theorem dX1_readSecond_1 : decode cX1_readSecond 1 = .ok (.getfield 25, 3) := by decide +kernel
theorem dX1_readSecond_4 : decode cX1_readSecond 4 = .ok (.iload_n 1, 1) := by decide +kernel
theorem dX1_readSecond_5 : decode cX1_readSecond 5 = .ok (.aload_n 0, 1) := by decide +kernel
theorem dX1_readSecond_6 : decode cX1_readSecond 6 = .ok (.iload_n 2, 1) := by decide +kernel
theorem dX1_readSecond_7 : decode cX1_readSecond 7 = .ok (.invokevirtual 69, 3) := by decide +kernel
theorem dX1_readSecond_10 : decode cX1_readSecond 10 = .ok (.iastore, 1) := by decide +kernel
theorem dX1_readSecond_11 : decode cX1_readSecond 11 = .ok (.aload_n 0, 1) := by decide +kernel
theorem dX1_readSecond_12 : decode cX1_readSecond 12 = .ok (.getfield 25, 3) := by decide +kernel
theorem dX1_readSecond_15 : decode cX1_readSecond 15 = .ok (.iload_n 1, 1) := by decide +kernel
theorem dX1_readSecond_16 : decode cX1_readSecond 16 = .ok (.iaload, 1) := by decide +kernel
theorem dX1_readSecond_17 : decode cX1_readSecond 17 = .ok (.iconst (-1), 1) := by decide +kernel
theorem dX1_readSecond_18 : decode cX1_readSecond 18 = .ok (.if_icmp .eq 7, 3) := by decide +kernel
theorem dX1_readSecond_21 : decode cX1_readSecond 21 = .ok (.iconst 1, 1) := by decide +kernel
theorem dX1_readSecond_22 : decode cX1_readSecond 22 = .ok (.goto 4, 3) := by decide +kernel
theorem dX1_readSecond_25 : decode cX1_readSecond 25 = .ok (.iconst 0, 1) := by decide +kernel
theorem dX1_readSecond_26 : decode cX1_readSecond 26 = .ok (.ireturn, 1) := by decide +kernel
theorem dX1_readNumber_0 : decode cX1_readNumber 0 = .ok (.iconst (-1), 1) := by decide +kernel
theorem dX1_readNumber_1 : decode cX1_readNumber 1 = .ok (.istore_n 2, 1) := by decide +kernel
theorem dX1_readNumber_2 : decode cX1_readNumber 2 = .ok (.iconst 0, 1) := by decide +kernel
theorem dX1_readNumber_3 : decode cX1_readNumber 3 = .ok (.istore_n 3, 1) := by decide +kernel
theorem dX1_readNumber_4 : decode cX1_readNumber 4 = .ok (.iload_n 3, 1) := by decide +kernel
theorem dX1_readNumber_5 : decode cX1_readNumber 5 = .ok (.iload_n 1, 1) := by decide +kernel
theorem dX1_readNumber_6 : decode cX1_readNumber 6 = .ok (.if_icmp .ge 51, 3) := by decide +kernel
theorem dX1_readNumber_9 : decode cX1_readNumber 9 = .ok (.aload_n 0, 1) := by decide +kernel
theorem dX1_readNumber_10 : decode cX1_readNumber 10 = .ok (.bipush 57, 2) := by decide +kernel
theorem dX1_readNumber_12 : decode cX1_readNumber 12 = .ok (.invokevirtual 72, 3) := by decide +kernel
theorem dX1_readNumber_15 : decode cX1_readNumber 15 = .ok (.istore 4, 2) := by decide +kernel
theorem dX1_readNumber_17 : decode cX1_readNumber 17 = .ok (.iload 4, 2) := by decide +kernel
theorem dX1_readNumber_19 : decode cX1_readNumber 19 = .ok (.iconst (-1), 1) := by decide +kernel
theorem dX1_readNumber_20 : decode cX1_readNumber 20 = .ok (.if_icmp .ne 5, 3) := by decide +kernel
theorem dX1_readNumber_23 : decode cX1_readNumber 23 = .ok (.iload_n 2, 1) := by decide +kernel
theorem dX1_readNumber_24 : decode cX1_readNumber 24 = .ok (.ireturn, 1) := by decide +kernel
theorem dX1_readNumber_25 : decode cX1_readNumber 25 = .ok (.iload_n 3, 1) := by decide +kernel
theorem dX1_readNumber_26 : decode cX1_readNumber 26 = .ok (.ifCond .ne 7, 3) := by decide +kernel
theorem dX1_readNumber_29 : decode cX1_readNumber 29 = .ok (.iconst 0, 1) := by decide +kernel
theorem dX1_readNumber_30 : decode cX1_readNumber 30 = .ok (.goto 7, 3) := by decide +kernel
theorem dX1_readNumber_33 : decode cX1_readNumber 33 = .ok (.iload_n 2, 1) := by decide +kernel
theorem dX1_readNumber_34 : decode cX1_readNumber 34 = .ok (.bipush 10, 2) := by decide +kernel
theorem dX1_readNumber_36 : decode cX1_readNumber 36 = .ok (.imul, 1) := by decide +kernel
theorem dX1_readNumber_37 : decode cX1_readNumber 37 = .ok (.iload 4, 2) := by decide +kernel
theorem dX1_readNumber_39 : decode cX1_readNumber 39 = .ok (.iadd, 1) := by decide +kernel
theorem dX1_readNumber_40 : decode cX1_readNumber 40 = .ok (.istore_n 2, 1) := by decide +kernel
theorem dX1_readNumber_41 : decode cX1_readNumber 41 = .ok (.aload_n 0, 1) := by decide +kernel
theorem dX1_readNumber_42 : decode cX1_readNumber 42 = .ok (.dup, 1) := by decide +kernel
theorem dX1_readNumber_43 : decode cX1_readNumber 43 = .ok (.getfield 32, 3) := by decide +kernel
theorem dX1_readNumber_46 : decode cX1_readNumber 46 = .ok (.iconst 1, 1) := by decide +kernel
theorem dX1_readNumber_47 : decode cX1_readNumber 47 = .ok (.iadd, 1) := by decide +kernel
theorem dX1_readNumber_48 : decode cX1_readNumber 48 = .ok (.putfield 32, 3) := by decide +kernel
theorem dX1_readNumber_51 : decode cX1_readNumber 51 = .ok (.iinc 3 1, 3) := by decide +kernel
theorem dX1_readNumber_54 : decode cX1_readNumber 54 = .ok (.goto (-50), 3) := by decide +kernel
theorem dX1_readNumber_57 : decode cX1_readNumber 57 = .ok (.iload_n 2, 1) := by decide +kernel
theorem dX1_readNumber_58 : decode cX1_readNumber 58 = .ok (.ireturn, 1) := by decide +kernel
theorem dX1_readMask_0 : decode cX1_readMask 0 = .ok (.iconst 0, 1) := by decide +kernel
theorem dX1_readMask_1 : decode cX1_readMask 1 = .ok (.istore_n 2, 1) := by decide +kernel
theorem dX1_readMask_2 : decode cX1_readMask 2 = .ok (.iload_n 2, 1) := by decide +kernel
theorem dX1_readMask_3 : decode cX1_readMask 3 = .ok (.bipush 8, 2) := by decide +kernel
theorem dX1_readMask_5 : decode cX1_readMask 5 = .ok (.if_icmp .ge 45, 3) := by decide +kernel
theorem dX1_readMask_8 : decode cX1_readMask 8 = .ok (.aload_n 0, 1) := by decide +kernel
theorem dX1_readMask_9 : decode cX1_readMask 9 = .ok (.bipush 49, 2) := by decide +kernel
theorem dX1_readMask_11 : decode cX1_readMask 11 = .ok (.invokevirtual 72, 3) := by decide +kernel
theorem dX1_readMask_14 : decode cX1_readMask 14 = .ok (.istore_n 3, 1) := by decide +kernel
theorem dX1_readMask_15 : decode cX1_readMask 15 = .ok (.iload_n 3, 1) := by decide +kernel
theorem dX1_readMask_16 : decode cX1_readMask 16 = .ok (.iconst (-1), 1) := by decide +kernel
theorem dX1_readMask_17 : decode cX1_readMask 17 = .ok (.if_icmp .ne 5, 3) := by decide +kernel
theorem dX1_readMask_20 : decode cX1_readMask 20 = .ok (.iconst 0, 1) := by decide +kernel
theorem dX1_readMask_21 : decode cX1_readMask 21 = .ok (.ireturn, 1) := by decide +kernel
theorem dX1_readMask_22 : decode cX1_readMask 22 = .ok (.aload_n 0, 1) := by decide +kernel
theorem dX1_readMask_23 : decode cX1_readMask 23 = .ok (.getfield 22, 3) := by decide +kernel
theorem dX1_readMask_26 : decode cX1_readMask 26 = .ok (.iload_n 1, 1) := by decide +kernel
theorem dX1_readMask_27 : decode cX1_readMask 27 = .ok (.dup2, 1) := by decide +kernel
theorem dX1_readMask_28 : decode cX1_readMask 28 = .ok (.iaload, 1) := by decide +kernel
theorem dX1_readMask_29 : decode cX1_readMask 29 = .ok (.iload_n 3, 1) := by decide +kernel
theorem dX1_readMask_30 : decode cX1_readMask 30 = .ok (.iload_n 2, 1) := by decide +kernel
theorem dX1_readMask_31 : decode cX1_readMask 31 = .ok (.ishl, 1) := by decide +kernel
theorem dX1_readMask_32 : decode cX1_readMask 32 = .ok (.ior, 1) := by decide +kernel
theorem dX1_readMask_33 : decode cX1_readMask 33 = .ok (.iastore, 1) := by decide +kernel
theorem dX1_readMask_34 : decode cX1_readMask 34 = .ok (.aload_n 0, 1) := by decide +kernel
theorem dX1_readMask_35 : decode cX1_readMask 35 = .ok (.dup, 1) := by decide +kernel
theorem dX1_readMask_36 : decode cX1_readMask 36 = .ok (.getfield 32, 3) := by decide +kernel
theorem dX1_readMask_39 : decode cX1_readMask 39 = .ok (.iconst 1, 1) := by decide +kernel
theorem dX1_readMask_40 : decode cX1_readMask 40 = .ok (.iadd, 1) := by decide +kernel
theorem dX1_readMask_41 : decode cX1_readMask 41 = .ok (.putfield 32, 3) := by decide +kernel
theorem dX1_readMask_44 : decode cX1_readMask 44 = .ok (.iinc 2 1, 3) := by decide +kernel
theorem dX1_readMask_47 : decode cX1_readMask 47 = .ok (.goto (-45), 3) := by decide +kernel
theorem dX1_readMask_50 : decode cX1_readMask 50 = .ok (.iconst 1, 1) := by decide +kernel
theorem dX1_readMask_51 : decode cX1_readMask 51 = .ok (.ireturn, 1) := by decide +kernel
theorem dX1_digitUpTo_0 : decode cX1_digitUpTo 0 = .ok (.aload_n 0, 1) := by decide +kernel
theorem dX1_digitUpTo_1 : decode cX1_digitUpTo 1 = .ok (.getfield 32, 3) := by decide +kernel
theorem dX1_digitUpTo_4 : decode cX1_digitUpTo 4 = .ok (.aload_n 0, 1) := by decide +kernel
theorem dX1_digitUpTo_5 : decode cX1_digitUpTo 5 = .ok (.getfield 12, 3) := by decide +kernel
theorem dX1_digitUpTo_8 : decode cX1_digitUpTo 8 = .ok (.invokevirtual 39, 3) := by decide +kernel
theorem dX1_digitUpTo_11 : decode cX1_digitUpTo 11 = .ok (.if_icmp .lt 5, 3) := by decide +kernel
theorem dX1_digitUpTo_14 : decode cX1_digitUpTo 14 = .ok (.iconst (-1), 1) := by decide +kernel
theorem dX1_digitUpTo_15 : decode cX1_digitUpTo 15 = .ok (.ireturn, 1) := by decide +kernel
theorem dX1_digitUpTo_16 : decode cX1_digitUpTo 16 = .ok (.aload_n 0, 1) := by decide +kernel
theorem dX1_digitUpTo_17 : decode cX1_digitUpTo 17 = .ok (.getfield 12, 3) := by decide +kernel
theorem dX1_digitUpTo_20 : decode cX1_digitUpTo 20 = .ok (.aload_n 0, 1) := by decide +kernel
theorem dX1_digitUpTo_21 : decode cX1_digitUpTo 21 = .ok (.getfield 32, 3) := by decide +kernel
theorem dX1_digitUpTo_24 : decode cX1_digitUpTo 24 = .ok (.invokevirtual 49, 3) := by decide +kernel
theorem dX1_digitUpTo_27 : decode cX1_digitUpTo 27 = .ok (.istore_n 2, 1) := by decide +kernel
theorem dX1_digitUpTo_28 : decode cX1_digitUpTo 28 = .ok (.iload_n 2, 1) := by decide +kernel
theorem dX1_digitUpTo_29 : decode cX1_digitUpTo 29 = .ok (.bipush 48, 2) := by decide +kernel
theorem dX1_digitUpTo_31 : decode cX1_digitUpTo 31 = .ok (.if_icmp .lt 15, 3) := by decide +kernel
theorem dX1_digitUpTo_34 : decode cX1_digitUpTo 34 = .ok (.iload_n 2, 1) := by decide +kernel
theorem dX1_digitUpTo_35 : decode cX1_digitUpTo 35 = .ok (.iload_n 1, 1) := by decide +kernel
theorem dX1_digitUpTo_36 : decode cX1_digitUpTo 36 = .ok (.if_icmp .gt 10, 3) := by decide +kernel
theorem dX1_digitUpTo_39 : decode cX1_digitUpTo 39 = .ok (.iload_n 2, 1) := by decide +kernel
theorem dX1_digitUpTo_40 : decode cX1_digitUpTo 40 = .ok (.bipush 48, 2) := by decide +kernel
theorem dX1_digitUpTo_42 : decode cX1_digitUpTo 42 = .ok (.isub, 1) := by decide +kernel
theorem dX1_digitUpTo_43 : decode cX1_digitUpTo 43 = .ok (.goto 4, 3) := by decide +kernel
theorem dX1_digitUpTo_46 : decode cX1_digitUpTo 46 = .ok (.iconst (-1), 1) := by decide +kernel
theorem dX1_digitUpTo_47 : decode cX1_digitUpTo 47 = .ok (.ireturn, 1) := by decide +kernel
theorem dX2_init_0 : decode cX2_init 0 = .ok (.aload_n 0, 1) := by decide +kernel
theorem dX2_init_1 : decode cX2_init 1 = .ok (.invokespecial 3, 3) := by decide +kernel
theorem dX2_init_4 : decode cX2_init 4 = .ok (.aload_n 0, 1) := by decide +kernel
theorem dX2_init_5 : decode cX2_init 5 = .ok (.bipush 30, 2) := by decide +kernel
theorem dX2_init_7 : decode cX2_init 7 = .ok (.newarray .int, 2) := by decide +kernel
theorem dX2_init_9 : decode cX2_init 9 = .ok (.putfield 9, 3) := by decide +kernel
theorem dX2_init_12 : decode cX2_init 12 = .ok (.aload_n 0, 1) := by decide +kernel
theorem dX2_init_13 : decode cX2_init 13 = .ok (.bipush 30, 2) := by decide +kernel
theorem dX2_init_15 : decode cX2_init 15 = .ok (.newarray .int, 2) := by decide +kernel
theorem dX2_init_17 : decode cX2_init 17 = .ok (.putfield 15, 3) := by decide +kernel
theorem dX2_init_20 : decode cX2_init 20 = .ok (.aload_n 0, 1) := by decide +kernel
theorem dX2_init_21 : decode cX2_init 21 = .ok (.bipush 30, 2) := by decide +kernel
theorem dX2_init_23 : decode cX2_init 23 = .ok (.newarray .int, 2) := by decide +kernel
theorem dX2_init_25 : decode cX2_init 25 = .ok (.putfield 18, 3) := by decide +kernel
theorem dX2_init_28 : decode cX2_init 28 = .ok (.aload_n 0, 1) := by decide +kernel
theorem dX2_init_29 : decode cX2_init 29 = .ok (.bipush 30, 2) := by decide +kernel
theorem dX2_init_31 : decode cX2_init 31 = .ok (.newarray .int, 2) := by decide +kernel
theorem dX2_init_33 : decode cX2_init 33 = .ok (.putfield 21, 3) := by decide +kernel
theorem dX2_init_36 : decode cX2_init 36 = .ok (.aload_n 0, 1) := by decide +kernel
theorem dX2_init_37 : decode cX2_init 37 = .ok (.iconst 0, 1) := by decide +kernel
theorem dX2_init_38 : decode cX2_init 38 = .ok (.putfield 24, 3) := by decide +kernel
theorem dX2_init_41 : decode cX2_init 41 = .ok (.return_, 1) := by decide +kernel
theorem dX2_copyFrom_0 : decode cX2_copyFrom 0 = .ok (.aload_n 1, 1) := by decide +kernel
theorem dX2_copyFrom_1 : decode cX2_copyFrom 1 = .ok (.getfield 9, 3) := by decide +kernel
theorem dX2_copyFrom_4 : decode cX2_copyFrom 4 = .ok (.iconst 0, 1) := by decide +kernel
theorem dX2_copyFrom_5 : decode cX2_copyFrom 5 = .ok (.aload_n 0, 1) := by decide +kernel
theorem dX2_copyFrom_6 : decode cX2_copyFrom 6 = .ok (.getfield 9, 3) := by decide +kernel
theorem dX2_copyFrom_9 : decode cX2_copyFrom 9 = .ok (.iconst 0, 1) := by decide +kernel
theorem dX2_copyFrom_10 : decode cX2_copyFrom 10 = .ok (.bipush 30, 2) := by decide +kernel
theorem dX2_copyFrom_12 : decode cX2_copyFrom 12 = .ok (.invokestatic 28, 3) := by decide +kernel
theorem dX2_copyFrom_15 : decode cX2_copyFrom 15 = .ok (.aload_n 1, 1) := by decide +kernel
theorem dX2_copyFrom_16 : decode cX2_copyFrom 16 = .ok (.getfield 15, 3) := by decide +kernel
theorem dX2_copyFrom_19 : decode cX2_copyFrom 19 = .ok (.iconst 0, 1) := by decide +kernel
theorem dX2_copyFrom_20 : decode cX2_copyFrom 20 = .ok (.aload_n 0, 1) := by decide +kernel
theorem dX2_copyFrom_21 : decode cX2_copyFrom 21 = .ok (.getfield 15, 3) := by decide +kernel
theorem dX2_copyFrom_24 : decode cX2_copyFrom 24 = .ok (.iconst 0, 1) := by decide +kernel
theorem dX2_copyFrom_25 : decode cX2_copyFrom 25 = .ok (.bipush 30, 2) := by decide +kernel
theorem dX2_copyFrom_27 : decode cX2_copyFrom 27 = .ok (.invokestatic 28, 3) := by decide +kernel
theorem dX2_copyFrom_30 : decode cX2_copyFrom 30 = .ok (.aload_n 1, 1) := by decide +kernel
theorem dX2_copyFrom_31 : decode cX2_copyFrom 31 = .ok (.getfield 18, 3) := by decide +kernel
theorem dX2_copyFrom_34 : decode cX2_copyFrom 34 = .ok (.iconst 0, 1) := by decide +kernel
theorem dX2_copyFrom_35 : decode cX2_copyFrom 35 = .ok (.aload_n 0, 1) := by decide +kernel
theorem dX2_copyFrom_36 : decode cX2_copyFrom 36 = .ok (.getfield 18, 3) := by decide +kernel
theorem dX2_copyFrom_39 : decode cX2_copyFrom 39 = .ok (.iconst 0, 1) := by decide +kernel
theorem dX2_copyFrom_40 : decode cX2_copyFrom 40 = .ok (.bipush 30, 2) := by decide +kernel
theorem dX2_copyFrom_42 : decode cX2_copyFrom 42 = .ok (.invokestatic 28, 3) := by decide +kernel
theorem dX2_copyFrom_45 : decode cX2_copyFrom 45 = .ok (.aload_n 1, 1) := by decide +kernel
theorem dX2_copyFrom_46 : decode cX2_copyFrom 46 = .ok (.getfield 21, 3) := by decide +kernel
theorem dX2_copyFrom_49 : decode cX2_copyFrom 49 = .ok (.iconst 0, 1) := by decide +kernel
theorem dX2_copyFrom_50 : decode cX2_copyFrom 50 = .ok (.aload_n 0, 1) := by decide +kernel
theorem dX2_copyFrom_51 : decode cX2_copyFrom 51 = .ok (.getfield 21, 3) := by decide +kernel
theorem dX2_copyFrom_54 : decode cX2_copyFrom 54 = .ok (.iconst 0, 1) := by decide +kernel
theorem dX2_copyFrom_55 : decode cX2_copyFrom 55 = .ok (.bipush 30, 2) := by decide +kernel
theorem dX2_copyFrom_57 : decode cX2_copyFrom 57 = .ok (.invokestatic 28, 3) := by decide +kernel
theorem dX2_copyFrom_60 : decode cX2_copyFrom 60 = .ok (.aload_n 0, 1) := by decide +kernel
theorem dX2_copyFrom_61 : decode cX2_copyFrom 61 = .ok (.aload_n 1, 1) := by decide +kernel
theorem dX2_copyFrom_62 : decode cX2_copyFrom 62 = .ok (.getfield 24, 3) := by decide +kernel
theorem dX2_copyFrom_65 : decode cX2_copyFrom 65 = .ok (.putfield 24, 3) := by decide +kernel
theorem dX2_copyFrom_68 : decode cX2_copyFrom 68 = .ok (.return_, 1) := by decide +kernel
theorem dX2_add_0 : decode cX2_add 0 = .ok (.aload_n 0, 1) := by decide +kernel
theorem dX2_add_1 : decode cX2_add 1 = .ok (.getfield 24, 3) := by decide +kernel
theorem dX2_add_4 : decode cX2_add 4 = .ok (.bipush 30, 2) := by decide +kernel
theorem dX2_add_6 : decode cX2_add 6 = .ok (.if_icmp .lt 4, 3) := by decide +kernel
theorem dX2_add_9 : decode cX2_add 9 = .ok (.return_, 1) := by decide +kernel
theorem dX2_add_10 : decode cX2_add 10 = .ok (.aload_n 0, 1) := by decide +kernel
theorem dX2_add_11 : decode cX2_add 11 = .ok (.getfield 9, 3) := by decide +kernel
theorem dX2_add_14 : decode cX2_add 14 = .ok (.aload_n 0, 1) := by decide +kernel
theorem dX2_add_15 : decode cX2_add 15 = .ok (.getfield 24, 3) := by decide +kernel
theorem dX2_add_18 : decode cX2_add 18 = .ok (.iload_n 1, 1) := by decide +kernel
theorem dX2_add_19 : decode cX2_add 19 = .ok (.iastore, 1) := by decide +kernel
theorem dX2_add_20 : decode cX2_add 20 = .ok (.aload_n 0, 1) := by decide +kernel
theorem dX2_add_21 : decode cX2_add 21 = .ok (.getfield 15, 3) := by decide +kernel
theorem dX2_add_24 : decode cX2_add 24 = .ok (.aload_n 0, 1) := by decide +kernel
theorem dX2_add_25 : decode cX2_add 25 = .ok (.getfield 24, 3) := by decide +kernel
theorem dX2_add_28 : decode cX2_add 28 = .ok (.iload_n 2, 1) := by decide +kernel
theorem dX2_add_29 : decode cX2_add 29 = .ok (.iastore, 1) := by decide +kernel
theorem dX2_add_30 : decode cX2_add 30 = .ok (.aload_n 0, 1) := by decide +kernel
theorem dX2_add_31 : decode cX2_add 31 = .ok (.getfield 18, 3) := by decide +kernel
theorem dX2_add_34 : decode cX2_add 34 = .ok (.aload_n 0, 1) := by decide +kernel
theorem dX2_add_35 : decode cX2_add 35 = .ok (.getfield 24, 3) := by decide +kernel
theorem dX2_add_38 : decode cX2_add 38 = .ok (.iload_n 3, 1) := by decide +kernel
theorem dX2_add_39 : decode cX2_add 39 = .ok (.iastore, 1) := by decide +kernel
theorem dX2_add_40 : decode cX2_add 40 = .ok (.aload_n 0, 1) := by decide +kernel
theorem dX2_add_41 : decode cX2_add 41 = .ok (.getfield 21, 3) := by decide +kernel
theorem dX2_add_44 : decode cX2_add 44 = .ok (.aload_n 0, 1) := by decide +kernel
theorem dX2_add_45 : decode cX2_add 45 = .ok (.getfield 24, 3) := by decide +kernel
theorem dX2_add_48 : decode cX2_add 48 = .ok (.iload 4, 2) := by decide +kernel
theorem dX2_add_50 : decode cX2_add 50 = .ok (.iastore, 1) := by decide +kernel
theorem dX2_add_51 : decode cX2_add 51 = .ok (.aload_n 0, 1) := by decide +kernel
theorem dX2_add_52 : decode cX2_add 52 = .ok (.dup, 1) := by decide +kernel
theorem dX2_add_53 : decode cX2_add 53 = .ok (.getfield 24, 3) := by decide +kernel
theorem dX2_add_56 : decode cX2_add 56 = .ok (.iconst 1, 1) := by decide +kernel
theorem dX2_add_57 : decode cX2_add 57 = .ok (.iadd, 1) := by decide +kernel
theorem dX2_add_58 : decode cX2_add 58 = .ok (.putfield 24, 3) := by decide +kernel
theorem dX2_add_61 : decode cX2_add 61 = .ok (.return_, 1) := by decide +kernel
theorem dX2_countStitches_0 : decode cX2_countStitches 0 = .ok (.iconst 0, 1) := by decide +kernel
theorem dX2_countStitches_1 : decode cX2_countStitches 1 = .ok (.istore_n 1, 1) := by decide +kernel
theorem dX2_countStitches_2 : decode cX2_countStitches 2 = .ok (.iconst 0, 1) := by decide +kernel
theorem dX2_countStitches_3 : decode cX2_countStitches 3 = .ok (.istore_n 2, 1) := by decide +kernel
theorem dX2_countStitches_4 : decode cX2_countStitches 4 = .ok (.iload_n 2, 1) := by decide +kernel
theorem dX2_countStitches_5 : decode cX2_countStitches 5 = .ok (.aload_n 0, 1) := by decide +kernel
theorem dX2_countStitches_6 : decode cX2_countStitches 6 = .ok (.getfield 24, 3) := by decide +kernel
theorem dX2_countStitches_9 : decode cX2_countStitches 9 = .ok (.if_icmp .ge 18, 3) := by decide +kernel
theorem dX2_countStitches_12 : decode cX2_countStitches 12 = .ok (.iload_n 1, 1) := by decide +kernel
theorem dX2_countStitches_13 : decode cX2_countStitches 13 = .ok (.aload_n 0, 1) := by decide +kernel
theorem dX2_countStitches_14 : decode cX2_countStitches 14 = .ok (.getfield 9, 3) := by decide +kernel
theorem dX2_countStitches_17 : decode cX2_countStitches 17 = .ok (.iload_n 2, 1) := by decide +kernel
theorem dX2_countStitches_18 : decode cX2_countStitches 18 = .ok (.iaload, 1) := by decide +kernel
theorem dX2_countStitches_19 : decode cX2_countStitches 19 = .ok (.iadd, 1) := by decide +kernel
theorem dX2_countStitches_20 : decode cX2_countStitches 20 = .ok (.istore_n 1, 1) := by decide +kernel
theorem dX2_countStitches_21 : decode cX2_countStitches 21 = .ok (.iinc 2 1, 3) := by decide +kernel
theorem dX2_countStitches_24 : decode cX2_countStitches 24 = .ok (.goto (-20), 3) := by decide +kernel
theorem dX2_countStitches_27 : decode cX2_countStitches 27 = .ok (.iload_n 1, 1) := by decide +kernel
theorem dX2_countStitches_28 : decode cX2_countStitches 28 = .ok (.ireturn, 1) := by decide +kernel
theorem dX2_courseAt_0 : decode cX2_courseAt 0 = .ok (.iconst 0, 1) := by decide +kernel
theorem dX2_courseAt_1 : decode cX2_courseAt 1 = .ok (.istore_n 2, 1) := by decide +kernel
theorem dX2_courseAt_2 : decode cX2_courseAt 2 = .ok (.iload_n 2, 1) := by decide +kernel
theorem dX2_courseAt_3 : decode cX2_courseAt 3 = .ok (.aload_n 0, 1) := by decide +kernel
theorem dX2_courseAt_4 : decode cX2_courseAt 4 = .ok (.getfield 24, 3) := by decide +kernel
theorem dX2_courseAt_7 : decode cX2_courseAt 7 = .ok (.if_icmp .ge 20, 3) := by decide +kernel
theorem dX2_courseAt_10 : decode cX2_courseAt 10 = .ok (.aload_n 0, 1) := by decide +kernel
theorem dX2_courseAt_11 : decode cX2_courseAt 11 = .ok (.iload_n 2, 1) := by decide +kernel
theorem dX2_courseAt_12 : decode cX2_courseAt 12 = .ok (.invokevirtual 34, 3) := by decide +kernel
theorem dX2_courseAt_15 : decode cX2_courseAt 15 = .ok (.iload_n 1, 1) := by decide +kernel
theorem dX2_courseAt_16 : decode cX2_courseAt 16 = .ok (.if_icmp .ne 5, 3) := by decide +kernel
theorem dX2_courseAt_19 : decode cX2_courseAt 19 = .ok (.iload_n 2, 1) := by decide +kernel
theorem dX2_courseAt_20 : decode cX2_courseAt 20 = .ok (.ireturn, 1) := by decide +kernel
theorem dX2_courseAt_21 : decode cX2_courseAt 21 = .ok (.iinc 2 1, 3) := by decide +kernel
theorem dX2_courseAt_24 : decode cX2_courseAt 24 = .ok (.goto (-22), 3) := by decide +kernel
theorem dX2_courseAt_27 : decode cX2_courseAt 27 = .ok (.iconst (-1), 1) := by decide +kernel
theorem dX2_courseAt_28 : decode cX2_courseAt 28 = .ok (.ireturn, 1) := by decide +kernel
theorem dX2_positionOf_0 : decode cX2_positionOf 0 = .ok (.iconst 0, 1) := by decide +kernel
theorem dX2_positionOf_1 : decode cX2_positionOf 1 = .ok (.istore_n 2, 1) := by decide +kernel
theorem dX2_positionOf_2 : decode cX2_positionOf 2 = .ok (.iconst 0, 1) := by decide +kernel
theorem dX2_positionOf_3 : decode cX2_positionOf 3 = .ok (.istore_n 3, 1) := by decide +kernel
theorem dX2_positionOf_4 : decode cX2_positionOf 4 = .ok (.iload_n 3, 1) := by decide +kernel
theorem dX2_positionOf_5 : decode cX2_positionOf 5 = .ok (.aload_n 0, 1) := by decide +kernel
theorem dX2_positionOf_6 : decode cX2_positionOf 6 = .ok (.getfield 24, 3) := by decide +kernel
theorem dX2_positionOf_9 : decode cX2_positionOf 9 = .ok (.if_icmp .ge 21, 3) := by decide +kernel
theorem dX2_positionOf_12 : decode cX2_positionOf 12 = .ok (.aload_n 0, 1) := by decide +kernel
theorem dX2_positionOf_13 : decode cX2_positionOf 13 = .ok (.iload_n 3, 1) := by decide +kernel
theorem dX2_positionOf_14 : decode cX2_positionOf 14 = .ok (.iload_n 1, 1) := by decide +kernel
theorem dX2_positionOf_15 : decode cX2_positionOf 15 = .ok (.invokevirtual 38, 3) := by decide +kernel
theorem dX2_positionOf_18 : decode cX2_positionOf 18 = .ok (.ifCond .eq 6, 3) := by decide +kernel
theorem dX2_positionOf_21 : decode cX2_positionOf 21 = .ok (.iinc 2 1, 3) := by decide +kernel
theorem dX2_positionOf_24 : decode cX2_positionOf 24 = .ok (.iinc 3 1, 3) := by decide +kernel
theorem dX2_positionOf_27 : decode cX2_positionOf 27 = .ok (.goto (-23), 3) := by decide +kernel
theorem dX2_positionOf_30 : decode cX2_positionOf 30 = .ok (.iload_n 2, 1) := by decide +kernel
theorem dX2_positionOf_31 : decode cX2_positionOf 31 = .ok (.ireturn, 1) := by decide +kernel
theorem dX2_comesBefore_0 : decode cX2_comesBefore 0 = .ok (.aload_n 0, 1) := by decide +kernel
theorem dX2_comesBefore_1 : decode cX2_comesBefore 1 = .ok (.getfield 9, 3) := by decide +kernel
theorem dX2_comesBefore_4 : decode cX2_comesBefore 4 = .ok (.iload_n 1, 1) := by decide +kernel
theorem dX2_comesBefore_5 : decode cX2_comesBefore 5 = .ok (.iaload, 1) := by decide +kernel
theorem dX2_comesBefore_6 : decode cX2_comesBefore 6 = .ok (.aload_n 0, 1) := by decide +kernel
theorem dX2_comesBefore_7 : decode cX2_comesBefore 7 = .ok (.getfield 9, 3) := by decide +kernel
theorem dX2_comesBefore_10 : decode cX2_comesBefore 10 = .ok (.iload_n 2, 1) := by decide +kernel
theorem dX2_comesBefore_11 : decode cX2_comesBefore 11 = .ok (.iaload, 1) := by decide +kernel
theorem dX2_comesBefore_12 : decode cX2_comesBefore 12 = .ok (.if_icmp .eq 24, 3) := by decide +kernel
theorem dX2_comesBefore_15 : decode cX2_comesBefore 15 = .ok (.aload_n 0, 1) := by decide +kernel
theorem dX2_comesBefore_16 : decode cX2_comesBefore 16 = .ok (.getfield 9, 3) := by decide +kernel
theorem dX2_comesBefore_19 : decode cX2_comesBefore 19 = .ok (.iload_n 1, 1) := by decide +kernel
theorem dX2_comesBefore_20 : decode cX2_comesBefore 20 = .ok (.iaload, 1) := by decide +kernel
theorem dX2_comesBefore_21 : decode cX2_comesBefore 21 = .ok (.aload_n 0, 1) := by decide +kernel
theorem dX2_comesBefore_22 : decode cX2_comesBefore 22 = .ok (.getfield 9, 3) := by decide +kernel
theorem dX2_comesBefore_25 : decode cX2_comesBefore 25 = .ok (.iload_n 2, 1) := by decide +kernel
theorem dX2_comesBefore_26 : decode cX2_comesBefore 26 = .ok (.iaload, 1) := by decide +kernel
theorem dX2_comesBefore_27 : decode cX2_comesBefore 27 = .ok (.if_icmp .le 7, 3) := by decide +kernel
theorem dX2_comesBefore_30 : decode cX2_comesBefore 30 = .ok (.iconst 1, 1) := by decide +kernel
theorem dX2_comesBefore_31 : decode cX2_comesBefore 31 = .ok (.goto 4, 3) := by decide +kernel
theorem dX2_comesBefore_34 : decode cX2_comesBefore 34 = .ok (.iconst 0, 1) := by decide +kernel
theorem dX2_comesBefore_35 : decode cX2_comesBefore 35 = .ok (.ireturn, 1) := by decide +kernel
theorem dX2_comesBefore_36 : decode cX2_comesBefore 36 = .ok (.aload_n 0, 1) := by decide +kernel
theorem dX2_comesBefore_37 : decode cX2_comesBefore 37 = .ok (.getfield 21, 3) := by decide +kernel
theorem dX2_comesBefore_40 : decode cX2_comesBefore 40 = .ok (.iload_n 1, 1) := by decide +kernel
theorem dX2_comesBefore_41 : decode cX2_comesBefore 41 = .ok (.iaload, 1) := by decide +kernel
theorem dX2_comesBefore_42 : decode cX2_comesBefore 42 = .ok (.aload_n 0, 1) := by decide +kernel
theorem dX2_comesBefore_43 : decode cX2_comesBefore 43 = .ok (.getfield 21, 3) := by decide +kernel
theorem dX2_comesBefore_46 : decode cX2_comesBefore 46 = .ok (.iload_n 2, 1) := by decide +kernel
theorem dX2_comesBefore_47 : decode cX2_comesBefore 47 = .ok (.iaload, 1) := by decide +kernel
theorem dX2_comesBefore_48 : decode cX2_comesBefore 48 = .ok (.if_icmp .eq 24, 3) := by decide +kernel
theorem dX2_comesBefore_51 : decode cX2_comesBefore 51 = .ok (.aload_n 0, 1) := by decide +kernel
theorem dX2_comesBefore_52 : decode cX2_comesBefore 52 = .ok (.getfield 21, 3) := by decide +kernel
theorem dX2_comesBefore_55 : decode cX2_comesBefore 55 = .ok (.iload_n 1, 1) := by decide +kernel
theorem dX2_comesBefore_56 : decode cX2_comesBefore 56 = .ok (.iaload, 1) := by decide +kernel
theorem dX2_comesBefore_57 : decode cX2_comesBefore 57 = .ok (.aload_n 0, 1) := by decide +kernel
theorem dX2_comesBefore_58 : decode cX2_comesBefore 58 = .ok (.getfield 21, 3) := by decide +kernel
theorem dX2_comesBefore_61 : decode cX2_comesBefore 61 = .ok (.iload_n 2, 1) := by decide +kernel
theorem dX2_comesBefore_62 : decode cX2_comesBefore 62 = .ok (.iaload, 1) := by decide +kernel
theorem dX2_comesBefore_63 : decode cX2_comesBefore 63 = .ok (.if_icmp .ge 7, 3) := by decide +kernel
theorem dX2_comesBefore_66 : decode cX2_comesBefore 66 = .ok (.iconst 1, 1) := by decide +kernel
theorem dX2_comesBefore_67 : decode cX2_comesBefore 67 = .ok (.goto 4, 3) := by decide +kernel
theorem dX2_comesBefore_70 : decode cX2_comesBefore 70 = .ok (.iconst 0, 1) := by decide +kernel
theorem dX2_comesBefore_71 : decode cX2_comesBefore 71 = .ok (.ireturn, 1) := by decide +kernel
theorem dX2_comesBefore_72 : decode cX2_comesBefore 72 = .ok (.iload_n 1, 1) := by decide +kernel
theorem dX2_comesBefore_73 : decode cX2_comesBefore 73 = .ok (.iload_n 2, 1) := by decide +kernel
theorem dX2_comesBefore_74 : decode cX2_comesBefore 74 = .ok (.if_icmp .ge 7, 3) := by decide +kernel
theorem dX2_comesBefore_77 : decode cX2_comesBefore 77 = .ok (.iconst 1, 1) := by decide +kernel
theorem dX2_comesBefore_78 : decode cX2_comesBefore 78 = .ok (.goto 4, 3) := by decide +kernel
theorem dX2_comesBefore_81 : decode cX2_comesBefore 81 = .ok (.iconst 0, 1) := by decide +kernel
theorem dX2_comesBefore_82 : decode cX2_comesBefore 82 = .ok (.ireturn, 1) := by decide +kernel
theorem dX3_init_0 : decode cX3_init 0 = .ok (.aload_n 0, 1) := by decide +kernel
theorem dX3_init_1 : decode cX3_init 1 = .ok (.invokespecial 3, 3) := by decide +kernel
theorem dX3_init_4 : decode cX3_init 4 = .ok (.aload_n 0, 1) := by decide +kernel
theorem dX3_init_5 : decode cX3_init 5 = .ok (.bipush 8, 2) := by decide +kernel
theorem dX3_init_7 : decode cX3_init 7 = .ok (.anewarray 9, 3) := by decide +kernel
theorem dX3_init_10 : decode cX3_init 10 = .ok (.putfield 11, 3) := by decide +kernel
theorem dX3_init_13 : decode cX3_init 13 = .ok (.iconst 0, 1) := by decide +kernel
theorem dX3_init_14 : decode cX3_init 14 = .ok (.istore_n 2, 1) := by decide +kernel
theorem dX3_init_15 : decode cX3_init 15 = .ok (.iload_n 2, 1) := by decide +kernel
theorem dX3_init_16 : decode cX3_init 16 = .ok (.bipush 8, 2) := by decide +kernel
theorem dX3_init_18 : decode cX3_init 18 = .ok (.if_icmp .ge 23, 3) := by decide +kernel
theorem dX3_init_21 : decode cX3_init 21 = .ok (.aload_n 0, 1) := by decide +kernel
theorem dX3_init_22 : decode cX3_init 22 = .ok (.getfield 11, 3) := by decide +kernel
theorem dX3_init_25 : decode cX3_init 25 = .ok (.iload_n 2, 1) := by decide +kernel
theorem dX3_init_26 : decode cX3_init 26 = .ok (.new 9, 3) := by decide +kernel
theorem dX3_init_29 : decode cX3_init 29 = .ok (.dup, 1) := by decide +kernel
theorem dX3_init_30 : decode cX3_init 30 = .ok (.aload_n 1, 1) := by decide +kernel
theorem dX3_init_31 : decode cX3_init 31 = .ok (.invokespecial 17, 3) := by decide +kernel
theorem dX3_init_34 : decode cX3_init 34 = .ok (.aastore, 1) := by decide +kernel
theorem dX3_init_35 : decode cX3_init 35 = .ok (.iinc 2 1, 3) := by decide +kernel
theorem dX3_init_38 : decode cX3_init 38 = .ok (.goto (-23), 3) := by decide +kernel
theorem dX3_init_41 : decode cX3_init 41 = .ok (.aload_n 0, 1) := by decide +kernel
theorem dX3_init_42 : decode cX3_init 42 = .ok (.iconst 0, 1) := by decide +kernel
theorem dX3_init_43 : decode cX3_init 43 = .ok (.putfield 20, 3) := by decide +kernel
theorem dX3_init_46 : decode cX3_init 46 = .ok (.aload_n 0, 1) := by decide +kernel
theorem dX3_init_47 : decode cX3_init 47 = .ok (.iconst 0, 1) := by decide +kernel
theorem dX3_init_48 : decode cX3_init 48 = .ok (.putfield 24, 3) := by decide +kernel
theorem dX3_init_51 : decode cX3_init 51 = .ok (.return_, 1) := by decide +kernel
theorem dX3_push_0 : decode cX3_push 0 = .ok (.aload_n 0, 1) := by decide +kernel
theorem dX3_push_1 : decode cX3_push 1 = .ok (.getfield 11, 3) := by decide +kernel
theorem dX3_push_4 : decode cX3_push 4 = .ok (.aload_n 0, 1) := by decide +kernel
theorem dX3_push_5 : decode cX3_push 5 = .ok (.getfield 20, 3) := by decide +kernel
theorem dX3_push_8 : decode cX3_push 8 = .ok (.aaload, 1) := by decide +kernel
theorem dX3_push_9 : decode cX3_push 9 = .ok (.aload_n 1, 1) := by decide +kernel
theorem dX3_push_10 : decode cX3_push 10 = .ok (.invokevirtual 27, 3) := by decide +kernel
theorem dX3_push_13 : decode cX3_push 13 = .ok (.aload_n 0, 1) := by decide +kernel
theorem dX3_push_14 : decode cX3_push 14 = .ok (.aload_n 0, 1) := by decide +kernel
theorem dX3_push_15 : decode cX3_push 15 = .ok (.getfield 20, 3) := by decide +kernel
theorem dX3_push_18 : decode cX3_push 18 = .ok (.iconst 1, 1) := by decide +kernel
theorem dX3_push_19 : decode cX3_push 19 = .ok (.iadd, 1) := by decide +kernel
theorem dX3_push_20 : decode cX3_push 20 = .ok (.bipush 8, 2) := by decide +kernel
theorem dX3_push_22 : decode cX3_push 22 = .ok (.irem, 1) := by decide +kernel
theorem dX3_push_23 : decode cX3_push 23 = .ok (.putfield 20, 3) := by decide +kernel
theorem dX3_push_26 : decode cX3_push 26 = .ok (.aload_n 0, 1) := by decide +kernel
theorem dX3_push_27 : decode cX3_push 27 = .ok (.aload_n 0, 1) := by decide +kernel
theorem dX3_push_28 : decode cX3_push 28 = .ok (.getfield 24, 3) := by decide +kernel
theorem dX3_push_31 : decode cX3_push 31 = .ok (.iconst 1, 1) := by decide +kernel
theorem dX3_push_32 : decode cX3_push 32 = .ok (.iadd, 1) := by decide +kernel
theorem dX3_push_33 : decode cX3_push 33 = .ok (.bipush 8, 2) := by decide +kernel
theorem dX3_push_35 : decode cX3_push 35 = .ok (.invokestatic 31, 3) := by decide +kernel
theorem dX3_push_38 : decode cX3_push 38 = .ok (.putfield 24, 3) := by decide +kernel
theorem dX3_push_41 : decode cX3_push 41 = .ok (.return_, 1) := by decide +kernel
theorem dX3_popInto_0 : decode cX3_popInto 0 = .ok (.aload_n 0, 1) := by decide +kernel
theorem dX3_popInto_1 : decode cX3_popInto 1 = .ok (.aload_n 0, 1) := by decide +kernel
theorem dX3_popInto_2 : decode cX3_popInto 2 = .ok (.getfield 20, 3) := by decide +kernel
theorem dX3_popInto_5 : decode cX3_popInto 5 = .ok (.bipush 8, 2) := by decide +kernel
theorem dX3_popInto_7 : decode cX3_popInto 7 = .ok (.iadd, 1) := by decide +kernel
theorem dX3_popInto_8 : decode cX3_popInto 8 = .ok (.iconst 1, 1) := by decide +kernel
theorem dX3_popInto_9 : decode cX3_popInto 9 = .ok (.isub, 1) := by decide +kernel
theorem dX3_popInto_10 : decode cX3_popInto 10 = .ok (.bipush 8, 2) := by decide +kernel
theorem dX3_popInto_12 : decode cX3_popInto 12 = .ok (.irem, 1) := by decide +kernel
theorem dX3_popInto_13 : decode cX3_popInto 13 = .ok (.putfield 20, 3) := by decide +kernel
theorem dX3_popInto_16 : decode cX3_popInto 16 = .ok (.aload_n 0, 1) := by decide +kernel
theorem dX3_popInto_17 : decode cX3_popInto 17 = .ok (.dup, 1) := by decide +kernel
theorem dX3_popInto_18 : decode cX3_popInto 18 = .ok (.getfield 24, 3) := by decide +kernel
theorem dX3_popInto_21 : decode cX3_popInto 21 = .ok (.iconst 1, 1) := by decide +kernel
theorem dX3_popInto_22 : decode cX3_popInto 22 = .ok (.isub, 1) := by decide +kernel
theorem dX3_popInto_23 : decode cX3_popInto 23 = .ok (.putfield 24, 3) := by decide +kernel
theorem dX3_popInto_26 : decode cX3_popInto 26 = .ok (.aload_n 1, 1) := by decide +kernel
theorem dX3_popInto_27 : decode cX3_popInto 27 = .ok (.aload_n 0, 1) := by decide +kernel
theorem dX3_popInto_28 : decode cX3_popInto 28 = .ok (.getfield 11, 3) := by decide +kernel
theorem dX3_popInto_31 : decode cX3_popInto 31 = .ok (.aload_n 0, 1) := by decide +kernel
theorem dX3_popInto_32 : decode cX3_popInto 32 = .ok (.getfield 20, 3) := by decide +kernel
theorem dX3_popInto_35 : decode cX3_popInto 35 = .ok (.aaload, 1) := by decide +kernel
theorem dX3_popInto_36 : decode cX3_popInto 36 = .ok (.invokevirtual 27, 3) := by decide +kernel
theorem dX3_popInto_39 : decode cX3_popInto 39 = .ok (.return_, 1) := by decide +kernel
theorem dX3_clear_0 : decode cX3_clear 0 = .ok (.aload_n 0, 1) := by decide +kernel
theorem dX3_clear_1 : decode cX3_clear 1 = .ok (.iconst 0, 1) := by decide +kernel
theorem dX3_clear_2 : decode cX3_clear 2 = .ok (.putfield 24, 3) := by decide +kernel
theorem dX3_clear_5 : decode cX3_clear 5 = .ok (.return_, 1) := by decide +kernel
theorem dX4_init_0 : decode cX4_init 0 = .ok (.aload_n 0, 1) := by decide +kernel
theorem dX4_init_1 : decode cX4_init 1 = .ok (.invokespecial 3, 3) := by decide +kernel
theorem dX4_init_4 : decode cX4_init 4 = .ok (.aload_n 0, 1) := by decide +kernel
theorem dX4_init_5 : decode cX4_init 5 = .ok (.aload_n 1, 1) := by decide +kernel
theorem dX4_init_6 : decode cX4_init 6 = .ok (.putfield 9, 3) := by decide +kernel
theorem dX4_init_9 : decode cX4_init 9 = .ok (.aload_n 0, 1) := by decide +kernel
theorem dX4_init_10 : decode cX4_init 10 = .ok (.new 15, 3) := by decide +kernel
theorem dX4_init_13 : decode cX4_init 13 = .ok (.dup, 1) := by decide +kernel
theorem dX4_init_14 : decode cX4_init 14 = .ok (.invokespecial 17, 3) := by decide +kernel
theorem dX4_init_17 : decode cX4_init 17 = .ok (.putfield 18, 3) := by decide +kernel
theorem dX4_init_20 : decode cX4_init 20 = .ok (.aload_n 0, 1) := by decide +kernel
theorem dX4_init_21 : decode cX4_init 21 = .ok (.new 21, 3) := by decide +kernel
theorem dX4_init_24 : decode cX4_init 24 = .ok (.dup, 1) := by decide +kernel
theorem dX4_init_25 : decode cX4_init 25 = .ok (.invokespecial 23, 3) := by decide +kernel
theorem dX4_init_28 : decode cX4_init 28 = .ok (.putfield 24, 3) := by decide +kernel
theorem dX4_init_31 : decode cX4_init 31 = .ok (.aload_n 0, 1) := by decide +kernel
theorem dX4_init_32 : decode cX4_init 32 = .ok (.iconst 4, 1) := by decide +kernel
theorem dX4_init_33 : decode cX4_init 33 = .ok (.newarray .int, 2) := by decide +kernel
theorem dX4_init_35 : decode cX4_init 35 = .ok (.putfield 28, 3) := by decide +kernel
theorem dX4_init_38 : decode cX4_init 38 = .ok (.aload_n 0, 1) := by decide +kernel
theorem dX4_init_39 : decode cX4_init 39 = .ok (.bipush 6, 2) := by decide +kernel
theorem dX4_init_41 : decode cX4_init 41 = .ok (.newarray .int, 2) := by decide +kernel
theorem dX4_init_43 : decode cX4_init 43 = .ok (.putfield 32, 3) := by decide +kernel
theorem dX4_init_46 : decode cX4_init 46 = .ok (.aload_n 0, 1) := by decide +kernel
theorem dX4_init_47 : decode cX4_init 47 = .ok (.iconst 0, 1) := by decide +kernel
theorem dX4_init_48 : decode cX4_init 48 = .ok (.putfield 35, 3) := by decide +kernel
theorem dX4_init_51 : decode cX4_init 51 = .ok (.aload_n 0, 1) := by decide +kernel
theorem dX4_init_52 : decode cX4_init 52 = .ok (.iconst 3, 1) := by decide +kernel
theorem dX4_init_53 : decode cX4_init 53 = .ok (.putfield 39, 3) := by decide +kernel
theorem dX4_init_56 : decode cX4_init 56 = .ok (.aload_n 0, 1) := by decide +kernel
theorem dX4_init_57 : decode cX4_init 57 = .ok (.iconst 0, 1) := by decide +kernel
theorem dX4_init_58 : decode cX4_init 58 = .ok (.putfield 42, 3) := by decide +kernel
theorem dX4_init_61 : decode cX4_init 61 = .ok (.aload_n 0, 1) := by decide +kernel
theorem dX4_init_62 : decode cX4_init 62 = .ok (.iconst 0, 1) := by decide +kernel
theorem dX4_init_63 : decode cX4_init 63 = .ok (.putfield 45, 3) := by decide +kernel
theorem dX4_init_66 : decode cX4_init 66 = .ok (.aload_n 0, 1) := by decide +kernel
theorem dX4_init_67 : decode cX4_init 67 = .ok (.iconst 0, 1) := by decide +kernel
theorem dX4_init_68 : decode cX4_init 68 = .ok (.putfield 48, 3) := by decide +kernel
theorem dX4_init_71 : decode cX4_init 71 = .ok (.aload_n 0, 1) := by decide +kernel
theorem dX4_init_72 : decode cX4_init 72 = .ok (.iconst 0, 1) := by decide +kernel
theorem dX4_init_73 : decode cX4_init 73 = .ok (.putfield 51, 3) := by decide +kernel
theorem dX4_init_76 : decode cX4_init 76 = .ok (.aload_n 0, 1) := by decide +kernel
theorem dX4_init_77 : decode cX4_init 77 = .ok (.iconst 0, 1) := by decide +kernel
theorem dX4_init_78 : decode cX4_init 78 = .ok (.putfield 54, 3) := by decide +kernel
theorem dX4_init_81 : decode cX4_init 81 = .ok (.aload_n 0, 1) := by decide +kernel
theorem dX4_init_82 : decode cX4_init 82 = .ok (.iconst 0, 1) := by decide +kernel
theorem dX4_init_83 : decode cX4_init 83 = .ok (.putfield 57, 3) := by decide +kernel
theorem dX4_init_86 : decode cX4_init 86 = .ok (.aload_n 0, 1) := by decide +kernel
theorem dX4_init_87 : decode cX4_init 87 = .ok (.iconst 0, 1) := by decide +kernel
theorem dX4_init_88 : decode cX4_init 88 = .ok (.putfield 60, 3) := by decide +kernel
theorem dX4_init_91 : decode cX4_init 91 = .ok (.return_, 1) := by decide +kernel
theorem dX4_copyFrom_0 : decode cX4_copyFrom 0 = .ok (.aload_n 0, 1) := by decide +kernel
theorem dX4_copyFrom_1 : decode cX4_copyFrom 1 = .ok (.getfield 18, 3) := by decide +kernel
theorem dX4_copyFrom_4 : decode cX4_copyFrom 4 = .ok (.aload_n 1, 1) := by decide +kernel
theorem dX4_copyFrom_5 : decode cX4_copyFrom 5 = .ok (.getfield 18, 3) := by decide +kernel
theorem dX4_copyFrom_8 : decode cX4_copyFrom 8 = .ok (.invokevirtual 63, 3) := by decide +kernel
theorem dX4_copyFrom_11 : decode cX4_copyFrom 11 = .ok (.aload_n 0, 1) := by decide +kernel
theorem dX4_copyFrom_12 : decode cX4_copyFrom 12 = .ok (.getfield 24, 3) := by decide +kernel
theorem dX4_copyFrom_15 : decode cX4_copyFrom 15 = .ok (.aload_n 1, 1) := by decide +kernel
theorem dX4_copyFrom_16 : decode cX4_copyFrom 16 = .ok (.getfield 24, 3) := by decide +kernel
theorem dX4_copyFrom_19 : decode cX4_copyFrom 19 = .ok (.invokevirtual 67, 3) := by decide +kernel
theorem dX4_copyFrom_22 : decode cX4_copyFrom 22 = .ok (.aload_n 1, 1) := by decide +kernel
theorem dX4_copyFrom_23 : decode cX4_copyFrom 23 = .ok (.getfield 28, 3) := by decide +kernel
theorem dX4_copyFrom_26 : decode cX4_copyFrom 26 = .ok (.iconst 0, 1) := by decide +kernel
theorem dX4_copyFrom_27 : decode cX4_copyFrom 27 = .ok (.aload_n 0, 1) := by decide +kernel
theorem dX4_copyFrom_28 : decode cX4_copyFrom 28 = .ok (.getfield 28, 3) := by decide +kernel
theorem dX4_copyFrom_31 : decode cX4_copyFrom 31 = .ok (.iconst 0, 1) := by decide +kernel
theorem dX4_copyFrom_32 : decode cX4_copyFrom 32 = .ok (.iconst 4, 1) := by decide +kernel
theorem dX4_copyFrom_33 : decode cX4_copyFrom 33 = .ok (.invokestatic 70, 3) := by decide +kernel
theorem dX4_copyFrom_36 : decode cX4_copyFrom 36 = .ok (.aload_n 1, 1) := by decide +kernel
theorem dX4_copyFrom_37 : decode cX4_copyFrom 37 = .ok (.getfield 32, 3) := by decide +kernel
theorem dX4_copyFrom_40 : decode cX4_copyFrom 40 = .ok (.iconst 0, 1) := by decide +kernel
theorem dX4_copyFrom_41 : decode cX4_copyFrom 41 = .ok (.aload_n 0, 1) := by decide +kernel
theorem dX4_copyFrom_42 : decode cX4_copyFrom 42 = .ok (.getfield 32, 3) := by decide +kernel
theorem dX4_copyFrom_45 : decode cX4_copyFrom 45 = .ok (.iconst 0, 1) := by decide +kernel
theorem dX4_copyFrom_46 : decode cX4_copyFrom 46 = .ok (.bipush 6, 2) := by decide +kernel
theorem dX4_copyFrom_48 : decode cX4_copyFrom 48 = .ok (.invokestatic 70, 3) := by decide +kernel
theorem dX4_copyFrom_51 : decode cX4_copyFrom 51 = .ok (.aload_n 0, 1) := by decide +kernel
theorem dX4_copyFrom_52 : decode cX4_copyFrom 52 = .ok (.aload_n 1, 1) := by decide +kernel
theorem dX4_copyFrom_53 : decode cX4_copyFrom 53 = .ok (.getfield 35, 3) := by decide +kernel
theorem dX4_copyFrom_56 : decode cX4_copyFrom 56 = .ok (.putfield 35, 3) := by decide +kernel
theorem dX4_copyFrom_59 : decode cX4_copyFrom 59 = .ok (.aload_n 0, 1) := by decide +kernel
theorem dX4_copyFrom_60 : decode cX4_copyFrom 60 = .ok (.aload_n 1, 1) := by decide +kernel
theorem dX4_copyFrom_61 : decode cX4_copyFrom 61 = .ok (.getfield 39, 3) := by decide +kernel
theorem dX4_copyFrom_64 : decode cX4_copyFrom 64 = .ok (.putfield 39, 3) := by decide +kernel
theorem dX4_copyFrom_67 : decode cX4_copyFrom 67 = .ok (.aload_n 0, 1) := by decide +kernel
theorem dX4_copyFrom_68 : decode cX4_copyFrom 68 = .ok (.aload_n 1, 1) := by decide +kernel
theorem dX4_copyFrom_69 : decode cX4_copyFrom 69 = .ok (.getfield 42, 3) := by decide +kernel
theorem dX4_copyFrom_72 : decode cX4_copyFrom 72 = .ok (.putfield 42, 3) := by decide +kernel
theorem dX4_copyFrom_75 : decode cX4_copyFrom 75 = .ok (.aload_n 0, 1) := by decide +kernel
theorem dX4_copyFrom_76 : decode cX4_copyFrom 76 = .ok (.aload_n 1, 1) := by decide +kernel
theorem dX4_copyFrom_77 : decode cX4_copyFrom 77 = .ok (.getfield 45, 3) := by decide +kernel
theorem dX4_copyFrom_80 : decode cX4_copyFrom 80 = .ok (.putfield 45, 3) := by decide +kernel
theorem dX4_copyFrom_83 : decode cX4_copyFrom 83 = .ok (.aload_n 0, 1) := by decide +kernel
theorem dX4_copyFrom_84 : decode cX4_copyFrom 84 = .ok (.aload_n 1, 1) := by decide +kernel
theorem dX4_copyFrom_85 : decode cX4_copyFrom 85 = .ok (.getfield 48, 3) := by decide +kernel
theorem dX4_copyFrom_88 : decode cX4_copyFrom 88 = .ok (.putfield 48, 3) := by decide +kernel
theorem dX4_copyFrom_91 : decode cX4_copyFrom 91 = .ok (.aload_n 0, 1) := by decide +kernel
theorem dX4_copyFrom_92 : decode cX4_copyFrom 92 = .ok (.aload_n 1, 1) := by decide +kernel
theorem dX4_copyFrom_93 : decode cX4_copyFrom 93 = .ok (.getfield 51, 3) := by decide +kernel
theorem dX4_copyFrom_96 : decode cX4_copyFrom 96 = .ok (.putfield 51, 3) := by decide +kernel
theorem dX4_copyFrom_99 : decode cX4_copyFrom 99 = .ok (.aload_n 0, 1) := by decide +kernel
theorem dX4_copyFrom_100 : decode cX4_copyFrom 100 = .ok (.aload_n 1, 1) := by decide +kernel
theorem dX4_copyFrom_101 : decode cX4_copyFrom 101 = .ok (.getfield 54, 3) := by decide +kernel
theorem dX4_copyFrom_104 : decode cX4_copyFrom 104 = .ok (.putfield 54, 3) := by decide +kernel
theorem dX4_copyFrom_107 : decode cX4_copyFrom 107 = .ok (.return_, 1) := by decide +kernel
theorem dX4_nextRow_0 : decode cX4_nextRow 0 = .ok (.aload_n 0, 1) := by decide +kernel
theorem dX4_nextRow_1 : decode cX4_nextRow 1 = .ok (.aload_n 0, 1) := by decide +kernel
theorem dX4_nextRow_2 : decode cX4_nextRow 2 = .ok (.getfield 24, 3) := by decide +kernel
theorem dX4_nextRow_5 : decode cX4_nextRow 5 = .ok (.getfield 76, 3) := by decide +kernel
theorem dX4_nextRow_8 : decode cX4_nextRow 8 = .ok (.invokevirtual 79, 3) := by decide +kernel
theorem dX4_nextRow_11 : decode cX4_nextRow 11 = .ok (.ireturn, 1) := by decide +kernel
theorem dX4_rowOf_0 : decode cX4_rowOf 0 = .ok (.aload_n 0, 1) := by decide +kernel
theorem dX4_rowOf_1 : decode cX4_rowOf 1 = .ok (.getfield 42, 3) := by decide +kernel
theorem dX4_rowOf_4 : decode cX4_rowOf 4 = .ok (.ifCond .ne 9, 3) := by decide +kernel
theorem dX4_rowOf_7 : decode cX4_rowOf 7 = .ok (.sipush 255, 3) := by decide +kernel
theorem dX4_rowOf_10 : decode cX4_rowOf 10 = .ok (.goto 14, 3) := by decide +kernel
theorem dX4_rowOf_13 : decode cX4_rowOf 13 = .ok (.aload_n 0, 1) := by decide +kernel
theorem dX4_rowOf_14 : decode cX4_rowOf 14 = .ok (.getfield 32, 3) := by decide +kernel
theorem dX4_rowOf_17 : decode cX4_rowOf 17 = .ok (.iload_n 1, 1) := by decide +kernel
theorem dX4_rowOf_18 : decode cX4_rowOf 18 = .ok (.aload_n 0, 1) := by decide +kernel
theorem dX4_rowOf_19 : decode cX4_rowOf 19 = .ok (.getfield 42, 3) := by decide +kernel
theorem dX4_rowOf_22 : decode cX4_rowOf 22 = .ok (.irem, 1) := by decide +kernel
theorem dX4_rowOf_23 : decode cX4_rowOf 23 = .ok (.iaload, 1) := by decide +kernel
theorem dX4_rowOf_24 : decode cX4_rowOf 24 = .ok (.ireturn, 1) := by decide +kernel
theorem dX4_yarnInFeeders_0 : decode cX4_yarnInFeeders 0 = .ok (.iconst 0, 1) := by decide +kernel
theorem dX4_yarnInFeeders_1 : decode cX4_yarnInFeeders 1 = .ok (.istore_n 1, 1) := by decide +kernel
theorem dX4_yarnInFeeders_2 : decode cX4_yarnInFeeders 2 = .ok (.iconst 0, 1) := by decide +kernel
theorem dX4_yarnInFeeders_3 : decode cX4_yarnInFeeders 3 = .ok (.istore_n 2, 1) := by decide +kernel
theorem dX4_yarnInFeeders_4 : decode cX4_yarnInFeeders 4 = .ok (.iload_n 2, 1) := by decide +kernel
theorem dX4_yarnInFeeders_5 : decode cX4_yarnInFeeders 5 = .ok (.iconst 4, 1) := by decide +kernel
theorem dX4_yarnInFeeders_6 : decode cX4_yarnInFeeders 6 = .ok (.if_icmp .ge 18, 3) := by decide +kernel
theorem dX4_yarnInFeeders_9 : decode cX4_yarnInFeeders 9 = .ok (.iload_n 1, 1) := by decide +kernel
theorem dX4_yarnInFeeders_10 : decode cX4_yarnInFeeders 10 = .ok (.aload_n 0, 1) := by decide +kernel
theorem dX4_yarnInFeeders_11 : decode cX4_yarnInFeeders 11 = .ok (.getfield 28, 3) := by decide +kernel
theorem dX4_yarnInFeeders_14 : decode cX4_yarnInFeeders 14 = .ok (.iload_n 2, 1) := by decide +kernel
theorem dX4_yarnInFeeders_15 : decode cX4_yarnInFeeders 15 = .ok (.iaload, 1) := by decide +kernel
theorem dX4_yarnInFeeders_16 : decode cX4_yarnInFeeders 16 = .ok (.iadd, 1) := by decide +kernel
theorem dX4_yarnInFeeders_17 : decode cX4_yarnInFeeders 17 = .ok (.istore_n 1, 1) := by decide +kernel
theorem dX4_yarnInFeeders_18 : decode cX4_yarnInFeeders 18 = .ok (.iinc 2 1, 3) := by decide +kernel
theorem dX4_yarnInFeeders_21 : decode cX4_yarnInFeeders 21 = .ok (.goto (-17), 3) := by decide +kernel
theorem dX4_yarnInFeeders_24 : decode cX4_yarnInFeeders 24 = .ok (.iload_n 1, 1) := by decide +kernel
theorem dX4_yarnInFeeders_25 : decode cX4_yarnInFeeders 25 = .ok (.ireturn, 1) := by decide +kernel
theorem dX4_feederAt_0 : decode cX4_feederAt 0 = .ok (.iconst 0, 1) := by decide +kernel
theorem dX4_feederAt_1 : decode cX4_feederAt 1 = .ok (.istore_n 2, 1) := by decide +kernel
theorem dX4_feederAt_2 : decode cX4_feederAt 2 = .ok (.iload_n 2, 1) := by decide +kernel
theorem dX4_feederAt_3 : decode cX4_feederAt 3 = .ok (.iconst 4, 1) := by decide +kernel
theorem dX4_feederAt_4 : decode cX4_feederAt 4 = .ok (.if_icmp .ge 20, 3) := by decide +kernel
theorem dX4_feederAt_7 : decode cX4_feederAt 7 = .ok (.aload_n 0, 1) := by decide +kernel
theorem dX4_feederAt_8 : decode cX4_feederAt 8 = .ok (.iload_n 2, 1) := by decide +kernel
theorem dX4_feederAt_9 : decode cX4_feederAt 9 = .ok (.invokevirtual 83, 3) := by decide +kernel
theorem dX4_feederAt_12 : decode cX4_feederAt 12 = .ok (.iload_n 1, 1) := by decide +kernel
theorem dX4_feederAt_13 : decode cX4_feederAt 13 = .ok (.if_icmp .ne 5, 3) := by decide +kernel
theorem dX4_feederAt_16 : decode cX4_feederAt 16 = .ok (.iload_n 2, 1) := by decide +kernel
theorem dX4_feederAt_17 : decode cX4_feederAt 17 = .ok (.ireturn, 1) := by decide +kernel
theorem dX4_feederAt_18 : decode cX4_feederAt 18 = .ok (.iinc 2 1, 3) := by decide +kernel
theorem dX4_feederAt_21 : decode cX4_feederAt 21 = .ok (.goto (-19), 3) := by decide +kernel
theorem dX4_feederAt_24 : decode cX4_feederAt 24 = .ok (.iconst (-1), 1) := by decide +kernel
theorem dX4_feederAt_25 : decode cX4_feederAt 25 = .ok (.ireturn, 1) := by decide +kernel
theorem dX4_positionOf_0 : decode cX4_positionOf 0 = .ok (.iconst 0, 1) := by decide +kernel
theorem dX4_positionOf_1 : decode cX4_positionOf 1 = .ok (.istore_n 2, 1) := by decide +kernel
theorem dX4_positionOf_2 : decode cX4_positionOf 2 = .ok (.iconst 0, 1) := by decide +kernel
theorem dX4_positionOf_3 : decode cX4_positionOf 3 = .ok (.istore_n 3, 1) := by decide +kernel
theorem dX4_positionOf_4 : decode cX4_positionOf 4 = .ok (.iload_n 3, 1) := by decide +kernel
theorem dX4_positionOf_5 : decode cX4_positionOf 5 = .ok (.iconst 4, 1) := by decide +kernel
theorem dX4_positionOf_6 : decode cX4_positionOf 6 = .ok (.if_icmp .ge 47, 3) := by decide +kernel
theorem dX4_positionOf_9 : decode cX4_positionOf 9 = .ok (.aload_n 0, 1) := by decide +kernel
theorem dX4_positionOf_10 : decode cX4_positionOf 10 = .ok (.getfield 28, 3) := by decide +kernel
theorem dX4_positionOf_13 : decode cX4_positionOf 13 = .ok (.iload_n 3, 1) := by decide +kernel
theorem dX4_positionOf_14 : decode cX4_positionOf 14 = .ok (.iaload, 1) := by decide +kernel
theorem dX4_positionOf_15 : decode cX4_positionOf 15 = .ok (.aload_n 0, 1) := by decide +kernel
theorem dX4_positionOf_16 : decode cX4_positionOf 16 = .ok (.getfield 28, 3) := by decide +kernel
theorem dX4_positionOf_19 : decode cX4_positionOf 19 = .ok (.iload_n 1, 1) := by decide +kernel
theorem dX4_positionOf_20 : decode cX4_positionOf 20 = .ok (.iaload, 1) := by decide +kernel
theorem dX4_positionOf_21 : decode cX4_positionOf 21 = .ok (.if_icmp .gt 23, 3) := by decide +kernel
theorem dX4_positionOf_24 : decode cX4_positionOf 24 = .ok (.aload_n 0, 1) := by decide +kernel
theorem dX4_positionOf_25 : decode cX4_positionOf 25 = .ok (.getfield 28, 3) := by decide +kernel
theorem dX4_positionOf_28 : decode cX4_positionOf 28 = .ok (.iload_n 3, 1) := by decide +kernel
theorem dX4_positionOf_29 : decode cX4_positionOf 29 = .ok (.iaload, 1) := by decide +kernel
theorem dX4_positionOf_30 : decode cX4_positionOf 30 = .ok (.aload_n 0, 1) := by decide +kernel
theorem dX4_positionOf_31 : decode cX4_positionOf 31 = .ok (.getfield 28, 3) := by decide +kernel
theorem dX4_positionOf_34 : decode cX4_positionOf 34 = .ok (.iload_n 1, 1) := by decide +kernel
theorem dX4_positionOf_35 : decode cX4_positionOf 35 = .ok (.iaload, 1) := by decide +kernel
theorem dX4_positionOf_36 : decode cX4_positionOf 36 = .ok (.if_icmp .ne 11, 3) := by decide +kernel
theorem dX4_positionOf_39 : decode cX4_positionOf 39 = .ok (.iload_n 3, 1) := by decide +kernel
theorem dX4_positionOf_40 : decode cX4_positionOf 40 = .ok (.iload_n 1, 1) := by decide +kernel
theorem dX4_positionOf_41 : decode cX4_positionOf 41 = .ok (.if_icmp .ge 6, 3) := by decide +kernel
theorem dX4_positionOf_44 : decode cX4_positionOf 44 = .ok (.iinc 2 1, 3) := by decide +kernel
theorem dX4_positionOf_47 : decode cX4_positionOf 47 = .ok (.iinc 3 1, 3) := by decide +kernel
theorem dX4_positionOf_50 : decode cX4_positionOf 50 = .ok (.goto (-46), 3) := by decide +kernel
theorem dX4_positionOf_53 : decode cX4_positionOf 53 = .ok (.iload_n 2, 1) := by decide +kernel
theorem dX4_positionOf_54 : decode cX4_positionOf 54 = .ok (.ireturn, 1) := by decide +kernel
theorem dX4_stitchesAhead_0 : decode cX4_stitchesAhead 0 = .ok (.aload_n 0, 1) := by decide +kernel
theorem dX4_stitchesAhead_1 : decode cX4_stitchesAhead 1 = .ok (.getfield 9, 3) := by decide +kernel
theorem dX4_stitchesAhead_4 : decode cX4_stitchesAhead 4 = .ok (.aload_n 0, 1) := by decide +kernel
theorem dX4_stitchesAhead_5 : decode cX4_stitchesAhead 5 = .ok (.getfield 18, 3) := by decide +kernel
theorem dX4_stitchesAhead_8 : decode cX4_stitchesAhead 8 = .ok (.invokevirtual 63, 3) := by decide +kernel
theorem dX4_stitchesAhead_11 : decode cX4_stitchesAhead 11 = .ok (.iconst 0, 1) := by decide +kernel
theorem dX4_stitchesAhead_12 : decode cX4_stitchesAhead 12 = .ok (.istore_n 2, 1) := by decide +kernel
theorem dX4_stitchesAhead_13 : decode cX4_stitchesAhead 13 = .ok (.iconst 0, 1) := by decide +kernel
theorem dX4_stitchesAhead_14 : decode cX4_stitchesAhead 14 = .ok (.istore_n 3, 1) := by decide +kernel
theorem dX4_stitchesAhead_15 : decode cX4_stitchesAhead 15 = .ok (.iload_n 3, 1) := by decide +kernel
theorem dX4_stitchesAhead_16 : decode cX4_stitchesAhead 16 = .ok (.iload_n 1, 1) := by decide +kernel
theorem dX4_stitchesAhead_17 : decode cX4_stitchesAhead 17 = .ok (.if_icmp .ge 46, 3) := by decide +kernel
theorem dX4_stitchesAhead_20 : decode cX4_stitchesAhead 20 = .ok (.aload_n 0, 1) := by decide +kernel
theorem dX4_stitchesAhead_21 : decode cX4_stitchesAhead 21 = .ok (.aload_n 0, 1) := by decide +kernel
theorem dX4_stitchesAhead_22 : decode cX4_stitchesAhead 22 = .ok (.getfield 24, 3) := by decide +kernel
theorem dX4_stitchesAhead_25 : decode cX4_stitchesAhead 25 = .ok (.getfield 76, 3) := by decide +kernel
theorem dX4_stitchesAhead_28 : decode cX4_stitchesAhead 28 = .ok (.iload_n 3, 1) := by decide +kernel
theorem dX4_stitchesAhead_29 : decode cX4_stitchesAhead 29 = .ok (.iadd, 1) := by decide +kernel
theorem dX4_stitchesAhead_30 : decode cX4_stitchesAhead 30 = .ok (.invokevirtual 79, 3) := by decide +kernel
theorem dX4_stitchesAhead_33 : decode cX4_stitchesAhead 33 = .ok (.istore 4, 2) := by decide +kernel
theorem dX4_stitchesAhead_35 : decode cX4_stitchesAhead 35 = .ok (.iload_n 2, 1) := by decide +kernel
theorem dX4_stitchesAhead_36 : decode cX4_stitchesAhead 36 = .ok (.aload_n 0, 1) := by decide +kernel
theorem dX4_stitchesAhead_37 : decode cX4_stitchesAhead 37 = .ok (.getfield 9, 3) := by decide +kernel
theorem dX4_stitchesAhead_40 : decode cX4_stitchesAhead 40 = .ok (.iload 4, 2) := by decide +kernel
theorem dX4_stitchesAhead_42 : decode cX4_stitchesAhead 42 = .ok (.invokevirtual 86, 3) := by decide +kernel
theorem dX4_stitchesAhead_45 : decode cX4_stitchesAhead 45 = .ok (.iadd, 1) := by decide +kernel
theorem dX4_stitchesAhead_46 : decode cX4_stitchesAhead 46 = .ok (.istore_n 2, 1) := by decide +kernel
theorem dX4_stitchesAhead_47 : decode cX4_stitchesAhead 47 = .ok (.aload_n 0, 1) := by decide +kernel
theorem dX4_stitchesAhead_48 : decode cX4_stitchesAhead 48 = .ok (.getfield 9, 3) := by decide +kernel
theorem dX4_stitchesAhead_51 : decode cX4_stitchesAhead 51 = .ok (.iload 4, 2) := by decide +kernel
theorem dX4_stitchesAhead_53 : decode cX4_stitchesAhead 53 = .ok (.invokevirtual 89, 3) := by decide +kernel
theorem dX4_stitchesAhead_56 : decode cX4_stitchesAhead 56 = .ok (.pop, 1) := by decide +kernel
theorem dX4_stitchesAhead_57 : decode cX4_stitchesAhead 57 = .ok (.iinc 3 1, 3) := by decide +kernel
theorem dX4_stitchesAhead_60 : decode cX4_stitchesAhead 60 = .ok (.goto (-45), 3) := by decide +kernel
theorem dX4_stitchesAhead_63 : decode cX4_stitchesAhead 63 = .ok (.iload_n 2, 1) := by decide +kernel
theorem dX4_stitchesAhead_64 : decode cX4_stitchesAhead 64 = .ok (.ireturn, 1) := by decide +kernel
theorem dX4_dropsAhead_0 : decode cX4_dropsAhead 0 = .ok (.aload_n 0, 1) := by decide +kernel
theorem dX4_dropsAhead_1 : decode cX4_dropsAhead 1 = .ok (.getfield 9, 3) := by decide +kernel
theorem dX4_dropsAhead_4 : decode cX4_dropsAhead 4 = .ok (.aload_n 0, 1) := by decide +kernel
theorem dX4_dropsAhead_5 : decode cX4_dropsAhead 5 = .ok (.getfield 18, 3) := by decide +kernel
theorem dX4_dropsAhead_8 : decode cX4_dropsAhead 8 = .ok (.invokevirtual 63, 3) := by decide +kernel
theorem dX4_dropsAhead_11 : decode cX4_dropsAhead 11 = .ok (.iconst 0, 1) := by decide +kernel
theorem dX4_dropsAhead_12 : decode cX4_dropsAhead 12 = .ok (.istore_n 2, 1) := by decide +kernel
theorem dX4_dropsAhead_13 : decode cX4_dropsAhead 13 = .ok (.iconst 0, 1) := by decide +kernel
theorem dX4_dropsAhead_14 : decode cX4_dropsAhead 14 = .ok (.istore_n 3, 1) := by decide +kernel
theorem dX4_dropsAhead_15 : decode cX4_dropsAhead 15 = .ok (.iload_n 3, 1) := by decide +kernel
theorem dX4_dropsAhead_16 : decode cX4_dropsAhead 16 = .ok (.iload_n 1, 1) := by decide +kernel
theorem dX4_dropsAhead_17 : decode cX4_dropsAhead 17 = .ok (.if_icmp .ge 32, 3) := by decide +kernel
theorem dX4_dropsAhead_20 : decode cX4_dropsAhead 20 = .ok (.iload_n 2, 1) := by decide +kernel
theorem dX4_dropsAhead_21 : decode cX4_dropsAhead 21 = .ok (.aload_n 0, 1) := by decide +kernel
theorem dX4_dropsAhead_22 : decode cX4_dropsAhead 22 = .ok (.getfield 9, 3) := by decide +kernel
theorem dX4_dropsAhead_25 : decode cX4_dropsAhead 25 = .ok (.aload_n 0, 1) := by decide +kernel
theorem dX4_dropsAhead_26 : decode cX4_dropsAhead 26 = .ok (.aload_n 0, 1) := by decide +kernel
theorem dX4_dropsAhead_27 : decode cX4_dropsAhead 27 = .ok (.getfield 24, 3) := by decide +kernel
theorem dX4_dropsAhead_30 : decode cX4_dropsAhead 30 = .ok (.getfield 76, 3) := by decide +kernel
theorem dX4_dropsAhead_33 : decode cX4_dropsAhead 33 = .ok (.iload_n 3, 1) := by decide +kernel
theorem dX4_dropsAhead_34 : decode cX4_dropsAhead 34 = .ok (.iadd, 1) := by decide +kernel
theorem dX4_dropsAhead_35 : decode cX4_dropsAhead 35 = .ok (.invokevirtual 79, 3) := by decide +kernel
theorem dX4_dropsAhead_38 : decode cX4_dropsAhead 38 = .ok (.invokevirtual 89, 3) := by decide +kernel
theorem dX4_dropsAhead_41 : decode cX4_dropsAhead 41 = .ok (.iadd, 1) := by decide +kernel
theorem dX4_dropsAhead_42 : decode cX4_dropsAhead 42 = .ok (.istore_n 2, 1) := by decide +kernel
theorem dX4_dropsAhead_43 : decode cX4_dropsAhead 43 = .ok (.iinc 3 1, 3) := by decide +kernel
theorem dX4_dropsAhead_46 : decode cX4_dropsAhead 46 = .ok (.goto (-31), 3) := by decide +kernel
theorem dX4_dropsAhead_49 : decode cX4_dropsAhead 49 = .ok (.iload_n 2, 1) := by decide +kernel
theorem dX4_dropsAhead_50 : decode cX4_dropsAhead 50 = .ok (.ireturn, 1) := by decide +kernel
theorem dX4_coursesAhead_0 : decode cX4_coursesAhead 0 = .ok (.aload_n 0, 1) := by decide +kernel
theorem dX4_coursesAhead_1 : decode cX4_coursesAhead 1 = .ok (.getfield 9, 3) := by decide +kernel
theorem dX4_coursesAhead_4 : decode cX4_coursesAhead 4 = .ok (.aload_n 0, 1) := by decide +kernel
theorem dX4_coursesAhead_5 : decode cX4_coursesAhead 5 = .ok (.getfield 18, 3) := by decide +kernel
theorem dX4_coursesAhead_8 : decode cX4_coursesAhead 8 = .ok (.invokevirtual 63, 3) := by decide +kernel
theorem dX4_coursesAhead_11 : decode cX4_coursesAhead 11 = .ok (.aload_n 0, 1) := by decide +kernel
theorem dX4_coursesAhead_12 : decode cX4_coursesAhead 12 = .ok (.getfield 28, 3) := by decide +kernel
theorem dX4_coursesAhead_15 : decode cX4_coursesAhead 15 = .ok (.aload_n 0, 1) := by decide +kernel
theorem dX4_coursesAhead_16 : decode cX4_coursesAhead 16 = .ok (.getfield 35, 3) := by decide +kernel
theorem dX4_coursesAhead_19 : decode cX4_coursesAhead 19 = .ok (.iaload, 1) := by decide +kernel
theorem dX4_coursesAhead_20 : decode cX4_coursesAhead 20 = .ok (.istore_n 2, 1) := by decide +kernel
theorem dX4_coursesAhead_21 : decode cX4_coursesAhead 21 = .ok (.iconst 0, 1) := by decide +kernel
theorem dX4_coursesAhead_22 : decode cX4_coursesAhead 22 = .ok (.istore_n 3, 1) := by decide +kernel
theorem dX4_coursesAhead_23 : decode cX4_coursesAhead 23 = .ok (.iload_n 3, 1) := by decide +kernel
theorem dX4_coursesAhead_24 : decode cX4_coursesAhead 24 = .ok (.iload_n 1, 1) := by decide +kernel
theorem dX4_coursesAhead_25 : decode cX4_coursesAhead 25 = .ok (.if_icmp .ge 73, 3) := by decide +kernel
theorem dX4_coursesAhead_28 : decode cX4_coursesAhead 28 = .ok (.aload_n 0, 1) := by decide +kernel
theorem dX4_coursesAhead_29 : decode cX4_coursesAhead 29 = .ok (.getfield 24, 3) := by decide +kernel
theorem dX4_coursesAhead_32 : decode cX4_coursesAhead 32 = .ok (.getfield 76, 3) := by decide +kernel
theorem dX4_coursesAhead_35 : decode cX4_coursesAhead 35 = .ok (.iload_n 3, 1) := by decide +kernel
theorem dX4_coursesAhead_36 : decode cX4_coursesAhead 36 = .ok (.iadd, 1) := by decide +kernel
theorem dX4_coursesAhead_37 : decode cX4_coursesAhead 37 = .ok (.istore 4, 2) := by decide +kernel
theorem dX4_coursesAhead_39 : decode cX4_coursesAhead 39 = .ok (.aload_n 0, 1) := by decide +kernel
theorem dX4_coursesAhead_40 : decode cX4_coursesAhead 40 = .ok (.iload 4, 2) := by decide +kernel
theorem dX4_coursesAhead_42 : decode cX4_coursesAhead 42 = .ok (.invokevirtual 79, 3) := by decide +kernel
theorem dX4_coursesAhead_45 : decode cX4_coursesAhead 45 = .ok (.istore 5, 2) := by decide +kernel
theorem dX4_coursesAhead_47 : decode cX4_coursesAhead 47 = .ok (.aload_n 0, 1) := by decide +kernel
theorem dX4_coursesAhead_48 : decode cX4_coursesAhead 48 = .ok (.getfield 9, 3) := by decide +kernel
theorem dX4_coursesAhead_51 : decode cX4_coursesAhead 51 = .ok (.iload 5, 2) := by decide +kernel
theorem dX4_coursesAhead_53 : decode cX4_coursesAhead 53 = .ok (.invokevirtual 86, 3) := by decide +kernel
theorem dX4_coursesAhead_56 : decode cX4_coursesAhead 56 = .ok (.aload_n 0, 1) := by decide +kernel
theorem dX4_coursesAhead_57 : decode cX4_coursesAhead 57 = .ok (.getfield 39, 3) := by decide +kernel
theorem dX4_coursesAhead_60 : decode cX4_coursesAhead 60 = .ok (.imul, 1) := by decide +kernel
theorem dX4_coursesAhead_61 : decode cX4_coursesAhead 61 = .ok (.istore 6, 2) := by decide +kernel
theorem dX4_coursesAhead_63 : decode cX4_coursesAhead 63 = .ok (.aload_n 0, 1) := by decide +kernel
theorem dX4_coursesAhead_64 : decode cX4_coursesAhead 64 = .ok (.iload 4, 2) := by decide +kernel
theorem dX4_coursesAhead_66 : decode cX4_coursesAhead 66 = .ok (.iload 6, 2) := by decide +kernel
theorem dX4_coursesAhead_68 : decode cX4_coursesAhead 68 = .ok (.iload_n 2, 1) := by decide +kernel
theorem dX4_coursesAhead_69 : decode cX4_coursesAhead 69 = .ok (.invokevirtual 92, 3) := by decide +kernel
theorem dX4_coursesAhead_72 : decode cX4_coursesAhead 72 = .ok (.ifCond .eq 5, 3) := by decide +kernel
theorem dX4_coursesAhead_75 : decode cX4_coursesAhead 75 = .ok (.iload_n 3, 1) := by decide +kernel
theorem dX4_coursesAhead_76 : decode cX4_coursesAhead 76 = .ok (.ireturn, 1) := by decide +kernel
theorem dX4_coursesAhead_77 : decode cX4_coursesAhead 77 = .ok (.iload_n 2, 1) := by decide +kernel
theorem dX4_coursesAhead_78 : decode cX4_coursesAhead 78 = .ok (.iload 6, 2) := by decide +kernel
theorem dX4_coursesAhead_80 : decode cX4_coursesAhead 80 = .ok (.isub, 1) := by decide +kernel
theorem dX4_coursesAhead_81 : decode cX4_coursesAhead 81 = .ok (.istore_n 2, 1) := by decide +kernel
theorem dX4_coursesAhead_82 : decode cX4_coursesAhead 82 = .ok (.aload_n 0, 1) := by decide +kernel
theorem dX4_coursesAhead_83 : decode cX4_coursesAhead 83 = .ok (.getfield 9, 3) := by decide +kernel
theorem dX4_coursesAhead_86 : decode cX4_coursesAhead 86 = .ok (.iload 5, 2) := by decide +kernel
theorem dX4_coursesAhead_88 : decode cX4_coursesAhead 88 = .ok (.invokevirtual 89, 3) := by decide +kernel
theorem dX4_coursesAhead_91 : decode cX4_coursesAhead 91 = .ok (.pop, 1) := by decide +kernel
theorem dX4_coursesAhead_92 : decode cX4_coursesAhead 92 = .ok (.iinc 3 1, 3) := by decide +kernel
theorem dX4_coursesAhead_95 : decode cX4_coursesAhead 95 = .ok (.goto (-72), 3) := by decide +kernel
theorem dX4_coursesAhead_98 : decode cX4_coursesAhead 98 = .ok (.iload_n 1, 1) := by decide +kernel
theorem dX4_coursesAhead_99 : decode cX4_coursesAhead 99 = .ok (.ireturn, 1) := by decide +kernel
theorem dX4_refusalOfCourse_0 : decode cX4_refusalOfCourse 0 = .ok (.iload_n 1, 1) := by decide +kernel
theorem dX4_refusalOfCourse_1 : decode cX4_refusalOfCourse 1 = .ok (.bipush 30, 2) := by decide +kernel
theorem dX4_refusalOfCourse_3 : decode cX4_refusalOfCourse 3 = .ok (.if_icmp .lt 12, 3) := by decide +kernel
theorem dX4_refusalOfCourse_6 : decode cX4_refusalOfCourse 6 = .ok (.aload_n 0, 1) := by decide +kernel
theorem dX4_refusalOfCourse_7 : decode cX4_refusalOfCourse 7 = .ok (.bipush 13, 2) := by decide +kernel
theorem dX4_refusalOfCourse_9 : decode cX4_refusalOfCourse 9 = .ok (.bipush 30, 2) := by decide +kernel
theorem dX4_refusalOfCourse_11 : decode cX4_refusalOfCourse 11 = .ok (.invokevirtual 96, 3) := by decide +kernel
theorem dX4_refusalOfCourse_14 : decode cX4_refusalOfCourse 14 = .ok (.ireturn, 1) := by decide +kernel
theorem dX4_refusalOfCourse_15 : decode cX4_refusalOfCourse 15 = .ok (.iload_n 2, 1) := by decide +kernel
theorem dX4_refusalOfCourse_16 : decode cX4_refusalOfCourse 16 = .ok (.ifCond .ne 11, 3) := by decide +kernel
theorem dX4_refusalOfCourse_19 : decode cX4_refusalOfCourse 19 = .ok (.aload_n 0, 1) := by decide +kernel
theorem dX4_refusalOfCourse_20 : decode cX4_refusalOfCourse 20 = .ok (.bipush 14, 2) := by decide +kernel
theorem dX4_refusalOfCourse_22 : decode cX4_refusalOfCourse 22 = .ok (.iload_n 1, 1) := by decide +kernel
theorem dX4_refusalOfCourse_23 : decode cX4_refusalOfCourse 23 = .ok (.invokevirtual 96, 3) := by decide +kernel
theorem dX4_refusalOfCourse_26 : decode cX4_refusalOfCourse 26 = .ok (.ireturn, 1) := by decide +kernel
theorem dX4_refusalOfCourse_27 : decode cX4_refusalOfCourse 27 = .ok (.iload_n 2, 1) := by decide +kernel
theorem dX4_refusalOfCourse_28 : decode cX4_refusalOfCourse 28 = .ok (.iload_n 3, 1) := by decide +kernel
theorem dX4_refusalOfCourse_29 : decode cX4_refusalOfCourse 29 = .ok (.if_icmp .le 13, 3) := by decide +kernel
theorem dX4_refusalOfCourse_32 : decode cX4_refusalOfCourse 32 = .ok (.aload_n 0, 1) := by decide +kernel
theorem dX4_refusalOfCourse_33 : decode cX4_refusalOfCourse 33 = .ok (.bipush 10, 2) := by decide +kernel
theorem dX4_refusalOfCourse_35 : decode cX4_refusalOfCourse 35 = .ok (.iload_n 2, 1) := by decide +kernel
theorem dX4_refusalOfCourse_36 : decode cX4_refusalOfCourse 36 = .ok (.invokevirtual 96, 3) := by decide +kernel
theorem dX4_refusalOfCourse_39 : decode cX4_refusalOfCourse 39 = .ok (.goto 4, 3) := by decide +kernel
theorem dX4_refusalOfCourse_42 : decode cX4_refusalOfCourse 42 = .ok (.iconst 0, 1) := by decide +kernel
theorem dX4_refusalOfCourse_43 : decode cX4_refusalOfCourse 43 = .ok (.ireturn, 1) := by decide +kernel
theorem dX4_refuse_0 : decode cX4_refuse 0 = .ok (.aload_n 0, 1) := by decide +kernel
theorem dX4_refuse_1 : decode cX4_refuse 1 = .ok (.iload_n 1, 1) := by decide +kernel
theorem dX4_refuse_2 : decode cX4_refuse 2 = .ok (.putfield 60, 3) := by decide +kernel
theorem dX4_refuse_5 : decode cX4_refuse 5 = .ok (.aload_n 0, 1) := by decide +kernel
theorem dX4_refuse_6 : decode cX4_refuse 6 = .ok (.iload_n 2, 1) := by decide +kernel
theorem dX4_refuse_7 : decode cX4_refuse 7 = .ok (.putfield 57, 3) := by decide +kernel
theorem dX4_refuse_10 : decode cX4_refuse 10 = .ok (.iload_n 1, 1) := by decide +kernel
theorem dX4_refuse_11 : decode cX4_refuse 11 = .ok (.ireturn, 1) := by decide +kernel
theorem dX4_refusalOf_0 : decode cX4_refusalOf 0 = .ok (.iload_n 1, 1) := by decide +kernel
theorem dX4_refusalOf_1 : decode cX4_refusalOf 1 = .ok (.tableswitch 271 99 121 #[107, 170, 271, 271, 191, 141, 271, 271, 253, 182, 271, 271, 271, 231, 271, 147, 271, 271, 176, 271, 271, 114, 200], 107) := by decide +kernel
theorem dX4_refusalOf_108 : decode cX4_refusalOf 108 = .ok (.aload_n 0, 1) := by decide +kernel
theorem dX4_refusalOf_109 : decode cX4_refusalOf 109 = .ok (.iload_n 2, 1) := by decide +kernel
theorem dX4_refusalOf_110 : decode cX4_refusalOf 110 = .ok (.iload_n 3, 1) := by decide +kernel
theorem dX4_refusalOf_111 : decode cX4_refusalOf 111 = .ok (.invokevirtual 100, 3) := by decide +kernel
theorem dX4_refusalOf_114 : decode cX4_refusalOf 114 = .ok (.ireturn, 1) := by decide +kernel
theorem dX4_refusalOf_115 : decode cX4_refusalOf 115 = .ok (.aload_n 0, 1) := by decide +kernel
theorem dX4_refusalOf_116 : decode cX4_refusalOf 116 = .ok (.getfield 18, 3) := by decide +kernel
theorem dX4_refusalOf_119 : decode cX4_refusalOf 119 = .ok (.invokevirtual 103, 3) := by decide +kernel
theorem dX4_refusalOf_122 : decode cX4_refusalOf 122 = .ok (.ifCond .ne 18, 3) := by decide +kernel
theorem dX4_refusalOf_125 : decode cX4_refusalOf 125 = .ok (.aload_n 0, 1) := by decide +kernel
theorem dX4_refusalOf_126 : decode cX4_refusalOf 126 = .ok (.iconst 3, 1) := by decide +kernel
theorem dX4_refusalOf_127 : decode cX4_refusalOf 127 = .ok (.aload_n 0, 1) := by decide +kernel
theorem dX4_refusalOf_128 : decode cX4_refusalOf 128 = .ok (.getfield 18, 3) := by decide +kernel
theorem dX4_refusalOf_131 : decode cX4_refusalOf 131 = .ok (.invokevirtual 107, 3) := by decide +kernel
theorem dX4_refusalOf_134 : decode cX4_refusalOf 134 = .ok (.invokevirtual 96, 3) := by decide +kernel
theorem dX4_refusalOf_137 : decode cX4_refusalOf 137 = .ok (.goto 4, 3) := by decide +kernel
theorem dX4_refusalOf_140 : decode cX4_refusalOf 140 = .ok (.iconst 0, 1) := by decide +kernel
theorem dX4_refusalOf_141 : decode cX4_refusalOf 141 = .ok (.ireturn, 1) := by decide +kernel
theorem dX4_refusalOf_142 : decode cX4_refusalOf 142 = .ok (.aload_n 0, 1) := by decide +kernel
theorem dX4_refusalOf_143 : decode cX4_refusalOf 143 = .ok (.iload_n 2, 1) := by decide +kernel
theorem dX4_refusalOf_144 : decode cX4_refusalOf 144 = .ok (.invokevirtual 110, 3) := by decide +kernel
theorem dX4_refusalOf_147 : decode cX4_refusalOf 147 = .ok (.ireturn, 1) := by decide +kernel
theorem dX4_refusalOf_148 : decode cX4_refusalOf 148 = .ok (.aload_n 0, 1) := by decide +kernel
theorem dX4_refusalOf_149 : decode cX4_refusalOf 149 = .ok (.getfield 18, 3) := by decide +kernel
theorem dX4_refusalOf_152 : decode cX4_refusalOf 152 = .ok (.iload_n 2, 1) := by decide +kernel
theorem dX4_refusalOf_153 : decode cX4_refusalOf 153 = .ok (.invokevirtual 113, 3) := by decide +kernel
theorem dX4_refusalOf_156 : decode cX4_refusalOf 156 = .ok (.ifCond .eq 7, 3) := by decide +kernel
theorem dX4_refusalOf_159 : decode cX4_refusalOf 159 = .ok (.iconst 0, 1) := by decide +kernel
theorem dX4_refusalOf_160 : decode cX4_refusalOf 160 = .ok (.goto 10, 3) := by decide +kernel
theorem dX4_refusalOf_163 : decode cX4_refusalOf 163 = .ok (.aload_n 0, 1) := by decide +kernel
theorem dX4_refusalOf_164 : decode cX4_refusalOf 164 = .ok (.bipush 6, 2) := by decide +kernel
theorem dX4_refusalOf_166 : decode cX4_refusalOf 166 = .ok (.iload_n 2, 1) := by decide +kernel
theorem dX4_refusalOf_167 : decode cX4_refusalOf 167 = .ok (.invokevirtual 96, 3) := by decide +kernel
theorem dX4_refusalOf_170 : decode cX4_refusalOf 170 = .ok (.ireturn, 1) := by decide +kernel
theorem dX4_refusalOf_171 : decode cX4_refusalOf 171 = .ok (.aload_n 0, 1) := by decide +kernel
theorem dX4_refusalOf_172 : decode cX4_refusalOf 172 = .ok (.iload_n 2, 1) := by decide +kernel
theorem dX4_refusalOf_173 : decode cX4_refusalOf 173 = .ok (.invokevirtual 117, 3) := by decide +kernel
theorem dX4_refusalOf_176 : decode cX4_refusalOf 176 = .ok (.ireturn, 1) := by decide +kernel
theorem dX4_refusalOf_177 : decode cX4_refusalOf 177 = .ok (.aload_n 0, 1) := by decide +kernel
theorem dX4_refusalOf_178 : decode cX4_refusalOf 178 = .ok (.iload_n 2, 1) := by decide +kernel
theorem dX4_refusalOf_179 : decode cX4_refusalOf 179 = .ok (.invokevirtual 120, 3) := by decide +kernel
theorem dX4_refusalOf_182 : decode cX4_refusalOf 182 = .ok (.ireturn, 1) := by decide +kernel
theorem dX4_refusalOf_183 : decode cX4_refusalOf 183 = .ok (.aload_n 0, 1) := by decide +kernel
theorem dX4_refusalOf_184 : decode cX4_refusalOf 184 = .ok (.iload_n 2, 1) := by decide +kernel
theorem dX4_refusalOf_185 : decode cX4_refusalOf 185 = .ok (.iload_n 2, 1) := by decide +kernel
theorem dX4_refusalOf_186 : decode cX4_refusalOf 186 = .ok (.iconst 1, 1) := by decide +kernel
theorem dX4_refusalOf_187 : decode cX4_refusalOf 187 = .ok (.isub, 1) := by decide +kernel
theorem dX4_refusalOf_188 : decode cX4_refusalOf 188 = .ok (.invokevirtual 123, 3) := by decide +kernel
theorem dX4_refusalOf_191 : decode cX4_refusalOf 191 = .ok (.ireturn, 1) := by decide +kernel
theorem dX4_refusalOf_192 : decode cX4_refusalOf 192 = .ok (.aload_n 0, 1) := by decide +kernel
theorem dX4_refusalOf_193 : decode cX4_refusalOf 193 = .ok (.iload_n 2, 1) := by decide +kernel
theorem dX4_refusalOf_194 : decode cX4_refusalOf 194 = .ok (.iload_n 2, 1) := by decide +kernel
theorem dX4_refusalOf_195 : decode cX4_refusalOf 195 = .ok (.iconst 1, 1) := by decide +kernel
theorem dX4_refusalOf_196 : decode cX4_refusalOf 196 = .ok (.iadd, 1) := by decide +kernel
theorem dX4_refusalOf_197 : decode cX4_refusalOf 197 = .ok (.invokevirtual 123, 3) := by decide +kernel
theorem dX4_refusalOf_200 : decode cX4_refusalOf 200 = .ok (.ireturn, 1) := by decide +kernel
theorem dX4_refusalOf_201 : decode cX4_refusalOf 201 = .ok (.aload_n 0, 1) := by decide +kernel
theorem dX4_refusalOf_202 : decode cX4_refusalOf 202 = .ok (.getfield 28, 3) := by decide +kernel
theorem dX4_refusalOf_205 : decode cX4_refusalOf 205 = .ok (.iload_n 2, 1) := by decide +kernel
theorem dX4_refusalOf_206 : decode cX4_refusalOf 206 = .ok (.iaload, 1) := by decide +kernel
theorem dX4_refusalOf_207 : decode cX4_refusalOf 207 = .ok (.iload_n 3, 1) := by decide +kernel
theorem dX4_refusalOf_208 : decode cX4_refusalOf 208 = .ok (.iadd, 1) := by decide +kernel
theorem dX4_refusalOf_209 : decode cX4_refusalOf 209 = .ok (.sipush 200, 3) := by decide +kernel
theorem dX4_refusalOf_212 : decode cX4_refusalOf 212 = .ok (.if_icmp .le 18, 3) := by decide +kernel
theorem dX4_refusalOf_215 : decode cX4_refusalOf 215 = .ok (.aload_n 0, 1) := by decide +kernel
theorem dX4_refusalOf_216 : decode cX4_refusalOf 216 = .ok (.bipush 11, 2) := by decide +kernel
theorem dX4_refusalOf_218 : decode cX4_refusalOf 218 = .ok (.aload_n 0, 1) := by decide +kernel
theorem dX4_refusalOf_219 : decode cX4_refusalOf 219 = .ok (.getfield 28, 3) := by decide +kernel
theorem dX4_refusalOf_222 : decode cX4_refusalOf 222 = .ok (.iload_n 2, 1) := by decide +kernel
theorem dX4_refusalOf_223 : decode cX4_refusalOf 223 = .ok (.iaload, 1) := by decide +kernel
theorem dX4_refusalOf_224 : decode cX4_refusalOf 224 = .ok (.invokevirtual 96, 3) := by decide +kernel
theorem dX4_refusalOf_227 : decode cX4_refusalOf 227 = .ok (.goto 4, 3) := by decide +kernel
theorem dX4_refusalOf_230 : decode cX4_refusalOf 230 = .ok (.iconst 0, 1) := by decide +kernel
theorem dX4_refusalOf_231 : decode cX4_refusalOf 231 = .ok (.ireturn, 1) := by decide +kernel
theorem dX4_refusalOf_232 : decode cX4_refusalOf 232 = .ok (.aload_n 0, 1) := by decide +kernel
theorem dX4_refusalOf_233 : decode cX4_refusalOf 233 = .ok (.getfield 42, 3) := by decide +kernel
theorem dX4_refusalOf_236 : decode cX4_refusalOf 236 = .ok (.bipush 6, 2) := by decide +kernel
theorem dX4_refusalOf_238 : decode cX4_refusalOf 238 = .ok (.if_icmp .lt 14, 3) := by decide +kernel
theorem dX4_refusalOf_241 : decode cX4_refusalOf 241 = .ok (.aload_n 0, 1) := by decide +kernel
theorem dX4_refusalOf_242 : decode cX4_refusalOf 242 = .ok (.bipush 12, 2) := by decide +kernel
theorem dX4_refusalOf_244 : decode cX4_refusalOf 244 = .ok (.bipush 6, 2) := by decide +kernel
theorem dX4_refusalOf_246 : decode cX4_refusalOf 246 = .ok (.invokevirtual 96, 3) := by decide +kernel
theorem dX4_refusalOf_249 : decode cX4_refusalOf 249 = .ok (.goto 4, 3) := by decide +kernel
theorem dX4_refusalOf_252 : decode cX4_refusalOf 252 = .ok (.iconst 0, 1) := by decide +kernel
theorem dX4_refusalOf_253 : decode cX4_refusalOf 253 = .ok (.ireturn, 1) := by decide +kernel
theorem dX4_refusalOf_254 : decode cX4_refusalOf 254 = .ok (.aload_n 0, 1) := by decide +kernel
theorem dX4_refusalOf_255 : decode cX4_refusalOf 255 = .ok (.iload_n 2, 1) := by decide +kernel
theorem dX4_refusalOf_256 : decode cX4_refusalOf 256 = .ok (.invokevirtual 126, 3) := by decide +kernel
theorem dX4_refusalOf_259 : decode cX4_refusalOf 259 = .ok (.iload_n 2, 1) := by decide +kernel
theorem dX4_refusalOf_260 : decode cX4_refusalOf 260 = .ok (.if_icmp .ge 10, 3) := by decide +kernel
theorem dX4_refusalOf_263 : decode cX4_refusalOf 263 = .ok (.aload_n 0, 1) := by decide +kernel
theorem dX4_refusalOf_264 : decode cX4_refusalOf 264 = .ok (.getfield 60, 3) := by decide +kernel
theorem dX4_refusalOf_267 : decode cX4_refusalOf 267 = .ok (.goto 4, 3) := by decide +kernel
theorem dX4_refusalOf_270 : decode cX4_refusalOf 270 = .ok (.iconst 0, 1) := by decide +kernel
theorem dX4_refusalOf_271 : decode cX4_refusalOf 271 = .ok (.ireturn, 1) := by decide +kernel
theorem dX4_refusalOf_272 : decode cX4_refusalOf 272 = .ok (.iconst 0, 1) := by decide +kernel
theorem dX4_refusalOf_273 : decode cX4_refusalOf 273 = .ok (.ireturn, 1) := by decide +kernel
theorem dX4_refusalOfCastOn_0 : decode cX4_refusalOfCastOn 0 = .ok (.aload_n 0, 1) := by decide +kernel
theorem dX4_refusalOfCastOn_1 : decode cX4_refusalOfCastOn 1 = .ok (.getfield 18, 3) := by decide +kernel
theorem dX4_refusalOfCastOn_4 : decode cX4_refusalOfCastOn 4 = .ok (.iload_n 1, 1) := by decide +kernel
theorem dX4_refusalOfCastOn_5 : decode cX4_refusalOfCastOn 5 = .ok (.iload_n 2, 1) := by decide +kernel
theorem dX4_refusalOfCastOn_6 : decode cX4_refusalOfCastOn 6 = .ok (.invokevirtual 129, 3) := by decide +kernel
theorem dX4_refusalOfCastOn_9 : decode cX4_refusalOfCastOn 9 = .ok (.istore_n 3, 1) := by decide +kernel
theorem dX4_refusalOfCastOn_10 : decode cX4_refusalOfCastOn 10 = .ok (.iload_n 3, 1) := by decide +kernel
theorem dX4_refusalOfCastOn_11 : decode cX4_refusalOfCastOn 11 = .ok (.iconst (-1), 1) := by decide +kernel
theorem dX4_refusalOfCastOn_12 : decode cX4_refusalOfCastOn 12 = .ok (.if_icmp .ne 7, 3) := by decide +kernel
theorem dX4_refusalOfCastOn_15 : decode cX4_refusalOfCastOn 15 = .ok (.iconst 0, 1) := by decide +kernel
theorem dX4_refusalOfCastOn_16 : decode cX4_refusalOfCastOn 16 = .ok (.goto 9, 3) := by decide +kernel
theorem dX4_refusalOfCastOn_19 : decode cX4_refusalOfCastOn 19 = .ok (.aload_n 0, 1) := by decide +kernel
theorem dX4_refusalOfCastOn_20 : decode cX4_refusalOfCastOn 20 = .ok (.iconst 1, 1) := by decide +kernel
theorem dX4_refusalOfCastOn_21 : decode cX4_refusalOfCastOn 21 = .ok (.iload_n 3, 1) := by decide +kernel
theorem dX4_refusalOfCastOn_22 : decode cX4_refusalOfCastOn 22 = .ok (.invokevirtual 96, 3) := by decide +kernel
theorem dX4_refusalOfCastOn_25 : decode cX4_refusalOfCastOn 25 = .ok (.ireturn, 1) := by decide +kernel
theorem dX4_refusalOfHold_0 : decode cX4_refusalOfHold 0 = .ok (.aload_n 0, 1) := by decide +kernel
theorem dX4_refusalOfHold_1 : decode cX4_refusalOfHold 1 = .ok (.getfield 18, 3) := by decide +kernel
theorem dX4_refusalOfHold_4 : decode cX4_refusalOfHold 4 = .ok (.iload_n 1, 1) := by decide +kernel
theorem dX4_refusalOfHold_5 : decode cX4_refusalOfHold 5 = .ok (.invokevirtual 132, 3) := by decide +kernel
theorem dX4_refusalOfHold_8 : decode cX4_refusalOfHold 8 = .ok (.ifCond .ne 10, 3) := by decide +kernel
theorem dX4_refusalOfHold_11 : decode cX4_refusalOfHold 11 = .ok (.aload_n 0, 1) := by decide +kernel
theorem dX4_refusalOfHold_12 : decode cX4_refusalOfHold 12 = .ok (.iconst 2, 1) := by decide +kernel
theorem dX4_refusalOfHold_13 : decode cX4_refusalOfHold 13 = .ok (.iload_n 1, 1) := by decide +kernel
theorem dX4_refusalOfHold_14 : decode cX4_refusalOfHold 14 = .ok (.invokevirtual 96, 3) := by decide +kernel
theorem dX4_refusalOfHold_17 : decode cX4_refusalOfHold 17 = .ok (.ireturn, 1) := by decide +kernel
theorem dX4_refusalOfHold_18 : decode cX4_refusalOfHold 18 = .ok (.aload_n 0, 1) := by decide +kernel
theorem dX4_refusalOfHold_19 : decode cX4_refusalOfHold 19 = .ok (.getfield 18, 3) := by decide +kernel
theorem dX4_refusalOfHold_22 : decode cX4_refusalOfHold 22 = .ok (.iload_n 1, 1) := by decide +kernel
theorem dX4_refusalOfHold_23 : decode cX4_refusalOfHold 23 = .ok (.invokevirtual 113, 3) := by decide +kernel
theorem dX4_refusalOfHold_26 : decode cX4_refusalOfHold 26 = .ok (.ifCond .eq 12, 3) := by decide +kernel
theorem dX4_refusalOfHold_29 : decode cX4_refusalOfHold 29 = .ok (.aload_n 0, 1) := by decide +kernel
theorem dX4_refusalOfHold_30 : decode cX4_refusalOfHold 30 = .ok (.iconst 5, 1) := by decide +kernel
theorem dX4_refusalOfHold_31 : decode cX4_refusalOfHold 31 = .ok (.iload_n 1, 1) := by decide +kernel
theorem dX4_refusalOfHold_32 : decode cX4_refusalOfHold 32 = .ok (.invokevirtual 96, 3) := by decide +kernel
theorem dX4_refusalOfHold_35 : decode cX4_refusalOfHold 35 = .ok (.goto 4, 3) := by decide +kernel
theorem dX4_refusalOfHold_38 : decode cX4_refusalOfHold 38 = .ok (.iconst 0, 1) := by decide +kernel
theorem dX4_refusalOfHold_39 : decode cX4_refusalOfHold 39 = .ok (.ireturn, 1) := by decide +kernel
theorem dX4_refusalOfTaking_0 : decode cX4_refusalOfTaking 0 = .ok (.aload_n 0, 1) := by decide +kernel
theorem dX4_refusalOfTaking_1 : decode cX4_refusalOfTaking 1 = .ok (.getfield 18, 3) := by decide +kernel
theorem dX4_refusalOfTaking_4 : decode cX4_refusalOfTaking 4 = .ok (.iload_n 1, 1) := by decide +kernel
theorem dX4_refusalOfTaking_5 : decode cX4_refusalOfTaking 5 = .ok (.invokevirtual 132, 3) := by decide +kernel
theorem dX4_refusalOfTaking_8 : decode cX4_refusalOfTaking 8 = .ok (.ifCond .ne 10, 3) := by decide +kernel
theorem dX4_refusalOfTaking_11 : decode cX4_refusalOfTaking 11 = .ok (.aload_n 0, 1) := by decide +kernel
theorem dX4_refusalOfTaking_12 : decode cX4_refusalOfTaking 12 = .ok (.iconst 2, 1) := by decide +kernel
theorem dX4_refusalOfTaking_13 : decode cX4_refusalOfTaking 13 = .ok (.iload_n 1, 1) := by decide +kernel
theorem dX4_refusalOfTaking_14 : decode cX4_refusalOfTaking 14 = .ok (.invokevirtual 96, 3) := by decide +kernel
theorem dX4_refusalOfTaking_17 : decode cX4_refusalOfTaking 17 = .ok (.ireturn, 1) := by decide +kernel
theorem dX4_refusalOfTaking_18 : decode cX4_refusalOfTaking 18 = .ok (.aload_n 0, 1) := by decide +kernel
theorem dX4_refusalOfTaking_19 : decode cX4_refusalOfTaking 19 = .ok (.getfield 18, 3) := by decide +kernel
theorem dX4_refusalOfTaking_22 : decode cX4_refusalOfTaking 22 = .ok (.getfield 135, 3) := by decide +kernel
theorem dX4_refusalOfTaking_25 : decode cX4_refusalOfTaking 25 = .ok (.iload_n 1, 1) := by decide +kernel
theorem dX4_refusalOfTaking_26 : decode cX4_refusalOfTaking 26 = .ok (.iaload, 1) := by decide +kernel
theorem dX4_refusalOfTaking_27 : decode cX4_refusalOfTaking 27 = .ok (.ifCond .ne 18, 3) := by decide +kernel
theorem dX4_refusalOfTaking_30 : decode cX4_refusalOfTaking 30 = .ok (.aload_n 0, 1) := by decide +kernel
theorem dX4_refusalOfTaking_31 : decode cX4_refusalOfTaking 31 = .ok (.iconst 3, 1) := by decide +kernel
theorem dX4_refusalOfTaking_32 : decode cX4_refusalOfTaking 32 = .ok (.aload_n 0, 1) := by decide +kernel
theorem dX4_refusalOfTaking_33 : decode cX4_refusalOfTaking 33 = .ok (.getfield 18, 3) := by decide +kernel
theorem dX4_refusalOfTaking_36 : decode cX4_refusalOfTaking 36 = .ok (.invokevirtual 107, 3) := by decide +kernel
theorem dX4_refusalOfTaking_39 : decode cX4_refusalOfTaking 39 = .ok (.invokevirtual 96, 3) := by decide +kernel
theorem dX4_refusalOfTaking_42 : decode cX4_refusalOfTaking 42 = .ok (.goto 4, 3) := by decide +kernel
theorem dX4_refusalOfTaking_45 : decode cX4_refusalOfTaking 45 = .ok (.iconst 0, 1) := by decide +kernel
theorem dX4_refusalOfTaking_46 : decode cX4_refusalOfTaking 46 = .ok (.ireturn, 1) := by decide +kernel
theorem dX4_refusalOfPickUp_0 : decode cX4_refusalOfPickUp 0 = .ok (.aload_n 0, 1) := by decide +kernel
theorem dX4_refusalOfPickUp_1 : decode cX4_refusalOfPickUp 1 = .ok (.getfield 18, 3) := by decide +kernel
theorem dX4_refusalOfPickUp_4 : decode cX4_refusalOfPickUp 4 = .ok (.iload_n 1, 1) := by decide +kernel
theorem dX4_refusalOfPickUp_5 : decode cX4_refusalOfPickUp 5 = .ok (.invokevirtual 132, 3) := by decide +kernel
theorem dX4_refusalOfPickUp_8 : decode cX4_refusalOfPickUp 8 = .ok (.ifCond .ne 10, 3) := by decide +kernel
theorem dX4_refusalOfPickUp_11 : decode cX4_refusalOfPickUp 11 = .ok (.aload_n 0, 1) := by decide +kernel
theorem dX4_refusalOfPickUp_12 : decode cX4_refusalOfPickUp 12 = .ok (.iconst 2, 1) := by decide +kernel
theorem dX4_refusalOfPickUp_13 : decode cX4_refusalOfPickUp 13 = .ok (.iload_n 1, 1) := by decide +kernel
theorem dX4_refusalOfPickUp_14 : decode cX4_refusalOfPickUp 14 = .ok (.invokevirtual 96, 3) := by decide +kernel
theorem dX4_refusalOfPickUp_17 : decode cX4_refusalOfPickUp 17 = .ok (.ireturn, 1) := by decide +kernel
theorem dX4_refusalOfPickUp_18 : decode cX4_refusalOfPickUp 18 = .ok (.aload_n 0, 1) := by decide +kernel
theorem dX4_refusalOfPickUp_19 : decode cX4_refusalOfPickUp 19 = .ok (.getfield 18, 3) := by decide +kernel
theorem dX4_refusalOfPickUp_22 : decode cX4_refusalOfPickUp 22 = .ok (.getfield 135, 3) := by decide +kernel
theorem dX4_refusalOfPickUp_25 : decode cX4_refusalOfPickUp 25 = .ok (.iload_n 1, 1) := by decide +kernel
theorem dX4_refusalOfPickUp_26 : decode cX4_refusalOfPickUp 26 = .ok (.iaload, 1) := by decide +kernel
theorem dX4_refusalOfPickUp_27 : decode cX4_refusalOfPickUp 27 = .ok (.ifCond .le 18, 3) := by decide +kernel
theorem dX4_refusalOfPickUp_30 : decode cX4_refusalOfPickUp 30 = .ok (.aload_n 0, 1) := by decide +kernel
theorem dX4_refusalOfPickUp_31 : decode cX4_refusalOfPickUp 31 = .ok (.iconst 4, 1) := by decide +kernel
theorem dX4_refusalOfPickUp_32 : decode cX4_refusalOfPickUp 32 = .ok (.aload_n 0, 1) := by decide +kernel
theorem dX4_refusalOfPickUp_33 : decode cX4_refusalOfPickUp 33 = .ok (.getfield 18, 3) := by decide +kernel
theorem dX4_refusalOfPickUp_36 : decode cX4_refusalOfPickUp 36 = .ok (.getfield 135, 3) := by decide +kernel
theorem dX4_refusalOfPickUp_39 : decode cX4_refusalOfPickUp 39 = .ok (.iload_n 1, 1) := by decide +kernel
theorem dX4_refusalOfPickUp_40 : decode cX4_refusalOfPickUp 40 = .ok (.iaload, 1) := by decide +kernel
theorem dX4_refusalOfPickUp_41 : decode cX4_refusalOfPickUp 41 = .ok (.invokevirtual 96, 3) := by decide +kernel
theorem dX4_refusalOfPickUp_44 : decode cX4_refusalOfPickUp 44 = .ok (.ireturn, 1) := by decide +kernel
theorem dX4_refusalOfPickUp_45 : decode cX4_refusalOfPickUp 45 = .ok (.aload_n 0, 1) := by decide +kernel
theorem dX4_refusalOfPickUp_46 : decode cX4_refusalOfPickUp 46 = .ok (.getfield 28, 3) := by decide +kernel
theorem dX4_refusalOfPickUp_49 : decode cX4_refusalOfPickUp 49 = .ok (.aload_n 0, 1) := by decide +kernel
theorem dX4_refusalOfPickUp_50 : decode cX4_refusalOfPickUp 50 = .ok (.getfield 35, 3) := by decide +kernel
theorem dX4_refusalOfPickUp_53 : decode cX4_refusalOfPickUp 53 = .ok (.iaload, 1) := by decide +kernel
theorem dX4_refusalOfPickUp_54 : decode cX4_refusalOfPickUp 54 = .ok (.iconst 1, 1) := by decide +kernel
theorem dX4_refusalOfPickUp_55 : decode cX4_refusalOfPickUp 55 = .ok (.if_icmp .ge 13, 3) := by decide +kernel
theorem dX4_refusalOfPickUp_58 : decode cX4_refusalOfPickUp 58 = .ok (.aload_n 0, 1) := by decide +kernel
theorem dX4_refusalOfPickUp_59 : decode cX4_refusalOfPickUp 59 = .ok (.bipush 10, 2) := by decide +kernel
theorem dX4_refusalOfPickUp_61 : decode cX4_refusalOfPickUp 61 = .ok (.iconst 1, 1) := by decide +kernel
theorem dX4_refusalOfPickUp_62 : decode cX4_refusalOfPickUp 62 = .ok (.invokevirtual 96, 3) := by decide +kernel
theorem dX4_refusalOfPickUp_65 : decode cX4_refusalOfPickUp 65 = .ok (.goto 4, 3) := by decide +kernel
theorem dX4_refusalOfPickUp_68 : decode cX4_refusalOfPickUp 68 = .ok (.iconst 0, 1) := by decide +kernel
theorem dX4_refusalOfPickUp_69 : decode cX4_refusalOfPickUp 69 = .ok (.ireturn, 1) := by decide +kernel
theorem dX4_refusalOfTransfer_0 : decode cX4_refusalOfTransfer 0 = .ok (.aload_n 0, 1) := by decide +kernel
theorem dX4_refusalOfTransfer_1 : decode cX4_refusalOfTransfer 1 = .ok (.iload_n 1, 1) := by decide +kernel
theorem dX4_refusalOfTransfer_2 : decode cX4_refusalOfTransfer 2 = .ok (.invokevirtual 117, 3) := by decide +kernel
theorem dX4_refusalOfTransfer_5 : decode cX4_refusalOfTransfer 5 = .ok (.istore_n 3, 1) := by decide +kernel
theorem dX4_refusalOfTransfer_6 : decode cX4_refusalOfTransfer 6 = .ok (.iload_n 3, 1) := by decide +kernel
theorem dX4_refusalOfTransfer_7 : decode cX4_refusalOfTransfer 7 = .ok (.ifCond .eq 5, 3) := by decide +kernel
theorem dX4_refusalOfTransfer_10 : decode cX4_refusalOfTransfer 10 = .ok (.iload_n 3, 1) := by decide +kernel
theorem dX4_refusalOfTransfer_11 : decode cX4_refusalOfTransfer 11 = .ok (.ireturn, 1) := by decide +kernel
theorem dX4_refusalOfTransfer_12 : decode cX4_refusalOfTransfer 12 = .ok (.iload_n 2, 1) := by decide +kernel
theorem dX4_refusalOfTransfer_13 : decode cX4_refusalOfTransfer 13 = .ok (.invokestatic 138, 3) := by decide +kernel
theorem dX4_refusalOfTransfer_16 : decode cX4_refusalOfTransfer 16 = .ok (.ifCond .ne 11, 3) := by decide +kernel
theorem dX4_refusalOfTransfer_19 : decode cX4_refusalOfTransfer 19 = .ok (.aload_n 0, 1) := by decide +kernel
theorem dX4_refusalOfTransfer_20 : decode cX4_refusalOfTransfer 20 = .ok (.bipush 7, 2) := by decide +kernel
theorem dX4_refusalOfTransfer_22 : decode cX4_refusalOfTransfer 22 = .ok (.iload_n 1, 1) := by decide +kernel
theorem dX4_refusalOfTransfer_23 : decode cX4_refusalOfTransfer 23 = .ok (.invokevirtual 96, 3) := by decide +kernel
theorem dX4_refusalOfTransfer_26 : decode cX4_refusalOfTransfer 26 = .ok (.ireturn, 1) := by decide +kernel
theorem dX4_refusalOfTransfer_27 : decode cX4_refusalOfTransfer 27 = .ok (.aload_n 0, 1) := by decide +kernel
theorem dX4_refusalOfTransfer_28 : decode cX4_refusalOfTransfer 28 = .ok (.getfield 18, 3) := by decide +kernel
theorem dX4_refusalOfTransfer_31 : decode cX4_refusalOfTransfer 31 = .ok (.iload_n 2, 1) := by decide +kernel
theorem dX4_refusalOfTransfer_32 : decode cX4_refusalOfTransfer 32 = .ok (.invokevirtual 132, 3) := by decide +kernel
theorem dX4_refusalOfTransfer_35 : decode cX4_refusalOfTransfer 35 = .ok (.ifCond .ne 11, 3) := by decide +kernel
theorem dX4_refusalOfTransfer_38 : decode cX4_refusalOfTransfer 38 = .ok (.aload_n 0, 1) := by decide +kernel
theorem dX4_refusalOfTransfer_39 : decode cX4_refusalOfTransfer 39 = .ok (.bipush 8, 2) := by decide +kernel
theorem dX4_refusalOfTransfer_41 : decode cX4_refusalOfTransfer 41 = .ok (.iload_n 2, 1) := by decide +kernel
theorem dX4_refusalOfTransfer_42 : decode cX4_refusalOfTransfer 42 = .ok (.invokevirtual 96, 3) := by decide +kernel
theorem dX4_refusalOfTransfer_45 : decode cX4_refusalOfTransfer 45 = .ok (.ireturn, 1) := by decide +kernel
theorem dX4_refusalOfTransfer_46 : decode cX4_refusalOfTransfer 46 = .ok (.aload_n 0, 1) := by decide +kernel
theorem dX4_refusalOfTransfer_47 : decode cX4_refusalOfTransfer 47 = .ok (.getfield 18, 3) := by decide +kernel
theorem dX4_refusalOfTransfer_50 : decode cX4_refusalOfTransfer 50 = .ok (.getfield 135, 3) := by decide +kernel
theorem dX4_refusalOfTransfer_53 : decode cX4_refusalOfTransfer 53 = .ok (.iload_n 1, 1) := by decide +kernel
theorem dX4_refusalOfTransfer_54 : decode cX4_refusalOfTransfer 54 = .ok (.iaload, 1) := by decide +kernel
theorem dX4_refusalOfTransfer_55 : decode cX4_refusalOfTransfer 55 = .ok (.aload_n 0, 1) := by decide +kernel
theorem dX4_refusalOfTransfer_56 : decode cX4_refusalOfTransfer 56 = .ok (.getfield 18, 3) := by decide +kernel
theorem dX4_refusalOfTransfer_59 : decode cX4_refusalOfTransfer 59 = .ok (.getfield 135, 3) := by decide +kernel
theorem dX4_refusalOfTransfer_62 : decode cX4_refusalOfTransfer 62 = .ok (.iload_n 2, 1) := by decide +kernel
theorem dX4_refusalOfTransfer_63 : decode cX4_refusalOfTransfer 63 = .ok (.iaload, 1) := by decide +kernel
theorem dX4_refusalOfTransfer_64 : decode cX4_refusalOfTransfer 64 = .ok (.iadd, 1) := by decide +kernel
theorem dX4_refusalOfTransfer_65 : decode cX4_refusalOfTransfer 65 = .ok (.istore 4, 2) := by decide +kernel
theorem dX4_refusalOfTransfer_67 : decode cX4_refusalOfTransfer 67 = .ok (.iload 4, 2) := by decide +kernel
theorem dX4_refusalOfTransfer_69 : decode cX4_refusalOfTransfer 69 = .ok (.iconst 3, 1) := by decide +kernel
theorem dX4_refusalOfTransfer_70 : decode cX4_refusalOfTransfer 70 = .ok (.if_icmp .le 14, 3) := by decide +kernel
theorem dX4_refusalOfTransfer_73 : decode cX4_refusalOfTransfer 73 = .ok (.aload_n 0, 1) := by decide +kernel
theorem dX4_refusalOfTransfer_74 : decode cX4_refusalOfTransfer 74 = .ok (.bipush 9, 2) := by decide +kernel
theorem dX4_refusalOfTransfer_76 : decode cX4_refusalOfTransfer 76 = .ok (.iload 4, 2) := by decide +kernel
theorem dX4_refusalOfTransfer_78 : decode cX4_refusalOfTransfer 78 = .ok (.invokevirtual 96, 3) := by decide +kernel
theorem dX4_refusalOfTransfer_81 : decode cX4_refusalOfTransfer 81 = .ok (.goto 4, 3) := by decide +kernel
theorem dX4_refusalOfTransfer_84 : decode cX4_refusalOfTransfer 84 = .ok (.iconst 0, 1) := by decide +kernel
theorem dX4_refusalOfTransfer_85 : decode cX4_refusalOfTransfer 85 = .ok (.ireturn, 1) := by decide +kernel
theorem dX4_perform_0 : decode cX4_perform 0 = .ok (.iload_n 1, 1) := by decide +kernel
theorem dX4_perform_1 : decode cX4_perform 1 = .ok (.tableswitch 212 99 121 #[107, 140, 212, 183, 164, 122, 212, 212, 206, 152, 212, 212, 212, 195, 201, 131, 212, 189, 146, 212, 212, 117, 176], 107) := by decide +kernel
theorem dX4_perform_108 : decode cX4_perform 108 = .ok (.aload_n 0, 1) := by decide +kernel
theorem dX4_perform_109 : decode cX4_perform 109 = .ok (.getfield 18, 3) := by decide +kernel
theorem dX4_perform_112 : decode cX4_perform 112 = .ok (.iload_n 2, 1) := by decide +kernel
theorem dX4_perform_113 : decode cX4_perform 113 = .ok (.iload_n 3, 1) := by decide +kernel
theorem dX4_perform_114 : decode cX4_perform 114 = .ok (.invokevirtual 141, 3) := by decide +kernel
theorem dX4_perform_117 : decode cX4_perform 117 = .ok (.ireturn, 1) := by decide +kernel
theorem dX4_perform_118 : decode cX4_perform 118 = .ok (.aload_n 0, 1) := by decide +kernel
theorem dX4_perform_119 : decode cX4_perform 119 = .ok (.invokevirtual 144, 3) := by decide +kernel
theorem dX4_perform_122 : decode cX4_perform 122 = .ok (.ireturn, 1) := by decide +kernel
theorem dX4_perform_123 : decode cX4_perform 123 = .ok (.aload_n 0, 1) := by decide +kernel
theorem dX4_perform_124 : decode cX4_perform 124 = .ok (.getfield 18, 3) := by decide +kernel
theorem dX4_perform_127 : decode cX4_perform 127 = .ok (.iload_n 2, 1) := by decide +kernel
theorem dX4_perform_128 : decode cX4_perform 128 = .ok (.invokevirtual 147, 3) := by decide +kernel
theorem dX4_perform_131 : decode cX4_perform 131 = .ok (.ireturn, 1) := by decide +kernel
theorem dX4_perform_132 : decode cX4_perform 132 = .ok (.aload_n 0, 1) := by decide +kernel
theorem dX4_perform_133 : decode cX4_perform 133 = .ok (.getfield 18, 3) := by decide +kernel
theorem dX4_perform_136 : decode cX4_perform 136 = .ok (.iload_n 2, 1) := by decide +kernel
theorem dX4_perform_137 : decode cX4_perform 137 = .ok (.invokevirtual 150, 3) := by decide +kernel
theorem dX4_perform_140 : decode cX4_perform 140 = .ok (.ireturn, 1) := by decide +kernel
theorem dX4_perform_141 : decode cX4_perform 141 = .ok (.aload_n 0, 1) := by decide +kernel
theorem dX4_perform_142 : decode cX4_perform 142 = .ok (.iload_n 2, 1) := by decide +kernel
theorem dX4_perform_143 : decode cX4_perform 143 = .ok (.invokevirtual 153, 3) := by decide +kernel
theorem dX4_perform_146 : decode cX4_perform 146 = .ok (.ireturn, 1) := by decide +kernel
theorem dX4_perform_147 : decode cX4_perform 147 = .ok (.aload_n 0, 1) := by decide +kernel
theorem dX4_perform_148 : decode cX4_perform 148 = .ok (.iload_n 2, 1) := by decide +kernel
theorem dX4_perform_149 : decode cX4_perform 149 = .ok (.invokevirtual 156, 3) := by decide +kernel
theorem dX4_perform_152 : decode cX4_perform 152 = .ok (.ireturn, 1) := by decide +kernel
theorem dX4_perform_153 : decode cX4_perform 153 = .ok (.aload_n 0, 1) := by decide +kernel
theorem dX4_perform_154 : decode cX4_perform 154 = .ok (.getfield 18, 3) := by decide +kernel
theorem dX4_perform_157 : decode cX4_perform 157 = .ok (.iload_n 2, 1) := by decide +kernel
theorem dX4_perform_158 : decode cX4_perform 158 = .ok (.iload_n 2, 1) := by decide +kernel
theorem dX4_perform_159 : decode cX4_perform 159 = .ok (.iconst 1, 1) := by decide +kernel
theorem dX4_perform_160 : decode cX4_perform 160 = .ok (.isub, 1) := by decide +kernel
theorem dX4_perform_161 : decode cX4_perform 161 = .ok (.invokevirtual 159, 3) := by decide +kernel
theorem dX4_perform_164 : decode cX4_perform 164 = .ok (.ireturn, 1) := by decide +kernel
theorem dX4_perform_165 : decode cX4_perform 165 = .ok (.aload_n 0, 1) := by decide +kernel
theorem dX4_perform_166 : decode cX4_perform 166 = .ok (.getfield 18, 3) := by decide +kernel
theorem dX4_perform_169 : decode cX4_perform 169 = .ok (.iload_n 2, 1) := by decide +kernel
theorem dX4_perform_170 : decode cX4_perform 170 = .ok (.iload_n 2, 1) := by decide +kernel
theorem dX4_perform_171 : decode cX4_perform 171 = .ok (.iconst 1, 1) := by decide +kernel
theorem dX4_perform_172 : decode cX4_perform 172 = .ok (.iadd, 1) := by decide +kernel
theorem dX4_perform_173 : decode cX4_perform 173 = .ok (.invokevirtual 159, 3) := by decide +kernel
theorem dX4_perform_176 : decode cX4_perform 176 = .ok (.ireturn, 1) := by decide +kernel
theorem dX4_perform_177 : decode cX4_perform 177 = .ok (.aload_n 0, 1) := by decide +kernel
theorem dX4_perform_178 : decode cX4_perform 178 = .ok (.iload_n 2, 1) := by decide +kernel
theorem dX4_perform_179 : decode cX4_perform 179 = .ok (.iload_n 3, 1) := by decide +kernel
theorem dX4_perform_180 : decode cX4_perform 180 = .ok (.invokevirtual 162, 3) := by decide +kernel
theorem dX4_perform_183 : decode cX4_perform 183 = .ok (.ireturn, 1) := by decide +kernel
theorem dX4_perform_184 : decode cX4_perform 184 = .ok (.aload_n 0, 1) := by decide +kernel
theorem dX4_perform_185 : decode cX4_perform 185 = .ok (.iload_n 2, 1) := by decide +kernel
theorem dX4_perform_186 : decode cX4_perform 186 = .ok (.invokevirtual 165, 3) := by decide +kernel
theorem dX4_perform_189 : decode cX4_perform 189 = .ok (.ireturn, 1) := by decide +kernel
theorem dX4_perform_190 : decode cX4_perform 190 = .ok (.aload_n 0, 1) := by decide +kernel
theorem dX4_perform_191 : decode cX4_perform 191 = .ok (.iload_n 2, 1) := by decide +kernel
theorem dX4_perform_192 : decode cX4_perform 192 = .ok (.invokevirtual 168, 3) := by decide +kernel
theorem dX4_perform_195 : decode cX4_perform 195 = .ok (.ireturn, 1) := by decide +kernel
theorem dX4_perform_196 : decode cX4_perform 196 = .ok (.aload_n 0, 1) := by decide +kernel
theorem dX4_perform_197 : decode cX4_perform 197 = .ok (.iload_n 2, 1) := by decide +kernel
theorem dX4_perform_198 : decode cX4_perform 198 = .ok (.invokevirtual 171, 3) := by decide +kernel
theorem dX4_perform_201 : decode cX4_perform 201 = .ok (.ireturn, 1) := by decide +kernel
theorem dX4_perform_202 : decode cX4_perform 202 = .ok (.aload_n 0, 1) := by decide +kernel
theorem dX4_perform_203 : decode cX4_perform 203 = .ok (.invokevirtual 174, 3) := by decide +kernel
theorem dX4_perform_206 : decode cX4_perform 206 = .ok (.ireturn, 1) := by decide +kernel
theorem dX4_perform_207 : decode cX4_perform 207 = .ok (.aload_n 0, 1) := by decide +kernel
theorem dX4_perform_208 : decode cX4_perform 208 = .ok (.iload_n 2, 1) := by decide +kernel
theorem dX4_perform_209 : decode cX4_perform 209 = .ok (.invokevirtual 177, 3) := by decide +kernel
theorem dX4_perform_212 : decode cX4_perform 212 = .ok (.ireturn, 1) := by decide +kernel
theorem dX4_perform_213 : decode cX4_perform 213 = .ok (.iconst (-1), 1) := by decide +kernel
theorem dX4_perform_214 : decode cX4_perform 214 = .ok (.ireturn, 1) := by decide +kernel
theorem dX4_finishShawl_0 : decode cX4_finishShawl 0 = .ok (.aload_n 0, 1) := by decide +kernel
theorem dX4_finishShawl_1 : decode cX4_finishShawl 1 = .ok (.dup, 1) := by decide +kernel
theorem dX4_finishShawl_2 : decode cX4_finishShawl 2 = .ok (.getfield 45, 3) := by decide +kernel
theorem dX4_finishShawl_5 : decode cX4_finishShawl 5 = .ok (.iconst 1, 1) := by decide +kernel
theorem dX4_finishShawl_6 : decode cX4_finishShawl 6 = .ok (.iadd, 1) := by decide +kernel
theorem dX4_finishShawl_7 : decode cX4_finishShawl 7 = .ok (.putfield 45, 3) := by decide +kernel
theorem dX4_finishShawl_10 : decode cX4_finishShawl 10 = .ok (.aload_n 0, 1) := by decide +kernel
theorem dX4_finishShawl_11 : decode cX4_finishShawl 11 = .ok (.getfield 24, 3) := by decide +kernel
theorem dX4_finishShawl_14 : decode cX4_finishShawl 14 = .ok (.iconst 0, 1) := by decide +kernel
theorem dX4_finishShawl_15 : decode cX4_finishShawl 15 = .ok (.putfield 76, 3) := by decide +kernel
theorem dX4_finishShawl_18 : decode cX4_finishShawl 18 = .ok (.aload_n 0, 1) := by decide +kernel
theorem dX4_finishShawl_19 : decode cX4_finishShawl 19 = .ok (.getfield 18, 3) := by decide +kernel
theorem dX4_finishShawl_22 : decode cX4_finishShawl 22 = .ok (.invokevirtual 180, 3) := by decide +kernel
theorem dX4_finishShawl_25 : decode cX4_finishShawl 25 = .ok (.ireturn, 1) := by decide +kernel
theorem dX4_dropFrom_0 : decode cX4_dropFrom 0 = .ok (.aload_n 0, 1) := by decide +kernel
theorem dX4_dropFrom_1 : decode cX4_dropFrom 1 = .ok (.getfield 18, 3) := by decide +kernel
theorem dX4_dropFrom_4 : decode cX4_dropFrom 4 = .ok (.iload_n 1, 1) := by decide +kernel
theorem dX4_dropFrom_5 : decode cX4_dropFrom 5 = .ok (.invokevirtual 183, 3) := by decide +kernel
theorem dX4_dropFrom_8 : decode cX4_dropFrom 8 = .ok (.istore_n 2, 1) := by decide +kernel
theorem dX4_dropFrom_9 : decode cX4_dropFrom 9 = .ok (.aload_n 0, 1) := by decide +kernel
theorem dX4_dropFrom_10 : decode cX4_dropFrom 10 = .ok (.dup, 1) := by decide +kernel
theorem dX4_dropFrom_11 : decode cX4_dropFrom 11 = .ok (.getfield 54, 3) := by decide +kernel
theorem dX4_dropFrom_14 : decode cX4_dropFrom 14 = .ok (.iload_n 2, 1) := by decide +kernel
theorem dX4_dropFrom_15 : decode cX4_dropFrom 15 = .ok (.iadd, 1) := by decide +kernel
theorem dX4_dropFrom_16 : decode cX4_dropFrom 16 = .ok (.putfield 54, 3) := by decide +kernel
theorem dX4_dropFrom_19 : decode cX4_dropFrom 19 = .ok (.iload_n 2, 1) := by decide +kernel
theorem dX4_dropFrom_20 : decode cX4_dropFrom 20 = .ok (.ireturn, 1) := by decide +kernel
theorem dX4_pickUpOn_0 : decode cX4_pickUpOn 0 = .ok (.aload_n 0, 1) := by decide +kernel
theorem dX4_pickUpOn_1 : decode cX4_pickUpOn 1 = .ok (.getfield 18, 3) := by decide +kernel
theorem dX4_pickUpOn_4 : decode cX4_pickUpOn 4 = .ok (.iload_n 1, 1) := by decide +kernel
theorem dX4_pickUpOn_5 : decode cX4_pickUpOn 5 = .ok (.invokevirtual 186, 3) := by decide +kernel
theorem dX4_pickUpOn_8 : decode cX4_pickUpOn 8 = .ok (.aload_n 0, 1) := by decide +kernel
theorem dX4_pickUpOn_9 : decode cX4_pickUpOn 9 = .ok (.iconst 1, 1) := by decide +kernel
theorem dX4_pickUpOn_10 : decode cX4_pickUpOn 10 = .ok (.invokevirtual 190, 3) := by decide +kernel
theorem dX4_pickUpOn_13 : decode cX4_pickUpOn 13 = .ok (.aload_n 0, 1) := by decide +kernel
theorem dX4_pickUpOn_14 : decode cX4_pickUpOn 14 = .ok (.getfield 28, 3) := by decide +kernel
theorem dX4_pickUpOn_17 : decode cX4_pickUpOn 17 = .ok (.aload_n 0, 1) := by decide +kernel
theorem dX4_pickUpOn_18 : decode cX4_pickUpOn 18 = .ok (.getfield 35, 3) := by decide +kernel
theorem dX4_pickUpOn_21 : decode cX4_pickUpOn 21 = .ok (.iaload, 1) := by decide +kernel
theorem dX4_pickUpOn_22 : decode cX4_pickUpOn 22 = .ok (.ireturn, 1) := by decide +kernel
theorem dX4_useYarn_0 : decode cX4_useYarn 0 = .ok (.aload_n 0, 1) := by decide +kernel
theorem dX4_useYarn_1 : decode cX4_useYarn 1 = .ok (.getfield 28, 3) := by decide +kernel
theorem dX4_useYarn_4 : decode cX4_useYarn 4 = .ok (.aload_n 0, 1) := by decide +kernel
theorem dX4_useYarn_5 : decode cX4_useYarn 5 = .ok (.getfield 35, 3) := by decide +kernel
theorem dX4_useYarn_8 : decode cX4_useYarn 8 = .ok (.dup2, 1) := by decide +kernel
theorem dX4_useYarn_9 : decode cX4_useYarn 9 = .ok (.iaload, 1) := by decide +kernel
theorem dX4_useYarn_10 : decode cX4_useYarn 10 = .ok (.iload_n 1, 1) := by decide +kernel
theorem dX4_useYarn_11 : decode cX4_useYarn 11 = .ok (.isub, 1) := by decide +kernel
theorem dX4_useYarn_12 : decode cX4_useYarn 12 = .ok (.iastore, 1) := by decide +kernel
theorem dX4_useYarn_13 : decode cX4_useYarn 13 = .ok (.aload_n 0, 1) := by decide +kernel
theorem dX4_useYarn_14 : decode cX4_useYarn 14 = .ok (.dup, 1) := by decide +kernel
theorem dX4_useYarn_15 : decode cX4_useYarn 15 = .ok (.getfield 51, 3) := by decide +kernel
theorem dX4_useYarn_18 : decode cX4_useYarn 18 = .ok (.iload_n 1, 1) := by decide +kernel
theorem dX4_useYarn_19 : decode cX4_useYarn 19 = .ok (.iadd, 1) := by decide +kernel
theorem dX4_useYarn_20 : decode cX4_useYarn 20 = .ok (.putfield 51, 3) := by decide +kernel
theorem dX4_useYarn_23 : decode cX4_useYarn 23 = .ok (.return_, 1) := by decide +kernel
theorem dX4_fill_0 : decode cX4_fill 0 = .ok (.aload_n 0, 1) := by decide +kernel
theorem dX4_fill_1 : decode cX4_fill 1 = .ok (.getfield 28, 3) := by decide +kernel
theorem dX4_fill_4 : decode cX4_fill 4 = .ok (.iload_n 1, 1) := by decide +kernel
theorem dX4_fill_5 : decode cX4_fill 5 = .ok (.dup2, 1) := by decide +kernel
theorem dX4_fill_6 : decode cX4_fill 6 = .ok (.iaload, 1) := by decide +kernel
theorem dX4_fill_7 : decode cX4_fill 7 = .ok (.iload_n 2, 1) := by decide +kernel
theorem dX4_fill_8 : decode cX4_fill 8 = .ok (.iadd, 1) := by decide +kernel
theorem dX4_fill_9 : decode cX4_fill 9 = .ok (.iastore, 1) := by decide +kernel
theorem dX4_fill_10 : decode cX4_fill 10 = .ok (.aload_n 0, 1) := by decide +kernel
theorem dX4_fill_11 : decode cX4_fill 11 = .ok (.dup, 1) := by decide +kernel
theorem dX4_fill_12 : decode cX4_fill 12 = .ok (.getfield 48, 3) := by decide +kernel
theorem dX4_fill_15 : decode cX4_fill 15 = .ok (.iload_n 2, 1) := by decide +kernel
theorem dX4_fill_16 : decode cX4_fill 16 = .ok (.iadd, 1) := by decide +kernel
theorem dX4_fill_17 : decode cX4_fill 17 = .ok (.putfield 48, 3) := by decide +kernel
theorem dX4_fill_20 : decode cX4_fill 20 = .ok (.aload_n 0, 1) := by decide +kernel
theorem dX4_fill_21 : decode cX4_fill 21 = .ok (.getfield 28, 3) := by decide +kernel
theorem dX4_fill_24 : decode cX4_fill 24 = .ok (.iload_n 1, 1) := by decide +kernel
theorem dX4_fill_25 : decode cX4_fill 25 = .ok (.iaload, 1) := by decide +kernel
theorem dX4_fill_26 : decode cX4_fill 26 = .ok (.ireturn, 1) := by decide +kernel
theorem dX4_activate_0 : decode cX4_activate 0 = .ok (.aload_n 0, 1) := by decide +kernel
theorem dX4_activate_1 : decode cX4_activate 1 = .ok (.getfield 35, 3) := by decide +kernel
theorem dX4_activate_4 : decode cX4_activate 4 = .ok (.istore_n 2, 1) := by decide +kernel
theorem dX4_activate_5 : decode cX4_activate 5 = .ok (.aload_n 0, 1) := by decide +kernel
theorem dX4_activate_6 : decode cX4_activate 6 = .ok (.iload_n 1, 1) := by decide +kernel
theorem dX4_activate_7 : decode cX4_activate 7 = .ok (.putfield 35, 3) := by decide +kernel
theorem dX4_activate_10 : decode cX4_activate 10 = .ok (.iload_n 2, 1) := by decide +kernel
theorem dX4_activate_11 : decode cX4_activate 11 = .ok (.ireturn, 1) := by decide +kernel
theorem dX4_tighten_0 : decode cX4_tighten 0 = .ok (.aload_n 0, 1) := by decide +kernel
theorem dX4_tighten_1 : decode cX4_tighten 1 = .ok (.getfield 39, 3) := by decide +kernel
theorem dX4_tighten_4 : decode cX4_tighten 4 = .ok (.istore_n 2, 1) := by decide +kernel
theorem dX4_tighten_5 : decode cX4_tighten 5 = .ok (.aload_n 0, 1) := by decide +kernel
theorem dX4_tighten_6 : decode cX4_tighten 6 = .ok (.iload_n 1, 1) := by decide +kernel
theorem dX4_tighten_7 : decode cX4_tighten 7 = .ok (.putfield 39, 3) := by decide +kernel
theorem dX4_tighten_10 : decode cX4_tighten 10 = .ok (.iload_n 2, 1) := by decide +kernel
theorem dX4_tighten_11 : decode cX4_tighten 11 = .ok (.ireturn, 1) := by decide +kernel
theorem dX4_addRow_0 : decode cX4_addRow 0 = .ok (.aload_n 0, 1) := by decide +kernel
theorem dX4_addRow_1 : decode cX4_addRow 1 = .ok (.getfield 42, 3) := by decide +kernel
theorem dX4_addRow_4 : decode cX4_addRow 4 = .ok (.bipush 6, 2) := by decide +kernel
theorem dX4_addRow_6 : decode cX4_addRow 6 = .ok (.if_icmp .ge 23, 3) := by decide +kernel
theorem dX4_addRow_9 : decode cX4_addRow 9 = .ok (.aload_n 0, 1) := by decide +kernel
theorem dX4_addRow_10 : decode cX4_addRow 10 = .ok (.getfield 32, 3) := by decide +kernel
theorem dX4_addRow_13 : decode cX4_addRow 13 = .ok (.aload_n 0, 1) := by decide +kernel
theorem dX4_addRow_14 : decode cX4_addRow 14 = .ok (.getfield 42, 3) := by decide +kernel
theorem dX4_addRow_17 : decode cX4_addRow 17 = .ok (.iload_n 1, 1) := by decide +kernel
theorem dX4_addRow_18 : decode cX4_addRow 18 = .ok (.iastore, 1) := by decide +kernel
theorem dX4_addRow_19 : decode cX4_addRow 19 = .ok (.aload_n 0, 1) := by decide +kernel
theorem dX4_addRow_20 : decode cX4_addRow 20 = .ok (.dup, 1) := by decide +kernel
theorem dX4_addRow_21 : decode cX4_addRow 21 = .ok (.getfield 42, 3) := by decide +kernel
theorem dX4_addRow_24 : decode cX4_addRow 24 = .ok (.iconst 1, 1) := by decide +kernel
theorem dX4_addRow_25 : decode cX4_addRow 25 = .ok (.iadd, 1) := by decide +kernel
theorem dX4_addRow_26 : decode cX4_addRow 26 = .ok (.putfield 42, 3) := by decide +kernel
theorem dX4_addRow_29 : decode cX4_addRow 29 = .ok (.aload_n 0, 1) := by decide +kernel
theorem dX4_addRow_30 : decode cX4_addRow 30 = .ok (.getfield 42, 3) := by decide +kernel
theorem dX4_addRow_33 : decode cX4_addRow 33 = .ok (.ireturn, 1) := by decide +kernel
theorem dX4_removeRows_0 : decode cX4_removeRows 0 = .ok (.aload_n 0, 1) := by decide +kernel
theorem dX4_removeRows_1 : decode cX4_removeRows 1 = .ok (.getfield 42, 3) := by decide +kernel
theorem dX4_removeRows_4 : decode cX4_removeRows 4 = .ok (.istore_n 1, 1) := by decide +kernel
theorem dX4_removeRows_5 : decode cX4_removeRows 5 = .ok (.aload_n 0, 1) := by decide +kernel
theorem dX4_removeRows_6 : decode cX4_removeRows 6 = .ok (.iconst 0, 1) := by decide +kernel
theorem dX4_removeRows_7 : decode cX4_removeRows 7 = .ok (.putfield 42, 3) := by decide +kernel
theorem dX4_removeRows_10 : decode cX4_removeRows 10 = .ok (.iload_n 1, 1) := by decide +kernel
theorem dX4_removeRows_11 : decode cX4_removeRows 11 = .ok (.ireturn, 1) := by decide +kernel
theorem dX4_knitCourses_0 : decode cX4_knitCourses 0 = .ok (.iconst 0, 1) := by decide +kernel
theorem dX4_knitCourses_1 : decode cX4_knitCourses 1 = .ok (.istore_n 2, 1) := by decide +kernel
theorem dX4_knitCourses_2 : decode cX4_knitCourses 2 = .ok (.iconst 0, 1) := by decide +kernel
theorem dX4_knitCourses_3 : decode cX4_knitCourses 3 = .ok (.istore_n 3, 1) := by decide +kernel
theorem dX4_knitCourses_4 : decode cX4_knitCourses 4 = .ok (.iload_n 3, 1) := by decide +kernel
theorem dX4_knitCourses_5 : decode cX4_knitCourses 5 = .ok (.iload_n 1, 1) := by decide +kernel
theorem dX4_knitCourses_6 : decode cX4_knitCourses 6 = .ok (.if_icmp .ge 86, 3) := by decide +kernel
theorem dX4_knitCourses_9 : decode cX4_knitCourses 9 = .ok (.aload_n 0, 1) := by decide +kernel
theorem dX4_knitCourses_10 : decode cX4_knitCourses 10 = .ok (.invokevirtual 193, 3) := by decide +kernel
theorem dX4_knitCourses_13 : decode cX4_knitCourses 13 = .ok (.istore 4, 2) := by decide +kernel
theorem dX4_knitCourses_15 : decode cX4_knitCourses 15 = .ok (.aload_n 0, 1) := by decide +kernel
theorem dX4_knitCourses_16 : decode cX4_knitCourses 16 = .ok (.getfield 18, 3) := by decide +kernel
theorem dX4_knitCourses_19 : decode cX4_knitCourses 19 = .ok (.iload 4, 2) := by decide +kernel
theorem dX4_knitCourses_21 : decode cX4_knitCourses 21 = .ok (.invokevirtual 86, 3) := by decide +kernel
theorem dX4_knitCourses_24 : decode cX4_knitCourses 24 = .ok (.istore 5, 2) := by decide +kernel
theorem dX4_knitCourses_26 : decode cX4_knitCourses 26 = .ok (.aload_n 0, 1) := by decide +kernel
theorem dX4_knitCourses_27 : decode cX4_knitCourses 27 = .ok (.getfield 18, 3) := by decide +kernel
theorem dX4_knitCourses_30 : decode cX4_knitCourses 30 = .ok (.iload 4, 2) := by decide +kernel
theorem dX4_knitCourses_32 : decode cX4_knitCourses 32 = .ok (.invokevirtual 89, 3) := by decide +kernel
theorem dX4_knitCourses_35 : decode cX4_knitCourses 35 = .ok (.istore 6, 2) := by decide +kernel
theorem dX4_knitCourses_37 : decode cX4_knitCourses 37 = .ok (.aload_n 0, 1) := by decide +kernel
theorem dX4_knitCourses_38 : decode cX4_knitCourses 38 = .ok (.iload 5, 2) := by decide +kernel
theorem dX4_knitCourses_40 : decode cX4_knitCourses 40 = .ok (.aload_n 0, 1) := by decide +kernel
theorem dX4_knitCourses_41 : decode cX4_knitCourses 41 = .ok (.getfield 39, 3) := by decide +kernel
theorem dX4_knitCourses_44 : decode cX4_knitCourses 44 = .ok (.imul, 1) := by decide +kernel
theorem dX4_knitCourses_45 : decode cX4_knitCourses 45 = .ok (.invokevirtual 190, 3) := by decide +kernel
theorem dX4_knitCourses_48 : decode cX4_knitCourses 48 = .ok (.aload_n 0, 1) := by decide +kernel
theorem dX4_knitCourses_49 : decode cX4_knitCourses 49 = .ok (.dup, 1) := by decide +kernel
theorem dX4_knitCourses_50 : decode cX4_knitCourses 50 = .ok (.getfield 54, 3) := by decide +kernel
theorem dX4_knitCourses_53 : decode cX4_knitCourses 53 = .ok (.iload 6, 2) := by decide +kernel
theorem dX4_knitCourses_55 : decode cX4_knitCourses 55 = .ok (.iadd, 1) := by decide +kernel
theorem dX4_knitCourses_56 : decode cX4_knitCourses 56 = .ok (.putfield 54, 3) := by decide +kernel
theorem dX4_knitCourses_59 : decode cX4_knitCourses 59 = .ok (.aload_n 0, 1) := by decide +kernel
theorem dX4_knitCourses_60 : decode cX4_knitCourses 60 = .ok (.getfield 24, 3) := by decide +kernel
theorem dX4_knitCourses_63 : decode cX4_knitCourses 63 = .ok (.iload 5, 2) := by decide +kernel
theorem dX4_knitCourses_65 : decode cX4_knitCourses 65 = .ok (.iload 5, 2) := by decide +kernel
theorem dX4_knitCourses_67 : decode cX4_knitCourses 67 = .ok (.aload_n 0, 1) := by decide +kernel
theorem dX4_knitCourses_68 : decode cX4_knitCourses 68 = .ok (.getfield 39, 3) := by decide +kernel
theorem dX4_knitCourses_71 : decode cX4_knitCourses 71 = .ok (.imul, 1) := by decide +kernel
theorem dX4_knitCourses_72 : decode cX4_knitCourses 72 = .ok (.aload_n 0, 1) := by decide +kernel
theorem dX4_knitCourses_73 : decode cX4_knitCourses 73 = .ok (.getfield 35, 3) := by decide +kernel
theorem dX4_knitCourses_76 : decode cX4_knitCourses 76 = .ok (.iload 6, 2) := by decide +kernel
theorem dX4_knitCourses_78 : decode cX4_knitCourses 78 = .ok (.invokevirtual 196, 3) := by decide +kernel
theorem dX4_knitCourses_81 : decode cX4_knitCourses 81 = .ok (.iload_n 2, 1) := by decide +kernel
theorem dX4_knitCourses_82 : decode cX4_knitCourses 82 = .ok (.iload 5, 2) := by decide +kernel
theorem dX4_knitCourses_84 : decode cX4_knitCourses 84 = .ok (.iadd, 1) := by decide +kernel
theorem dX4_knitCourses_85 : decode cX4_knitCourses 85 = .ok (.istore_n 2, 1) := by decide +kernel
theorem dX4_knitCourses_86 : decode cX4_knitCourses 86 = .ok (.iinc 3 1, 3) := by decide +kernel
theorem dX4_knitCourses_89 : decode cX4_knitCourses 89 = .ok (.goto (-85), 3) := by decide +kernel
theorem dX4_knitCourses_92 : decode cX4_knitCourses 92 = .ok (.iload_n 2, 1) := by decide +kernel
theorem dX4_knitCourses_93 : decode cX4_knitCourses 93 = .ok (.ireturn, 1) := by decide +kernel
