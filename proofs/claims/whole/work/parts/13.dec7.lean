theorem d_Md_tellFax_192 : decode b_Md_tellFax 192 = .ok (.iconst 1, 1) := by decide +kernel
theorem d_Md_tellFax_193 : decode b_Md_tellFax 193 = .ok (.goto 4, 3) := by decide +kernel
theorem d_Md_tellFax_196 : decode b_Md_tellFax 196 = .ok (.iconst 0, 1) := by decide +kernel
theorem d_Md_tellFax_197 : decode b_Md_tellFax 197 = .ok (.putfield 148, 3) := by decide +kernel
theorem d_Md_tellFax_200 : decode b_Md_tellFax 200 = .ok (.goto 65, 3) := by decide +kernel
theorem d_Md_tellFax_203 : decode b_Md_tellFax 203 = .ok (.aload_n 0, 1) := by decide +kernel
theorem d_Md_tellFax_204 : decode b_Md_tellFax 204 = .ok (.aload_n 0, 1) := by decide +kernel
theorem d_Md_tellFax_205 : decode b_Md_tellFax 205 = .ok (.getfield 35, 3) := by decide +kernel
theorem d_Md_tellFax_208 : decode b_Md_tellFax 208 = .ok (.iload_n 1, 1) := by decide +kernel
theorem d_Md_tellFax_209 : decode b_Md_tellFax 209 = .ok (.iload_n 2, 1) := by decide +kernel
theorem d_Md_tellFax_210 : decode b_Md_tellFax 210 = .ok (.iconst 1, 1) := by decide +kernel
theorem d_Md_tellFax_211 : decode b_Md_tellFax 211 = .ok (.iadd, 1) := by decide +kernel
theorem d_Md_tellFax_212 : decode b_Md_tellFax 212 = .ok (.aload_n 0, 1) := by decide +kernel
theorem d_Md_tellFax_213 : decode b_Md_tellFax 213 = .ok (.getfield 148, 3) := by decide +kernel
theorem d_Md_tellFax_216 : decode b_Md_tellFax 216 = .ok (.invokevirtual 152, 3) := by decide +kernel
theorem d_Md_tellFax_219 : decode b_Md_tellFax 219 = .ok (.istore 6, 2) := by decide +kernel
theorem d_Md_tellFax_221 : decode b_Md_tellFax 221 = .ok (.aload_n 0, 1) := by decide +kernel
theorem d_Md_tellFax_222 : decode b_Md_tellFax 222 = .ok (.iconst 2, 1) := by decide +kernel
theorem d_Md_tellFax_223 : decode b_Md_tellFax 223 = .ok (.iconst (-1), 1) := by decide +kernel
theorem d_Md_tellFax_224 : decode b_Md_tellFax 224 = .ok (.iload_n 1, 1) := by decide +kernel
theorem d_Md_tellFax_225 : decode b_Md_tellFax 225 = .ok (.invokevirtual 160, 3) := by decide +kernel
theorem d_Md_tellFax_228 : decode b_Md_tellFax 228 = .ok (.aload_n 0, 1) := by decide +kernel
theorem d_Md_tellFax_229 : decode b_Md_tellFax 229 = .ok (.iload_n 2, 1) := by decide +kernel
theorem d_Md_tellFax_230 : decode b_Md_tellFax 230 = .ok (.aload_n 0, 1) := by decide +kernel
theorem d_Md_tellFax_231 : decode b_Md_tellFax 231 = .ok (.getfield 145, 3) := by decide +kernel
theorem d_Md_tellFax_234 : decode b_Md_tellFax 234 = .ok (.ifCond .ge 7, 3) := by decide +kernel
theorem d_Md_tellFax_237 : decode b_Md_tellFax 237 = .ok (.iconst 0, 1) := by decide +kernel
theorem d_Md_tellFax_238 : decode b_Md_tellFax 238 = .ok (.goto 7, 3) := by decide +kernel
theorem d_Md_tellFax_241 : decode b_Md_tellFax 241 = .ok (.aload_n 0, 1) := by decide +kernel
theorem d_Md_tellFax_242 : decode b_Md_tellFax 242 = .ok (.getfield 145, 3) := by decide +kernel
theorem d_Md_tellFax_245 : decode b_Md_tellFax 245 = .ok (.isub, 1) := by decide +kernel
theorem d_Md_tellFax_246 : decode b_Md_tellFax 246 = .ok (.iload_n 1, 1) := by decide +kernel
theorem d_Md_tellFax_247 : decode b_Md_tellFax 247 = .ok (.invokevirtual 163, 3) := by decide +kernel
theorem d_Md_tellFax_250 : decode b_Md_tellFax 250 = .ok (.aload_n 0, 1) := by decide +kernel
theorem d_Md_tellFax_251 : decode b_Md_tellFax 251 = .ok (.iload 6, 2) := by decide +kernel
theorem d_Md_tellFax_253 : decode b_Md_tellFax 253 = .ok (.iload_n 2, 1) := by decide +kernel
theorem d_Md_tellFax_254 : decode b_Md_tellFax 254 = .ok (.isub, 1) := by decide +kernel
theorem d_Md_tellFax_255 : decode b_Md_tellFax 255 = .ok (.iload_n 1, 1) := by decide +kernel
theorem d_Md_tellFax_256 : decode b_Md_tellFax 256 = .ok (.invokevirtual 163, 3) := by decide +kernel
theorem d_Md_tellFax_259 : decode b_Md_tellFax 259 = .ok (.aload_n 0, 1) := by decide +kernel
theorem d_Md_tellFax_260 : decode b_Md_tellFax 260 = .ok (.iload 6, 2) := by decide +kernel
theorem d_Md_tellFax_262 : decode b_Md_tellFax 262 = .ok (.putfield 145, 3) := by decide +kernel
theorem d_Md_tellFax_265 : decode b_Md_tellFax 265 = .ok (.goto (-255), 3) := by decide +kernel
theorem d_Md_tellFax_268 : decode b_Md_tellFax 268 = .ok (.return_, 1) := by decide +kernel
theorem d_Md_tell_0 : decode b_Md_tell 0 = .ok (.aload_n 0, 1) := by decide +kernel
theorem d_Md_tell_1 : decode b_Md_tell 1 = .ok (.iconst 0, 1) := by decide +kernel
theorem d_Md_tell_2 : decode b_Md_tell 2 = .ok (.putfield 70, 3) := by decide +kernel
theorem d_Md_tell_5 : decode b_Md_tell 5 = .ok (.aload_n 0, 1) := by decide +kernel
theorem d_Md_tell_6 : decode b_Md_tell 6 = .ok (.iconst 0, 1) := by decide +kernel
theorem d_Md_tell_7 : decode b_Md_tell 7 = .ok (.putfield 129, 3) := by decide +kernel
theorem d_Md_tell_10 : decode b_Md_tell 10 = .ok (.aload_n 0, 1) := by decide +kernel
theorem d_Md_tell_11 : decode b_Md_tell 11 = .ok (.iconst 0, 1) := by decide +kernel
theorem d_Md_tell_12 : decode b_Md_tell 12 = .ok (.putfield 167, 3) := by decide +kernel
theorem d_Md_tell_15 : decode b_Md_tell 15 = .ok (.aload_n 0, 1) := by decide +kernel
theorem d_Md_tell_16 : decode b_Md_tell 16 = .ok (.iconst 0, 1) := by decide +kernel
theorem d_Md_tell_17 : decode b_Md_tell 17 = .ok (.putfield 142, 3) := by decide +kernel
theorem d_Md_tell_20 : decode b_Md_tell 20 = .ok (.aload_n 0, 1) := by decide +kernel
theorem d_Md_tell_21 : decode b_Md_tell 21 = .ok (.iconst 0, 1) := by decide +kernel
theorem d_Md_tell_22 : decode b_Md_tell 22 = .ok (.putfield 132, 3) := by decide +kernel
theorem d_Md_tell_25 : decode b_Md_tell 25 = .ok (.aload_n 0, 1) := by decide +kernel
theorem d_Md_tell_26 : decode b_Md_tell 26 = .ok (.invokevirtual 121, 3) := by decide +kernel
theorem d_Md_tell_29 : decode b_Md_tell 29 = .ok (.iconst 0, 1) := by decide +kernel
theorem d_Md_tell_30 : decode b_Md_tell 30 = .ok (.istore_n 1, 1) := by decide +kernel
theorem d_Md_tell_31 : decode b_Md_tell 31 = .ok (.iload_n 1, 1) := by decide +kernel
theorem d_Md_tell_32 : decode b_Md_tell 32 = .ok (.aload_n 0, 1) := by decide +kernel
theorem d_Md_tell_33 : decode b_Md_tell 33 = .ok (.getfield 61, 3) := by decide +kernel
theorem d_Md_tell_36 : decode b_Md_tell 36 = .ok (.if_icmp .ge 44, 3) := by decide +kernel
theorem d_Md_tell_39 : decode b_Md_tell 39 = .ok (.aload_n 0, 1) := by decide +kernel
theorem d_Md_tell_40 : decode b_Md_tell 40 = .ok (.getfield 111, 3) := by decide +kernel
theorem d_Md_tell_43 : decode b_Md_tell 43 = .ok (.ifCond .eq 11, 3) := by decide +kernel
theorem d_Md_tell_46 : decode b_Md_tell 46 = .ok (.aload_n 0, 1) := by decide +kernel
theorem d_Md_tell_47 : decode b_Md_tell 47 = .ok (.iconst 0, 1) := by decide +kernel
theorem d_Md_tell_48 : decode b_Md_tell 48 = .ok (.ldc 170, 2) := by decide +kernel
theorem d_Md_tell_50 : decode b_Md_tell 50 = .ok (.iload_n 1, 1) := by decide +kernel
theorem d_Md_tell_51 : decode b_Md_tell 51 = .ok (.invokevirtual 138, 3) := by decide +kernel
theorem d_Md_tell_54 : decode b_Md_tell 54 = .ok (.aload_n 0, 1) := by decide +kernel
theorem d_Md_tell_55 : decode b_Md_tell 55 = .ok (.getfield 108, 3) := by decide +kernel
theorem d_Md_tell_58 : decode b_Md_tell 58 = .ok (.ifCond .eq 11, 3) := by decide +kernel
theorem d_Md_tell_61 : decode b_Md_tell 61 = .ok (.aload_n 0, 1) := by decide +kernel
theorem d_Md_tell_62 : decode b_Md_tell 62 = .ok (.iload_n 1, 1) := by decide +kernel
theorem d_Md_tell_63 : decode b_Md_tell 63 = .ok (.invokevirtual 171, 3) := by decide +kernel
theorem d_Md_tell_66 : decode b_Md_tell 66 = .ok (.goto 8, 3) := by decide +kernel
theorem d_Md_tell_69 : decode b_Md_tell 69 = .ok (.aload_n 0, 1) := by decide +kernel
theorem d_Md_tell_70 : decode b_Md_tell 70 = .ok (.iload_n 1, 1) := by decide +kernel
theorem d_Md_tell_71 : decode b_Md_tell 71 = .ok (.invokevirtual 175, 3) := by decide +kernel
theorem d_Md_tell_74 : decode b_Md_tell 74 = .ok (.iinc 1 1, 3) := by decide +kernel
theorem d_Md_tell_77 : decode b_Md_tell 77 = .ok (.goto (-46), 3) := by decide +kernel
theorem d_Md_tell_80 : decode b_Md_tell 80 = .ok (.aload_n 0, 1) := by decide +kernel
theorem d_Md_tell_81 : decode b_Md_tell 81 = .ok (.getfield 111, 3) := by decide +kernel
theorem d_Md_tell_84 : decode b_Md_tell 84 = .ok (.ifCond .eq 14, 3) := by decide +kernel
theorem d_Md_tell_87 : decode b_Md_tell 87 = .ok (.aload_n 0, 1) := by decide +kernel
theorem d_Md_tell_88 : decode b_Md_tell 88 = .ok (.iconst 1, 1) := by decide +kernel
theorem d_Md_tell_89 : decode b_Md_tell 89 = .ok (.ldc 170, 2) := by decide +kernel
theorem d_Md_tell_91 : decode b_Md_tell 91 = .ok (.aload_n 0, 1) := by decide +kernel
theorem d_Md_tell_92 : decode b_Md_tell 92 = .ok (.getfield 61, 3) := by decide +kernel
theorem d_Md_tell_95 : decode b_Md_tell 95 = .ok (.invokevirtual 138, 3) := by decide +kernel
theorem d_Md_tell_98 : decode b_Md_tell 98 = .ok (.aload_n 0, 1) := by decide +kernel
theorem d_Md_tell_99 : decode b_Md_tell 99 = .ok (.getfield 129, 3) := by decide +kernel
theorem d_Md_tell_102 : decode b_Md_tell 102 = .ok (.ireturn, 1) := by decide +kernel
theorem d_Md_bit_0 : decode b_Md_bit 0 = .ok (.aload_n 0, 1) := by decide +kernel
theorem d_Md_bit_1 : decode b_Md_bit 1 = .ok (.iload_n 1, 1) := by decide +kernel
theorem d_Md_bit_2 : decode b_Md_bit 2 = .ok (.iconst 0, 1) := by decide +kernel
theorem d_Md_bit_3 : decode b_Md_bit 3 = .ok (.aload_n 0, 1) := by decide +kernel
theorem d_Md_bit_4 : decode b_Md_bit 4 = .ok (.getfield 129, 3) := by decide +kernel
theorem d_Md_bit_7 : decode b_Md_bit 7 = .ok (.iconst 1, 1) := by decide +kernel
theorem d_Md_bit_8 : decode b_Md_bit 8 = .ok (.isub, 1) := by decide +kernel
theorem d_Md_bit_9 : decode b_Md_bit 9 = .ok (.invokestatic 73, 3) := by decide +kernel
theorem d_Md_bit_12 : decode b_Md_bit 12 = .ok (.ifCond .ne 7, 3) := by decide +kernel
theorem d_Md_bit_15 : decode b_Md_bit 15 = .ok (.iconst 1, 1) := by decide +kernel
theorem d_Md_bit_16 : decode b_Md_bit 16 = .ok (.goto 17, 3) := by decide +kernel
theorem d_Md_bit_19 : decode b_Md_bit 19 = .ok (.iload_n 2, 1) := by decide +kernel
theorem d_Md_bit_20 : decode b_Md_bit 20 = .ok (.iconst 0, 1) := by decide +kernel
theorem d_Md_bit_21 : decode b_Md_bit 21 = .ok (.iconst 2, 1) := by decide +kernel
theorem d_Md_bit_22 : decode b_Md_bit 22 = .ok (.invokestatic 73, 3) := by decide +kernel
theorem d_Md_bit_25 : decode b_Md_bit 25 = .ok (.ifCond .ne 7, 3) := by decide +kernel
theorem d_Md_bit_28 : decode b_Md_bit 28 = .ok (.iconst 2, 1) := by decide +kernel
theorem d_Md_bit_29 : decode b_Md_bit 29 = .ok (.goto 4, 3) := by decide +kernel
theorem d_Md_bit_32 : decode b_Md_bit 32 = .ok (.iconst 0, 1) := by decide +kernel
theorem d_Md_bit_33 : decode b_Md_bit 33 = .ok (.putfield 70, 3) := by decide +kernel
theorem d_Md_bit_36 : decode b_Md_bit 36 = .ok (.aload_n 0, 1) := by decide +kernel
theorem d_Md_bit_37 : decode b_Md_bit 37 = .ok (.getfield 70, 3) := by decide +kernel
theorem d_Md_bit_40 : decode b_Md_bit 40 = .ok (.ifCond .le 7, 3) := by decide +kernel
theorem d_Md_bit_43 : decode b_Md_bit 43 = .ok (.iconst 0, 1) := by decide +kernel
theorem d_Md_bit_44 : decode b_Md_bit 44 = .ok (.goto 36, 3) := by decide +kernel
theorem d_Md_bit_47 : decode b_Md_bit 47 = .ok (.iload_n 2, 1) := by decide +kernel
theorem d_Md_bit_48 : decode b_Md_bit 48 = .ok (.ifCond .ne 12, 3) := by decide +kernel
theorem d_Md_bit_51 : decode b_Md_bit 51 = .ok (.aload_n 0, 1) := by decide +kernel
theorem d_Md_bit_52 : decode b_Md_bit 52 = .ok (.getfield 38, 3) := by decide +kernel
theorem d_Md_bit_55 : decode b_Md_bit 55 = .ok (.iload_n 1, 1) := by decide +kernel
theorem d_Md_bit_56 : decode b_Md_bit 56 = .ok (.iaload, 1) := by decide +kernel
theorem d_Md_bit_57 : decode b_Md_bit 57 = .ok (.goto 23, 3) := by decide +kernel
theorem d_Md_bit_60 : decode b_Md_bit 60 = .ok (.iload_n 2, 1) := by decide +kernel
theorem d_Md_bit_61 : decode b_Md_bit 61 = .ok (.iconst 1, 1) := by decide +kernel
theorem d_Md_bit_62 : decode b_Md_bit 62 = .ok (.if_icmp .ne 12, 3) := by decide +kernel
theorem d_Md_bit_65 : decode b_Md_bit 65 = .ok (.aload_n 0, 1) := by decide +kernel
theorem d_Md_bit_66 : decode b_Md_bit 66 = .ok (.getfield 41, 3) := by decide +kernel
theorem d_Md_bit_69 : decode b_Md_bit 69 = .ok (.iload_n 1, 1) := by decide +kernel
theorem d_Md_bit_70 : decode b_Md_bit 70 = .ok (.iaload, 1) := by decide +kernel
theorem d_Md_bit_71 : decode b_Md_bit 71 = .ok (.goto 9, 3) := by decide +kernel
theorem d_Md_bit_74 : decode b_Md_bit 74 = .ok (.aload_n 0, 1) := by decide +kernel
theorem d_Md_bit_75 : decode b_Md_bit 75 = .ok (.getfield 44, 3) := by decide +kernel
theorem d_Md_bit_78 : decode b_Md_bit 78 = .ok (.iload_n 1, 1) := by decide +kernel
theorem d_Md_bit_79 : decode b_Md_bit 79 = .ok (.iaload, 1) := by decide +kernel
theorem d_Md_bit_80 : decode b_Md_bit 80 = .ok (.ireturn, 1) := by decide +kernel
theorem d_Md_copies_0 : decode b_Md_copies 0 = .ok (.aload_n 0, 1) := by decide +kernel
theorem d_Md_copies_1 : decode b_Md_copies 1 = .ok (.iconst 0, 1) := by decide +kernel
theorem d_Md_copies_2 : decode b_Md_copies 2 = .ok (.putfield 70, 3) := by decide +kernel
theorem d_Md_copies_5 : decode b_Md_copies 5 = .ok (.aload_n 0, 1) := by decide +kernel
theorem d_Md_copies_6 : decode b_Md_copies 6 = .ok (.getfield 142, 3) := by decide +kernel
theorem d_Md_copies_9 : decode b_Md_copies 9 = .ok (.ireturn, 1) := by decide +kernel
theorem d_Md_feed_0 : decode b_Md_feed 0 = .ok (.aload_n 0, 1) := by decide +kernel
theorem d_Md_feed_1 : decode b_Md_feed 1 = .ok (.iload_n 1, 1) := by decide +kernel
theorem d_Md_feed_2 : decode b_Md_feed 2 = .ok (.iconst 0, 1) := by decide +kernel
theorem d_Md_feed_3 : decode b_Md_feed 3 = .ok (.iconst 1, 1) := by decide +kernel
theorem d_Md_feed_4 : decode b_Md_feed 4 = .ok (.invokestatic 73, 3) := by decide +kernel
theorem d_Md_feed_7 : decode b_Md_feed 7 = .ok (.ifCond .ne 7, 3) := by decide +kernel
theorem d_Md_feed_10 : decode b_Md_feed 10 = .ok (.iconst 1, 1) := by decide +kernel
theorem d_Md_feed_11 : decode b_Md_feed 11 = .ok (.goto 18, 3) := by decide +kernel
theorem d_Md_feed_14 : decode b_Md_feed 14 = .ok (.aload_n 0, 1) := by decide +kernel
theorem d_Md_feed_15 : decode b_Md_feed 15 = .ok (.getfield 178, 3) := by decide +kernel
theorem d_Md_feed_18 : decode b_Md_feed 18 = .ok (.sipush 6000, 3) := by decide +kernel
theorem d_Md_feed_21 : decode b_Md_feed 21 = .ok (.if_icmp .ne 7, 3) := by decide +kernel
theorem d_Md_feed_24 : decode b_Md_feed 24 = .ok (.iconst 2, 1) := by decide +kernel
theorem d_Md_feed_25 : decode b_Md_feed 25 = .ok (.goto 4, 3) := by decide +kernel
theorem d_Md_feed_28 : decode b_Md_feed 28 = .ok (.iconst 0, 1) := by decide +kernel
theorem d_Md_feed_29 : decode b_Md_feed 29 = .ok (.putfield 70, 3) := by decide +kernel
theorem d_Md_feed_32 : decode b_Md_feed 32 = .ok (.aload_n 0, 1) := by decide +kernel
theorem d_Md_feed_33 : decode b_Md_feed 33 = .ok (.getfield 70, 3) := by decide +kernel
theorem d_Md_feed_36 : decode b_Md_feed 36 = .ok (.ifCond .le 5, 3) := by decide +kernel
theorem d_Md_feed_39 : decode b_Md_feed 39 = .ok (.iconst 0, 1) := by decide +kernel
theorem d_Md_feed_40 : decode b_Md_feed 40 = .ok (.ireturn, 1) := by decide +kernel
theorem d_Md_feed_41 : decode b_Md_feed 41 = .ok (.aload_n 0, 1) := by decide +kernel
theorem d_Md_feed_42 : decode b_Md_feed 42 = .ok (.getfield 47, 3) := by decide +kernel
theorem d_Md_feed_45 : decode b_Md_feed 45 = .ok (.aload_n 0, 1) := by decide +kernel
theorem d_Md_feed_46 : decode b_Md_feed 46 = .ok (.getfield 178, 3) := by decide +kernel
theorem d_Md_feed_49 : decode b_Md_feed 49 = .ok (.iload_n 1, 1) := by decide +kernel
theorem d_Md_feed_50 : decode b_Md_feed 50 = .ok (.iastore, 1) := by decide +kernel
theorem d_Md_feed_51 : decode b_Md_feed 51 = .ok (.aload_n 0, 1) := by decide +kernel
theorem d_Md_feed_52 : decode b_Md_feed 52 = .ok (.dup, 1) := by decide +kernel
theorem d_Md_feed_53 : decode b_Md_feed 53 = .ok (.getfield 178, 3) := by decide +kernel
theorem d_Md_feed_56 : decode b_Md_feed 56 = .ok (.iconst 1, 1) := by decide +kernel
theorem d_Md_feed_57 : decode b_Md_feed 57 = .ok (.iadd, 1) := by decide +kernel
theorem d_Md_feed_58 : decode b_Md_feed 58 = .ok (.putfield 178, 3) := by decide +kernel
theorem d_Md_feed_61 : decode b_Md_feed 61 = .ok (.aload_n 0, 1) := by decide +kernel
theorem d_Md_feed_62 : decode b_Md_feed 62 = .ok (.getfield 178, 3) := by decide +kernel
theorem d_Md_feed_65 : decode b_Md_feed 65 = .ok (.ireturn, 1) := by decide +kernel
theorem d_Md_pass_0 : decode b_Md_pass 0 = .ok (.iload_n 1, 1) := by decide +kernel
theorem d_Md_pass_1 : decode b_Md_pass 1 = .ok (.aload_n 0, 1) := by decide +kernel
theorem d_Md_pass_2 : decode b_Md_pass 2 = .ok (.getfield 129, 3) := by decide +kernel
theorem d_Md_pass_5 : decode b_Md_pass 5 = .ok (.aload_n 0, 1) := by decide +kernel
theorem d_Md_pass_6 : decode b_Md_pass 6 = .ok (.getfield 167, 3) := by decide +kernel
theorem d_Md_pass_9 : decode b_Md_pass 9 = .ok (.isub, 1) := by decide +kernel
theorem d_Md_pass_10 : decode b_Md_pass 10 = .ok (.if_icmp .ge 7, 3) := by decide +kernel
theorem d_Md_pass_13 : decode b_Md_pass 13 = .ok (.iload_n 1, 1) := by decide +kernel
theorem d_Md_pass_14 : decode b_Md_pass 14 = .ok (.goto 12, 3) := by decide +kernel
theorem d_Md_pass_17 : decode b_Md_pass 17 = .ok (.aload_n 0, 1) := by decide +kernel
theorem d_Md_pass_18 : decode b_Md_pass 18 = .ok (.getfield 129, 3) := by decide +kernel
theorem d_Md_pass_21 : decode b_Md_pass 21 = .ok (.aload_n 0, 1) := by decide +kernel
theorem d_Md_pass_22 : decode b_Md_pass 22 = .ok (.getfield 167, 3) := by decide +kernel
theorem d_Md_pass_25 : decode b_Md_pass 25 = .ok (.isub, 1) := by decide +kernel
theorem d_Md_pass_26 : decode b_Md_pass 26 = .ok (.istore_n 2, 1) := by decide +kernel
theorem d_Md_pass_27 : decode b_Md_pass 27 = .ok (.aload_n 0, 1) := by decide +kernel
theorem d_Md_pass_28 : decode b_Md_pass 28 = .ok (.iload_n 1, 1) := by decide +kernel
theorem d_Md_pass_29 : decode b_Md_pass 29 = .ok (.ifCond .ge 7, 3) := by decide +kernel
theorem d_Md_pass_32 : decode b_Md_pass 32 = .ok (.iconst 1, 1) := by decide +kernel
theorem d_Md_pass_33 : decode b_Md_pass 33 = .ok (.goto 20, 3) := by decide +kernel
theorem d_Md_pass_36 : decode b_Md_pass 36 = .ok (.aload_n 0, 1) := by decide +kernel
theorem d_Md_pass_37 : decode b_Md_pass 37 = .ok (.getfield 178, 3) := by decide +kernel
theorem d_Md_pass_40 : decode b_Md_pass 40 = .ok (.iload_n 2, 1) := by decide +kernel
theorem d_Md_pass_41 : decode b_Md_pass 41 = .ok (.iadd, 1) := by decide +kernel
theorem d_Md_pass_42 : decode b_Md_pass 42 = .ok (.sipush 6000, 3) := by decide +kernel
theorem d_Md_pass_45 : decode b_Md_pass 45 = .ok (.if_icmp .le 7, 3) := by decide +kernel
theorem d_Md_pass_48 : decode b_Md_pass 48 = .ok (.iconst 2, 1) := by decide +kernel
theorem d_Md_pass_49 : decode b_Md_pass 49 = .ok (.goto 4, 3) := by decide +kernel
theorem d_Md_pass_52 : decode b_Md_pass 52 = .ok (.iconst 0, 1) := by decide +kernel
theorem d_Md_pass_53 : decode b_Md_pass 53 = .ok (.putfield 70, 3) := by decide +kernel
theorem d_Md_pass_56 : decode b_Md_pass 56 = .ok (.iconst 0, 1) := by decide +kernel
theorem d_Md_pass_57 : decode b_Md_pass 57 = .ok (.istore_n 3, 1) := by decide +kernel
theorem d_Md_pass_58 : decode b_Md_pass 58 = .ok (.iload_n 3, 1) := by decide +kernel
theorem d_Md_pass_59 : decode b_Md_pass 59 = .ok (.iload_n 2, 1) := by decide +kernel
theorem d_Md_pass_60 : decode b_Md_pass 60 = .ok (.if_icmp .ge 54, 3) := by decide +kernel
theorem d_Md_pass_63 : decode b_Md_pass 63 = .ok (.aload_n 0, 1) := by decide +kernel
theorem d_Md_pass_64 : decode b_Md_pass 64 = .ok (.getfield 70, 3) := by decide +kernel
theorem d_Md_pass_67 : decode b_Md_pass 67 = .ok (.ifCond .ne 47, 3) := by decide +kernel
theorem d_Md_pass_70 : decode b_Md_pass 70 = .ok (.aload_n 0, 1) := by decide +kernel
theorem d_Md_pass_71 : decode b_Md_pass 71 = .ok (.getfield 47, 3) := by decide +kernel
theorem d_Md_pass_74 : decode b_Md_pass 74 = .ok (.aload_n 0, 1) := by decide +kernel
theorem d_Md_pass_75 : decode b_Md_pass 75 = .ok (.getfield 178, 3) := by decide +kernel
theorem d_Md_pass_78 : decode b_Md_pass 78 = .ok (.aload_n 0, 1) := by decide +kernel
theorem d_Md_pass_79 : decode b_Md_pass 79 = .ok (.getfield 38, 3) := by decide +kernel
theorem d_Md_pass_82 : decode b_Md_pass 82 = .ok (.aload_n 0, 1) := by decide +kernel
theorem d_Md_pass_83 : decode b_Md_pass 83 = .ok (.getfield 167, 3) := by decide +kernel
theorem d_Md_pass_86 : decode b_Md_pass 86 = .ok (.iaload, 1) := by decide +kernel
theorem d_Md_pass_87 : decode b_Md_pass 87 = .ok (.iastore, 1) := by decide +kernel
theorem d_Md_pass_88 : decode b_Md_pass 88 = .ok (.aload_n 0, 1) := by decide +kernel
theorem d_Md_pass_89 : decode b_Md_pass 89 = .ok (.dup, 1) := by decide +kernel
theorem d_Md_pass_90 : decode b_Md_pass 90 = .ok (.getfield 178, 3) := by decide +kernel
theorem d_Md_pass_93 : decode b_Md_pass 93 = .ok (.iconst 1, 1) := by decide +kernel
theorem d_Md_pass_94 : decode b_Md_pass 94 = .ok (.iadd, 1) := by decide +kernel
theorem d_Md_pass_95 : decode b_Md_pass 95 = .ok (.putfield 178, 3) := by decide +kernel
theorem d_Md_pass_98 : decode b_Md_pass 98 = .ok (.aload_n 0, 1) := by decide +kernel
theorem d_Md_pass_99 : decode b_Md_pass 99 = .ok (.dup, 1) := by decide +kernel
theorem d_Md_pass_100 : decode b_Md_pass 100 = .ok (.getfield 167, 3) := by decide +kernel
theorem d_Md_pass_103 : decode b_Md_pass 103 = .ok (.iconst 1, 1) := by decide +kernel
theorem d_Md_pass_104 : decode b_Md_pass 104 = .ok (.iadd, 1) := by decide +kernel
theorem d_Md_pass_105 : decode b_Md_pass 105 = .ok (.putfield 167, 3) := by decide +kernel
theorem d_Md_pass_108 : decode b_Md_pass 108 = .ok (.iinc 3 1, 3) := by decide +kernel
theorem d_Md_pass_111 : decode b_Md_pass 111 = .ok (.goto (-53), 3) := by decide +kernel
theorem d_Md_pass_114 : decode b_Md_pass 114 = .ok (.aload_n 0, 1) := by decide +kernel
theorem d_Md_pass_115 : decode b_Md_pass 115 = .ok (.getfield 70, 3) := by decide +kernel
theorem d_Md_pass_118 : decode b_Md_pass 118 = .ok (.ifCond .le 7, 3) := by decide +kernel
theorem d_Md_pass_121 : decode b_Md_pass 121 = .ok (.iconst 0, 1) := by decide +kernel
theorem d_Md_pass_122 : decode b_Md_pass 122 = .ok (.goto 4, 3) := by decide +kernel
theorem d_Md_pass_125 : decode b_Md_pass 125 = .ok (.iload_n 2, 1) := by decide +kernel
theorem d_Md_pass_126 : decode b_Md_pass 126 = .ok (.ireturn, 1) := by decide +kernel
theorem d_Md_next_0 : decode b_Md_next 0 = .ok (.aload_n 0, 1) := by decide +kernel
theorem d_Md_next_1 : decode b_Md_next 1 = .ok (.aload_n 0, 1) := by decide +kernel
theorem d_Md_next_2 : decode b_Md_next 2 = .ok (.getfield 181, 3) := by decide +kernel
theorem d_Md_next_5 : decode b_Md_next 5 = .ok (.ifCond .ne 14, 3) := by decide +kernel
theorem d_Md_next_8 : decode b_Md_next 8 = .ok (.aload_n 0, 1) := by decide +kernel
theorem d_Md_next_9 : decode b_Md_next 9 = .ok (.getfield 184, 3) := by decide +kernel
theorem d_Md_next_12 : decode b_Md_next 12 = .ok (.aload_n 0, 1) := by decide +kernel
theorem d_Md_next_13 : decode b_Md_next 13 = .ok (.getfield 178, 3) := by decide +kernel
theorem d_Md_next_16 : decode b_Md_next 16 = .ok (.if_icmp .ne 7, 3) := by decide +kernel
theorem d_Md_next_19 : decode b_Md_next 19 = .ok (.iconst 1, 1) := by decide +kernel
theorem d_Md_next_20 : decode b_Md_next 20 = .ok (.goto 4, 3) := by decide +kernel
theorem d_Md_next_23 : decode b_Md_next 23 = .ok (.iconst 0, 1) := by decide +kernel
theorem d_Md_next_24 : decode b_Md_next 24 = .ok (.putfield 181, 3) := by decide +kernel
theorem d_Md_next_27 : decode b_Md_next 27 = .ok (.aload_n 0, 1) := by decide +kernel
theorem d_Md_next_28 : decode b_Md_next 28 = .ok (.getfield 181, 3) := by decide +kernel
theorem d_Md_next_31 : decode b_Md_next 31 = .ok (.ifCond .eq 5, 3) := by decide +kernel
theorem d_Md_next_34 : decode b_Md_next 34 = .ok (.iconst 1, 1) := by decide +kernel
theorem d_Md_next_35 : decode b_Md_next 35 = .ok (.ireturn, 1) := by decide +kernel
theorem d_Md_next_36 : decode b_Md_next 36 = .ok (.aload_n 0, 1) := by decide +kernel
theorem d_Md_next_37 : decode b_Md_next 37 = .ok (.dup, 1) := by decide +kernel
theorem d_Md_next_38 : decode b_Md_next 38 = .ok (.getfield 184, 3) := by decide +kernel
theorem d_Md_next_41 : decode b_Md_next 41 = .ok (.iconst 1, 1) := by decide +kernel
theorem d_Md_next_42 : decode b_Md_next 42 = .ok (.iadd, 1) := by decide +kernel
theorem d_Md_next_43 : decode b_Md_next 43 = .ok (.putfield 184, 3) := by decide +kernel
theorem d_Md_next_46 : decode b_Md_next 46 = .ok (.aload_n 0, 1) := by decide +kernel
theorem d_Md_next_47 : decode b_Md_next 47 = .ok (.getfield 47, 3) := by decide +kernel
theorem d_Md_next_50 : decode b_Md_next 50 = .ok (.aload_n 0, 1) := by decide +kernel
theorem d_Md_next_51 : decode b_Md_next 51 = .ok (.getfield 184, 3) := by decide +kernel
theorem d_Md_next_54 : decode b_Md_next 54 = .ok (.iconst 1, 1) := by decide +kernel
theorem d_Md_next_55 : decode b_Md_next 55 = .ok (.isub, 1) := by decide +kernel
theorem d_Md_next_56 : decode b_Md_next 56 = .ok (.iaload, 1) := by decide +kernel
theorem d_Md_next_57 : decode b_Md_next 57 = .ok (.ireturn, 1) := by decide +kernel
theorem d_Md_refuse_0 : decode b_Md_refuse 0 = .ok (.aload_n 0, 1) := by decide +kernel
theorem d_Md_refuse_1 : decode b_Md_refuse 1 = .ok (.iload_n 1, 1) := by decide +kernel
theorem d_Md_refuse_2 : decode b_Md_refuse 2 = .ok (.ifCond .eq 21, 3) := by decide +kernel
theorem d_Md_refuse_5 : decode b_Md_refuse 5 = .ok (.aload_n 0, 1) := by decide +kernel
theorem d_Md_refuse_6 : decode b_Md_refuse 6 = .ok (.getfield 187, 3) := by decide +kernel
theorem d_Md_refuse_9 : decode b_Md_refuse 9 = .ok (.ifCond .ge 14, 3) := by decide +kernel
theorem d_Md_refuse_12 : decode b_Md_refuse 12 = .ok (.aload_n 0, 1) := by decide +kernel
theorem d_Md_refuse_13 : decode b_Md_refuse 13 = .ok (.getfield 181, 3) := by decide +kernel
theorem d_Md_refuse_16 : decode b_Md_refuse 16 = .ok (.ifCond .ne 7, 3) := by decide +kernel
theorem d_Md_refuse_19 : decode b_Md_refuse 19 = .ok (.iload_n 2, 1) := by decide +kernel
theorem d_Md_refuse_20 : decode b_Md_refuse 20 = .ok (.goto 7, 3) := by decide +kernel
theorem d_Md_refuse_23 : decode b_Md_refuse 23 = .ok (.aload_n 0, 1) := by decide +kernel
theorem d_Md_refuse_24 : decode b_Md_refuse 24 = .ok (.getfield 187, 3) := by decide +kernel
theorem d_Md_refuse_27 : decode b_Md_refuse 27 = .ok (.putfield 187, 3) := by decide +kernel
theorem d_Md_refuse_30 : decode b_Md_refuse 30 = .ok (.return_, 1) := by decide +kernel
theorem d_Md_readContexts_0 : decode b_Md_readContexts 0 = .ok (.aload_n 0, 1) := by decide +kernel
theorem d_Md_readContexts_1 : decode b_Md_readContexts 1 = .ok (.getfield 105, 3) := by decide +kernel
theorem d_Md_readContexts_4 : decode b_Md_readContexts 4 = .ok (.ifCond .eq 79, 3) := by decide +kernel
theorem d_Md_readContexts_7 : decode b_Md_readContexts 7 = .ok (.aload_n 0, 1) := by decide +kernel
theorem d_Md_readContexts_8 : decode b_Md_readContexts 8 = .ok (.aload_n 0, 1) := by decide +kernel
theorem d_Md_readContexts_9 : decode b_Md_readContexts 9 = .ok (.invokevirtual 190, 3) := by decide +kernel
theorem d_Md_readContexts_12 : decode b_Md_readContexts 12 = .ok (.iconst 1, 1) := by decide +kernel
theorem d_Md_readContexts_13 : decode b_Md_readContexts 13 = .ok (.if_icmp .ne 7, 3) := by decide +kernel
theorem d_Md_readContexts_16 : decode b_Md_readContexts 16 = .ok (.iconst 1, 1) := by decide +kernel
theorem d_Md_readContexts_17 : decode b_Md_readContexts 17 = .ok (.goto 4, 3) := by decide +kernel
theorem d_Md_readContexts_20 : decode b_Md_readContexts 20 = .ok (.iconst 0, 1) := by decide +kernel
theorem d_Md_readContexts_21 : decode b_Md_readContexts 21 = .ok (.aload_n 0, 1) := by decide +kernel
theorem d_Md_readContexts_22 : decode b_Md_readContexts 22 = .ok (.getfield 132, 3) := by decide +kernel
theorem d_Md_readContexts_25 : decode b_Md_readContexts 25 = .ok (.if_icmp .eq 7, 3) := by decide +kernel
theorem d_Md_readContexts_28 : decode b_Md_readContexts 28 = .ok (.iconst 1, 1) := by decide +kernel
theorem d_Md_readContexts_29 : decode b_Md_readContexts 29 = .ok (.goto 4, 3) := by decide +kernel
theorem d_Md_readContexts_32 : decode b_Md_readContexts 32 = .ok (.iconst 0, 1) := by decide +kernel
theorem d_Md_readContexts_33 : decode b_Md_readContexts 33 = .ok (.putfield 132, 3) := by decide +kernel
theorem d_Md_readContexts_36 : decode b_Md_readContexts 36 = .ok (.aload_n 0, 1) := by decide +kernel
theorem d_Md_readContexts_37 : decode b_Md_readContexts 37 = .ok (.getfield 132, 3) := by decide +kernel
theorem d_Md_readContexts_40 : decode b_Md_readContexts 40 = .ok (.ifCond .eq 43, 3) := by decide +kernel
theorem d_Md_readContexts_43 : decode b_Md_readContexts 43 = .ok (.iconst 0, 1) := by decide +kernel
theorem d_Md_readContexts_44 : decode b_Md_readContexts 44 = .ok (.istore_n 2, 1) := by decide +kernel
theorem d_Md_readContexts_45 : decode b_Md_readContexts 45 = .ok (.iload_n 2, 1) := by decide +kernel
theorem d_Md_readContexts_46 : decode b_Md_readContexts 46 = .ok (.aload_n 0, 1) := by decide +kernel
theorem d_Md_readContexts_47 : decode b_Md_readContexts 47 = .ok (.getfield 57, 3) := by decide +kernel
theorem d_Md_readContexts_50 : decode b_Md_readContexts 50 = .ok (.if_icmp .ge 32, 3) := by decide +kernel
theorem d_Md_readContexts_53 : decode b_Md_readContexts 53 = .ok (.aload_n 0, 1) := by decide +kernel
theorem d_Md_readContexts_54 : decode b_Md_readContexts 54 = .ok (.getfield 50, 3) := by decide +kernel
theorem d_Md_readContexts_57 : decode b_Md_readContexts 57 = .ok (.bipush 24, 2) := by decide +kernel
theorem d_Md_readContexts_59 : decode b_Md_readContexts 59 = .ok (.iload_n 1, 1) := by decide +kernel
theorem d_Md_readContexts_60 : decode b_Md_readContexts 60 = .ok (.imul, 1) := by decide +kernel
theorem d_Md_readContexts_61 : decode b_Md_readContexts 61 = .ok (.iload_n 2, 1) := by decide +kernel
theorem d_Md_readContexts_62 : decode b_Md_readContexts 62 = .ok (.iadd, 1) := by decide +kernel
theorem d_Md_readContexts_63 : decode b_Md_readContexts 63 = .ok (.aload_n 0, 1) := by decide +kernel
theorem d_Md_readContexts_64 : decode b_Md_readContexts 64 = .ok (.aload_n 0, 1) := by decide +kernel
theorem d_Md_readContexts_65 : decode b_Md_readContexts 65 = .ok (.getfield 50, 3) := by decide +kernel
theorem d_Md_readContexts_68 : decode b_Md_readContexts 68 = .ok (.iload_n 2, 1) := by decide +kernel
theorem d_Md_readContexts_69 : decode b_Md_readContexts 69 = .ok (.iload_n 1, 1) := by decide +kernel
theorem d_Md_readContexts_70 : decode b_Md_readContexts 70 = .ok (.iconst 1, 1) := by decide +kernel
theorem d_Md_readContexts_71 : decode b_Md_readContexts 71 = .ok (.isub, 1) := by decide +kernel
theorem d_Md_readContexts_72 : decode b_Md_readContexts 72 = .ok (.invokevirtual 117, 3) := by decide +kernel
theorem d_Md_readContexts_75 : decode b_Md_readContexts 75 = .ok (.bastore, 1) := by decide +kernel
theorem d_Md_readContexts_76 : decode b_Md_readContexts 76 = .ok (.iinc 2 1, 3) := by decide +kernel
theorem d_Md_readContexts_79 : decode b_Md_readContexts 79 = .ok (.goto (-34), 3) := by decide +kernel
theorem d_Md_readContexts_82 : decode b_Md_readContexts 82 = .ok (.return_, 1) := by decide +kernel
theorem d_Md_readContexts_83 : decode b_Md_readContexts 83 = .ok (.iconst 0, 1) := by decide +kernel
theorem d_Md_readContexts_84 : decode b_Md_readContexts 84 = .ok (.istore_n 2, 1) := by decide +kernel
theorem d_Md_readContexts_85 : decode b_Md_readContexts 85 = .ok (.iload_n 2, 1) := by decide +kernel
theorem d_Md_readContexts_86 : decode b_Md_readContexts 86 = .ok (.aload_n 0, 1) := by decide +kernel
theorem d_Md_readContexts_87 : decode b_Md_readContexts 87 = .ok (.getfield 57, 3) := by decide +kernel
theorem d_Md_readContexts_90 : decode b_Md_readContexts 90 = .ok (.if_icmp .ge 47, 3) := by decide +kernel
theorem d_Md_readContexts_93 : decode b_Md_readContexts 93 = .ok (.aload_n 0, 1) := by decide +kernel
theorem d_Md_readContexts_94 : decode b_Md_readContexts 94 = .ok (.getfield 32, 3) := by decide +kernel
theorem d_Md_readContexts_97 : decode b_Md_readContexts 97 = .ok (.bipush 24, 2) := by decide +kernel
theorem d_Md_readContexts_99 : decode b_Md_readContexts 99 = .ok (.iload_n 1, 1) := by decide +kernel
theorem d_Md_readContexts_100 : decode b_Md_readContexts 100 = .ok (.imul, 1) := by decide +kernel
theorem d_Md_readContexts_101 : decode b_Md_readContexts 101 = .ok (.iload_n 2, 1) := by decide +kernel
theorem d_Md_readContexts_102 : decode b_Md_readContexts 102 = .ok (.iadd, 1) := by decide +kernel
theorem d_Md_readContexts_103 : decode b_Md_readContexts 103 = .ok (.baload, 1) := by decide +kernel
theorem d_Md_readContexts_104 : decode b_Md_readContexts 104 = .ok (.ifCond .ne 27, 3) := by decide +kernel
theorem d_Md_readContexts_107 : decode b_Md_readContexts 107 = .ok (.aload_n 0, 1) := by decide +kernel
theorem d_Md_readContexts_108 : decode b_Md_readContexts 108 = .ok (.getfield 50, 3) := by decide +kernel
theorem d_Md_readContexts_111 : decode b_Md_readContexts 111 = .ok (.bipush 24, 2) := by decide +kernel
theorem d_Md_readContexts_113 : decode b_Md_readContexts 113 = .ok (.iload_n 1, 1) := by decide +kernel
theorem d_Md_readContexts_114 : decode b_Md_readContexts 114 = .ok (.imul, 1) := by decide +kernel
theorem d_Md_readContexts_115 : decode b_Md_readContexts 115 = .ok (.iload_n 2, 1) := by decide +kernel
theorem d_Md_readContexts_116 : decode b_Md_readContexts 116 = .ok (.iadd, 1) := by decide +kernel
theorem d_Md_readContexts_117 : decode b_Md_readContexts 117 = .ok (.aload_n 0, 1) := by decide +kernel
theorem d_Md_readContexts_118 : decode b_Md_readContexts 118 = .ok (.invokevirtual 190, 3) := by decide +kernel
theorem d_Md_readContexts_121 : decode b_Md_readContexts 121 = .ok (.iconst 1, 1) := by decide +kernel
theorem d_Md_readContexts_122 : decode b_Md_readContexts 122 = .ok (.if_icmp .ne 7, 3) := by decide +kernel
theorem d_Md_readContexts_125 : decode b_Md_readContexts 125 = .ok (.iconst 1, 1) := by decide +kernel
theorem d_Md_readContexts_126 : decode b_Md_readContexts 126 = .ok (.goto 4, 3) := by decide +kernel
theorem d_Md_readContexts_129 : decode b_Md_readContexts 129 = .ok (.iconst 0, 1) := by decide +kernel
theorem d_Md_readContexts_130 : decode b_Md_readContexts 130 = .ok (.bastore, 1) := by decide +kernel
theorem d_Md_readContexts_131 : decode b_Md_readContexts 131 = .ok (.iinc 2 1, 3) := by decide +kernel
theorem d_Md_readContexts_134 : decode b_Md_readContexts 134 = .ok (.goto (-49), 3) := by decide +kernel
theorem d_Md_readContexts_137 : decode b_Md_readContexts 137 = .ok (.return_, 1) := by decide +kernel
theorem d_Md_fill_0 : decode b_Md_fill 0 = .ok (.iload_n 2, 1) := by decide +kernel
theorem d_Md_fill_1 : decode b_Md_fill 1 = .ok (.istore 5, 2) := by decide +kernel
theorem d_Md_fill_3 : decode b_Md_fill 3 = .ok (.iload 5, 2) := by decide +kernel
theorem d_Md_fill_5 : decode b_Md_fill 5 = .ok (.iload_n 3, 1) := by decide +kernel
theorem d_Md_fill_6 : decode b_Md_fill 6 = .ok (.if_icmp .ge 37, 3) := by decide +kernel
theorem d_Md_fill_9 : decode b_Md_fill 9 = .ok (.aload_n 0, 1) := by decide +kernel
theorem d_Md_fill_10 : decode b_Md_fill 10 = .ok (.getfield 187, 3) := by decide +kernel
theorem d_Md_fill_13 : decode b_Md_fill 13 = .ok (.ifCond .ge 30, 3) := by decide +kernel
theorem d_Md_fill_16 : decode b_Md_fill 16 = .ok (.aload_n 0, 1) := by decide +kernel
theorem d_Md_fill_17 : decode b_Md_fill 17 = .ok (.getfield 181, 3) := by decide +kernel
theorem d_Md_fill_20 : decode b_Md_fill 20 = .ok (.ifCond .ne 23, 3) := by decide +kernel
theorem d_Md_fill_23 : decode b_Md_fill 23 = .ok (.aload_n 0, 1) := by decide +kernel
theorem d_Md_fill_24 : decode b_Md_fill 24 = .ok (.getfield 50, 3) := by decide +kernel
theorem d_Md_fill_27 : decode b_Md_fill 27 = .ok (.bipush 24, 2) := by decide +kernel
theorem d_Md_fill_29 : decode b_Md_fill 29 = .ok (.iload_n 1, 1) := by decide +kernel
theorem d_Md_fill_30 : decode b_Md_fill 30 = .ok (.imul, 1) := by decide +kernel
theorem d_Md_fill_31 : decode b_Md_fill 31 = .ok (.iload 5, 2) := by decide +kernel
theorem d_Md_fill_33 : decode b_Md_fill 33 = .ok (.iadd, 1) := by decide +kernel
theorem d_Md_fill_34 : decode b_Md_fill 34 = .ok (.iload 4, 2) := by decide +kernel
theorem d_Md_fill_36 : decode b_Md_fill 36 = .ok (.bastore, 1) := by decide +kernel
theorem d_Md_fill_37 : decode b_Md_fill 37 = .ok (.iinc 5 1, 3) := by decide +kernel
theorem d_Md_fill_40 : decode b_Md_fill 40 = .ok (.goto (-37), 3) := by decide +kernel
theorem d_Md_fill_43 : decode b_Md_fill 43 = .ok (.return_, 1) := by decide +kernel
theorem d_Md_readNumber_0 : decode b_Md_readNumber 0 = .ok (.iconst 0, 1) := by decide +kernel
theorem d_Md_readNumber_1 : decode b_Md_readNumber 1 = .ok (.istore_n 1, 1) := by decide +kernel
theorem d_Md_readNumber_2 : decode b_Md_readNumber 2 = .ok (.aload_n 0, 1) := by decide +kernel
theorem d_Md_readNumber_3 : decode b_Md_readNumber 3 = .ok (.invokevirtual 190, 3) := by decide +kernel
theorem d_Md_readNumber_6 : decode b_Md_readNumber 6 = .ok (.ifCond .ne 19, 3) := by decide +kernel
theorem d_Md_readNumber_9 : decode b_Md_readNumber 9 = .ok (.iinc 1 1, 3) := by decide +kernel
theorem d_Md_readNumber_12 : decode b_Md_readNumber 12 = .ok (.iload_n 1, 1) := by decide +kernel
theorem d_Md_readNumber_13 : decode b_Md_readNumber 13 = .ok (.iconst 4, 1) := by decide +kernel
theorem d_Md_readNumber_14 : decode b_Md_readNumber 14 = .ok (.if_icmp .le (-12), 3) := by decide +kernel
theorem d_Md_readNumber_17 : decode b_Md_readNumber 17 = .ok (.aload_n 0, 1) := by decide +kernel
theorem d_Md_readNumber_18 : decode b_Md_readNumber 18 = .ok (.iconst 1, 1) := by decide +kernel
theorem d_Md_readNumber_19 : decode b_Md_readNumber 19 = .ok (.iconst 2, 1) := by decide +kernel
theorem d_Md_readNumber_20 : decode b_Md_readNumber 20 = .ok (.invokevirtual 193, 3) := by decide +kernel
theorem d_Md_readNumber_23 : decode b_Md_readNumber 23 = .ok (.iconst 0, 1) := by decide +kernel
theorem d_Md_readNumber_24 : decode b_Md_readNumber 24 = .ok (.ireturn, 1) := by decide +kernel
theorem d_Md_readNumber_25 : decode b_Md_readNumber 25 = .ok (.iconst 1, 1) := by decide +kernel
theorem d_Md_readNumber_26 : decode b_Md_readNumber 26 = .ok (.istore_n 2, 1) := by decide +kernel
theorem d_Md_readNumber_27 : decode b_Md_readNumber 27 = .ok (.iconst 0, 1) := by decide +kernel
theorem d_Md_readNumber_28 : decode b_Md_readNumber 28 = .ok (.istore_n 3, 1) := by decide +kernel
theorem d_Md_readNumber_29 : decode b_Md_readNumber 29 = .ok (.iload_n 3, 1) := by decide +kernel
theorem d_Md_readNumber_30 : decode b_Md_readNumber 30 = .ok (.iload_n 1, 1) := by decide +kernel
theorem d_Md_readNumber_31 : decode b_Md_readNumber 31 = .ok (.if_icmp .ge 18, 3) := by decide +kernel
theorem d_Md_readNumber_34 : decode b_Md_readNumber 34 = .ok (.iconst 2, 1) := by decide +kernel
theorem d_Md_readNumber_35 : decode b_Md_readNumber 35 = .ok (.iload_n 2, 1) := by decide +kernel
theorem d_Md_readNumber_36 : decode b_Md_readNumber 36 = .ok (.imul, 1) := by decide +kernel
theorem d_Md_readNumber_37 : decode b_Md_readNumber 37 = .ok (.aload_n 0, 1) := by decide +kernel
theorem d_Md_readNumber_38 : decode b_Md_readNumber 38 = .ok (.invokevirtual 190, 3) := by decide +kernel
theorem d_Md_readNumber_41 : decode b_Md_readNumber 41 = .ok (.iadd, 1) := by decide +kernel
theorem d_Md_readNumber_42 : decode b_Md_readNumber 42 = .ok (.istore_n 2, 1) := by decide +kernel
theorem d_Md_readNumber_43 : decode b_Md_readNumber 43 = .ok (.iinc 3 1, 3) := by decide +kernel
theorem d_Md_readNumber_46 : decode b_Md_readNumber 46 = .ok (.goto (-17), 3) := by decide +kernel
theorem d_Md_readNumber_49 : decode b_Md_readNumber 49 = .ok (.iload_n 2, 1) := by decide +kernel
theorem d_Md_readNumber_50 : decode b_Md_readNumber 50 = .ok (.iconst 1, 1) := by decide +kernel
theorem d_Md_readNumber_51 : decode b_Md_readNumber 51 = .ok (.isub, 1) := by decide +kernel
theorem d_Md_readNumber_52 : decode b_Md_readNumber 52 = .ok (.ireturn, 1) := by decide +kernel
theorem d_Md_readChange_0 : decode b_Md_readChange 0 = .ok (.aload_n 0, 1) := by decide +kernel
theorem d_Md_readChange_1 : decode b_Md_readChange 1 = .ok (.aload_n 0, 1) := by decide +kernel
theorem d_Md_readChange_2 : decode b_Md_readChange 2 = .ok (.getfield 50, 3) := by decide +kernel
theorem d_Md_readChange_5 : decode b_Md_readChange 5 = .ok (.iload_n 1, 1) := by decide +kernel
theorem d_Md_readChange_6 : decode b_Md_readChange 6 = .ok (.invokevirtual 156, 3) := by decide +kernel
theorem d_Md_readChange_9 : decode b_Md_readChange 9 = .ok (.iload_n 2, 1) := by decide +kernel
theorem d_Md_readChange_10 : decode b_Md_readChange 10 = .ok (.iadd, 1) := by decide +kernel
theorem d_Md_readChange_11 : decode b_Md_readChange 11 = .ok (.istore_n 3, 1) := by decide +kernel
theorem d_Md_readChange_12 : decode b_Md_readChange 12 = .ok (.aload_n 0, 1) := by decide +kernel
theorem d_Md_readChange_13 : decode b_Md_readChange 13 = .ok (.iload_n 3, 1) := by decide +kernel
theorem d_Md_readChange_14 : decode b_Md_readChange 14 = .ok (.aload_n 0, 1) := by decide +kernel
theorem d_Md_readChange_15 : decode b_Md_readChange 15 = .ok (.getfield 145, 3) := by decide +kernel
theorem d_Md_readChange_18 : decode b_Md_readChange 18 = .ok (.if_icmp .le 11, 3) := by decide +kernel
theorem d_Md_readChange_21 : decode b_Md_readChange 21 = .ok (.iload_n 3, 1) := by decide +kernel
theorem d_Md_readChange_22 : decode b_Md_readChange 22 = .ok (.aload_n 0, 1) := by decide +kernel
theorem d_Md_readChange_23 : decode b_Md_readChange 23 = .ok (.getfield 57, 3) := by decide +kernel
theorem d_Md_readChange_26 : decode b_Md_readChange 26 = .ok (.if_icmp .le 7, 3) := by decide +kernel
theorem d_Md_readChange_29 : decode b_Md_readChange 29 = .ok (.iconst 1, 1) := by decide +kernel
theorem d_Md_readChange_30 : decode b_Md_readChange 30 = .ok (.goto 4, 3) := by decide +kernel
theorem d_Md_readChange_33 : decode b_Md_readChange 33 = .ok (.iconst 0, 1) := by decide +kernel
theorem d_Md_readChange_34 : decode b_Md_readChange 34 = .ok (.iconst 1, 1) := by decide +kernel
theorem d_Md_readChange_35 : decode b_Md_readChange 35 = .ok (.invokevirtual 193, 3) := by decide +kernel
theorem d_Md_readChange_38 : decode b_Md_readChange 38 = .ok (.aload_n 0, 1) := by decide +kernel
theorem d_Md_readChange_39 : decode b_Md_readChange 39 = .ok (.iload_n 1, 1) := by decide +kernel
theorem d_Md_readChange_40 : decode b_Md_readChange 40 = .ok (.aload_n 0, 1) := by decide +kernel
theorem d_Md_readChange_41 : decode b_Md_readChange 41 = .ok (.getfield 145, 3) := by decide +kernel
theorem d_Md_readChange_44 : decode b_Md_readChange 44 = .ok (.ifCond .ge 7, 3) := by decide +kernel
theorem d_Md_readChange_47 : decode b_Md_readChange 47 = .ok (.iconst 0, 1) := by decide +kernel
theorem d_Md_readChange_48 : decode b_Md_readChange 48 = .ok (.goto 7, 3) := by decide +kernel
theorem d_Md_readChange_51 : decode b_Md_readChange 51 = .ok (.aload_n 0, 1) := by decide +kernel
theorem d_Md_readChange_52 : decode b_Md_readChange 52 = .ok (.getfield 145, 3) := by decide +kernel
theorem d_Md_readChange_55 : decode b_Md_readChange 55 = .ok (.iload_n 3, 1) := by decide +kernel
theorem d_Md_readChange_56 : decode b_Md_readChange 56 = .ok (.aload_n 0, 1) := by decide +kernel
theorem d_Md_readChange_57 : decode b_Md_readChange 57 = .ok (.getfield 148, 3) := by decide +kernel
theorem d_Md_readChange_60 : decode b_Md_readChange 60 = .ok (.invokevirtual 197, 3) := by decide +kernel
theorem d_Md_readChange_63 : decode b_Md_readChange 63 = .ok (.aload_n 0, 1) := by decide +kernel
theorem d_Md_readChange_64 : decode b_Md_readChange 64 = .ok (.iload_n 3, 1) := by decide +kernel
theorem d_Md_readChange_65 : decode b_Md_readChange 65 = .ok (.putfield 145, 3) := by decide +kernel
theorem d_Md_readChange_68 : decode b_Md_readChange 68 = .ok (.aload_n 0, 1) := by decide +kernel
theorem d_Md_readChange_69 : decode b_Md_readChange 69 = .ok (.aload_n 0, 1) := by decide +kernel
theorem d_Md_readChange_70 : decode b_Md_readChange 70 = .ok (.getfield 148, 3) := by decide +kernel
theorem d_Md_readChange_73 : decode b_Md_readChange 73 = .ok (.ifCond .ne 7, 3) := by decide +kernel
theorem d_Md_readChange_76 : decode b_Md_readChange 76 = .ok (.iconst 1, 1) := by decide +kernel
theorem d_Md_readChange_77 : decode b_Md_readChange 77 = .ok (.goto 4, 3) := by decide +kernel
theorem d_Md_readChange_80 : decode b_Md_readChange 80 = .ok (.iconst 0, 1) := by decide +kernel
theorem d_Md_readChange_81 : decode b_Md_readChange 81 = .ok (.putfield 148, 3) := by decide +kernel
theorem d_Md_readChange_84 : decode b_Md_readChange 84 = .ok (.return_, 1) := by decide +kernel
theorem d_Md_readPassed_0 : decode b_Md_readPassed 0 = .ok (.aload_n 0, 1) := by decide +kernel
theorem d_Md_readPassed_1 : decode b_Md_readPassed 1 = .ok (.aload_n 0, 1) := by decide +kernel
theorem d_Md_readPassed_2 : decode b_Md_readPassed 2 = .ok (.getfield 50, 3) := by decide +kernel
theorem d_Md_readPassed_5 : decode b_Md_readPassed 5 = .ok (.iload_n 1, 1) := by decide +kernel
theorem d_Md_readPassed_6 : decode b_Md_readPassed 6 = .ok (.iconst 1, 1) := by decide +kernel
theorem d_Md_readPassed_7 : decode b_Md_readPassed 7 = .ok (.isub, 1) := by decide +kernel
theorem d_Md_readPassed_8 : decode b_Md_readPassed 8 = .ok (.aload_n 0, 1) := by decide +kernel
theorem d_Md_readPassed_9 : decode b_Md_readPassed 9 = .ok (.aload_n 0, 1) := by decide +kernel
theorem d_Md_readPassed_10 : decode b_Md_readPassed 10 = .ok (.getfield 50, 3) := by decide +kernel
theorem d_Md_readPassed_13 : decode b_Md_readPassed 13 = .ok (.iload_n 1, 1) := by decide +kernel
theorem d_Md_readPassed_14 : decode b_Md_readPassed 14 = .ok (.invokevirtual 156, 3) := by decide +kernel
theorem d_Md_readPassed_17 : decode b_Md_readPassed 17 = .ok (.iconst 1, 1) := by decide +kernel
theorem d_Md_readPassed_18 : decode b_Md_readPassed 18 = .ok (.iadd, 1) := by decide +kernel
theorem d_Md_readPassed_19 : decode b_Md_readPassed 19 = .ok (.aload_n 0, 1) := by decide +kernel
