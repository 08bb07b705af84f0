theorem dX11_copy_167 : decode cX11_copy 167 = .ok (.iload 6, 2) := by decide +kernel
theorem dX11_copy_169 : decode cX11_copy 169 = .ok (.iload 5, 2) := by decide +kernel
theorem dX11_copy_171 : decode cX11_copy 171 = .ok (.if_icmp .ge 31, 3) := by decide +kernel
theorem dX11_copy_174 : decode cX11_copy 174 = .ok (.aload_n 0, 1) := by decide +kernel
theorem dX11_copy_175 : decode cX11_copy 175 = .ok (.getfield 78, 3) := by decide +kernel
theorem dX11_copy_178 : decode cX11_copy 178 = .ok (.iload 6, 2) := by decide +kernel
theorem dX11_copy_180 : decode cX11_copy 180 = .ok (.aload_n 0, 1) := by decide +kernel
theorem dX11_copy_181 : decode cX11_copy 181 = .ok (.getfield 74, 3) := by decide +kernel
theorem dX11_copy_184 : decode cX11_copy 184 = .ok (.sipush 160, 3) := by decide +kernel
theorem dX11_copy_187 : decode cX11_copy 187 = .ok (.iload_n 1, 1) := by decide +kernel
theorem dX11_copy_188 : decode cX11_copy 188 = .ok (.imul, 1) := by decide +kernel
theorem dX11_copy_189 : decode cX11_copy 189 = .ok (.iload_n 3, 1) := by decide +kernel
theorem dX11_copy_190 : decode cX11_copy 190 = .ok (.iadd, 1) := by decide +kernel
theorem dX11_copy_191 : decode cX11_copy 191 = .ok (.iload 6, 2) := by decide +kernel
theorem dX11_copy_193 : decode cX11_copy 193 = .ok (.iadd, 1) := by decide +kernel
theorem dX11_copy_194 : decode cX11_copy 194 = .ok (.laload, 1) := by decide +kernel
theorem dX11_copy_195 : decode cX11_copy 195 = .ok (.lastore, 1) := by decide +kernel
theorem dX11_copy_196 : decode cX11_copy 196 = .ok (.iinc 6 1, 3) := by decide +kernel
theorem dX11_copy_199 : decode cX11_copy 199 = .ok (.goto (-32), 3) := by decide +kernel
theorem dX11_copy_202 : decode cX11_copy 202 = .ok (.iconst 0, 1) := by decide +kernel
theorem dX11_copy_203 : decode cX11_copy 203 = .ok (.istore 6, 2) := by decide +kernel
theorem dX11_copy_205 : decode cX11_copy 205 = .ok (.iload 6, 2) := by decide +kernel
theorem dX11_copy_207 : decode cX11_copy 207 = .ok (.iload 5, 2) := by decide +kernel
theorem dX11_copy_209 : decode cX11_copy 209 = .ok (.if_icmp .ge 32, 3) := by decide +kernel
theorem dX11_copy_212 : decode cX11_copy 212 = .ok (.aload_n 0, 1) := by decide +kernel
theorem dX11_copy_213 : decode cX11_copy 213 = .ok (.getfield 74, 3) := by decide +kernel
theorem dX11_copy_216 : decode cX11_copy 216 = .ok (.sipush 160, 3) := by decide +kernel
theorem dX11_copy_219 : decode cX11_copy 219 = .ok (.iload_n 2, 1) := by decide +kernel
theorem dX11_copy_220 : decode cX11_copy 220 = .ok (.imul, 1) := by decide +kernel
theorem dX11_copy_221 : decode cX11_copy 221 = .ok (.iload 4, 2) := by decide +kernel
theorem dX11_copy_223 : decode cX11_copy 223 = .ok (.iadd, 1) := by decide +kernel
theorem dX11_copy_224 : decode cX11_copy 224 = .ok (.iload 6, 2) := by decide +kernel
theorem dX11_copy_226 : decode cX11_copy 226 = .ok (.iadd, 1) := by decide +kernel
theorem dX11_copy_227 : decode cX11_copy 227 = .ok (.aload_n 0, 1) := by decide +kernel
theorem dX11_copy_228 : decode cX11_copy 228 = .ok (.getfield 78, 3) := by decide +kernel
theorem dX11_copy_231 : decode cX11_copy 231 = .ok (.iload 6, 2) := by decide +kernel
theorem dX11_copy_233 : decode cX11_copy 233 = .ok (.laload, 1) := by decide +kernel
theorem dX11_copy_234 : decode cX11_copy 234 = .ok (.lastore, 1) := by decide +kernel
theorem dX11_copy_235 : decode cX11_copy 235 = .ok (.iinc 6 1, 3) := by decide +kernel
theorem dX11_copy_238 : decode cX11_copy 238 = .ok (.goto (-33), 3) := by decide +kernel
theorem dX11_copy_241 : decode cX11_copy 241 = .ok (.iconst 1, 1) := by decide +kernel
theorem dX11_copy_242 : decode cX11_copy 242 = .ok (.ireturn, 1) := by decide +kernel
theorem dX11_element_0 : decode cX11_element 0 = .ok (.aload_n 0, 1) := by decide +kernel
theorem dX11_element_1 : decode cX11_element 1 = .ok (.iload_n 1, 1) := by decide +kernel
theorem dX11_element_2 : decode cX11_element 2 = .ok (.invokevirtual 126, 3) := by decide +kernel
theorem dX11_element_5 : decode cX11_element 5 = .ok (.ifCond .eq 42, 3) := by decide +kernel
theorem dX11_element_8 : decode cX11_element 8 = .ok (.aload_n 0, 1) := by decide +kernel
theorem dX11_element_9 : decode cX11_element 9 = .ok (.getfield 62, 3) := by decide +kernel
theorem dX11_element_12 : decode cX11_element 12 = .ok (.iload_n 1, 1) := by decide +kernel
theorem dX11_element_13 : decode cX11_element 13 = .ok (.iaload, 1) := by decide +kernel
theorem dX11_element_14 : decode cX11_element 14 = .ok (.iconst 1, 1) := by decide +kernel
theorem dX11_element_15 : decode cX11_element 15 = .ok (.if_icmp .ne 32, 3) := by decide +kernel
theorem dX11_element_18 : decode cX11_element 18 = .ok (.iload_n 2, 1) := by decide +kernel
theorem dX11_element_19 : decode cX11_element 19 = .ok (.ifCond .lt 28, 3) := by decide +kernel
theorem dX11_element_22 : decode cX11_element 22 = .ok (.iload_n 2, 1) := by decide +kernel
theorem dX11_element_23 : decode cX11_element 23 = .ok (.aload_n 0, 1) := by decide +kernel
theorem dX11_element_24 : decode cX11_element 24 = .ok (.getfield 68, 3) := by decide +kernel
theorem dX11_element_27 : decode cX11_element 27 = .ok (.iload_n 1, 1) := by decide +kernel
theorem dX11_element_28 : decode cX11_element 28 = .ok (.iaload, 1) := by decide +kernel
theorem dX11_element_29 : decode cX11_element 29 = .ok (.if_icmp .ge 18, 3) := by decide +kernel
theorem dX11_element_32 : decode cX11_element 32 = .ok (.aload_n 0, 1) := by decide +kernel
theorem dX11_element_33 : decode cX11_element 33 = .ok (.getfield 74, 3) := by decide +kernel
theorem dX11_element_36 : decode cX11_element 36 = .ok (.sipush 160, 3) := by decide +kernel
theorem dX11_element_39 : decode cX11_element 39 = .ok (.iload_n 1, 1) := by decide +kernel
theorem dX11_element_40 : decode cX11_element 40 = .ok (.imul, 1) := by decide +kernel
theorem dX11_element_41 : decode cX11_element 41 = .ok (.iload_n 2, 1) := by decide +kernel
theorem dX11_element_42 : decode cX11_element 42 = .ok (.iadd, 1) := by decide +kernel
theorem dX11_element_43 : decode cX11_element 43 = .ok (.laload, 1) := by decide +kernel
theorem dX11_element_44 : decode cX11_element 44 = .ok (.goto 4, 3) := by decide +kernel
theorem dX11_element_47 : decode cX11_element 47 = .ok (.lconst 0, 1) := by decide +kernel
theorem dX11_element_48 : decode cX11_element 48 = .ok (.lreturn, 1) := by decide +kernel
theorem dX11_show_0 : decode cX11_show 0 = .ok (.aload_n 0, 1) := by decide +kernel
theorem dX11_show_1 : decode cX11_show 1 = .ok (.iload_n 1, 1) := by decide +kernel
theorem dX11_show_2 : decode cX11_show 2 = .ok (.invokevirtual 126, 3) := by decide +kernel
theorem dX11_show_5 : decode cX11_show 5 = .ok (.ifCond .eq 16, 3) := by decide +kernel
theorem dX11_show_8 : decode cX11_show 8 = .ok (.iload_n 2, 1) := by decide +kernel
theorem dX11_show_9 : decode cX11_show 9 = .ok (.iconst (-1), 1) := by decide +kernel
theorem dX11_show_10 : decode cX11_show 10 = .ok (.if_icmp .eq 17, 3) := by decide +kernel
theorem dX11_show_13 : decode cX11_show 13 = .ok (.aload_n 0, 1) := by decide +kernel
theorem dX11_show_14 : decode cX11_show 14 = .ok (.iload_n 2, 1) := by decide +kernel
theorem dX11_show_15 : decode cX11_show 15 = .ok (.invokevirtual 134, 3) := by decide +kernel
theorem dX11_show_18 : decode cX11_show 18 = .ok (.ifCond .ne 9, 3) := by decide +kernel
theorem dX11_show_21 : decode cX11_show 21 = .ok (.aload_n 0, 1) := by decide +kernel
theorem dX11_show_22 : decode cX11_show 22 = .ok (.iconst (-1), 1) := by decide +kernel
theorem dX11_show_23 : decode cX11_show 23 = .ok (.invokevirtual 130, 3) := by decide +kernel
theorem dX11_show_26 : decode cX11_show 26 = .ok (.ireturn, 1) := by decide +kernel
theorem dX11_show_27 : decode cX11_show 27 = .ok (.aload_n 0, 1) := by decide +kernel
theorem dX11_show_28 : decode cX11_show 28 = .ok (.getfield 62, 3) := by decide +kernel
theorem dX11_show_31 : decode cX11_show 31 = .ok (.iload_n 1, 1) := by decide +kernel
theorem dX11_show_32 : decode cX11_show 32 = .ok (.iload_n 2, 1) := by decide +kernel
theorem dX11_show_33 : decode cX11_show 33 = .ok (.iconst (-1), 1) := by decide +kernel
theorem dX11_show_34 : decode cX11_show 34 = .ok (.if_icmp .ne 7, 3) := by decide +kernel
theorem dX11_show_37 : decode cX11_show 37 = .ok (.iconst 0, 1) := by decide +kernel
theorem dX11_show_38 : decode cX11_show 38 = .ok (.goto 4, 3) := by decide +kernel
theorem dX11_show_41 : decode cX11_show 41 = .ok (.iconst 2, 1) := by decide +kernel
theorem dX11_show_42 : decode cX11_show 42 = .ok (.iastore, 1) := by decide +kernel
theorem dX11_show_43 : decode cX11_show 43 = .ok (.aload_n 0, 1) := by decide +kernel
theorem dX11_show_44 : decode cX11_show 44 = .ok (.getfield 71, 3) := by decide +kernel
theorem dX11_show_47 : decode cX11_show 47 = .ok (.iload_n 1, 1) := by decide +kernel
theorem dX11_show_48 : decode cX11_show 48 = .ok (.iload_n 2, 1) := by decide +kernel
theorem dX11_show_49 : decode cX11_show 49 = .ok (.iastore, 1) := by decide +kernel
theorem dX11_show_50 : decode cX11_show 50 = .ok (.iload_n 2, 1) := by decide +kernel
theorem dX11_show_51 : decode cX11_show 51 = .ok (.iconst (-1), 1) := by decide +kernel
theorem dX11_show_52 : decode cX11_show 52 = .ok (.if_icmp .ne 7, 3) := by decide +kernel
theorem dX11_show_55 : decode cX11_show 55 = .ok (.iconst 0, 1) := by decide +kernel
theorem dX11_show_56 : decode cX11_show 56 = .ok (.goto 4, 3) := by decide +kernel
theorem dX11_show_59 : decode cX11_show 59 = .ok (.iconst 1, 1) := by decide +kernel
theorem dX11_show_60 : decode cX11_show 60 = .ok (.ireturn, 1) := by decide +kernel
theorem dX11_holds_0 : decode cX11_holds 0 = .ok (.aload_n 0, 1) := by decide +kernel
theorem dX11_holds_1 : decode cX11_holds 1 = .ok (.iload_n 1, 1) := by decide +kernel
theorem dX11_holds_2 : decode cX11_holds 2 = .ok (.invokevirtual 126, 3) := by decide +kernel
theorem dX11_holds_5 : decode cX11_holds 5 = .ok (.ifCond .eq 12, 3) := by decide +kernel
theorem dX11_holds_8 : decode cX11_holds 8 = .ok (.aload_n 0, 1) := by decide +kernel
theorem dX11_holds_9 : decode cX11_holds 9 = .ok (.getfield 62, 3) := by decide +kernel
theorem dX11_holds_12 : decode cX11_holds 12 = .ok (.iload_n 1, 1) := by decide +kernel
theorem dX11_holds_13 : decode cX11_holds 13 = .ok (.iaload, 1) := by decide +kernel
theorem dX11_holds_14 : decode cX11_holds 14 = .ok (.ifCond .ne 5, 3) := by decide +kernel
theorem dX11_holds_17 : decode cX11_holds 17 = .ok (.iconst (-1), 1) := by decide +kernel
theorem dX11_holds_18 : decode cX11_holds 18 = .ok (.ireturn, 1) := by decide +kernel
theorem dX11_holds_19 : decode cX11_holds 19 = .ok (.aload_n 0, 1) := by decide +kernel
theorem dX11_holds_20 : decode cX11_holds 20 = .ok (.getfield 62, 3) := by decide +kernel
theorem dX11_holds_23 : decode cX11_holds 23 = .ok (.iload_n 1, 1) := by decide +kernel
theorem dX11_holds_24 : decode cX11_holds 24 = .ok (.iaload, 1) := by decide +kernel
theorem dX11_holds_25 : decode cX11_holds 25 = .ok (.iconst 1, 1) := by decide +kernel
theorem dX11_holds_26 : decode cX11_holds 26 = .ok (.if_icmp .ne 15, 3) := by decide +kernel
theorem dX11_holds_29 : decode cX11_holds 29 = .ok (.bipush 100, 2) := by decide +kernel
theorem dX11_holds_31 : decode cX11_holds 31 = .ok (.aload_n 0, 1) := by decide +kernel
theorem dX11_holds_32 : decode cX11_holds 32 = .ok (.getfield 65, 3) := by decide +kernel
theorem dX11_holds_35 : decode cX11_holds 35 = .ok (.iload_n 1, 1) := by decide +kernel
theorem dX11_holds_36 : decode cX11_holds 36 = .ok (.iaload, 1) := by decide +kernel
theorem dX11_holds_37 : decode cX11_holds 37 = .ok (.iadd, 1) := by decide +kernel
theorem dX11_holds_38 : decode cX11_holds 38 = .ok (.goto 9, 3) := by decide +kernel
theorem dX11_holds_41 : decode cX11_holds 41 = .ok (.aload_n 0, 1) := by decide +kernel
theorem dX11_holds_42 : decode cX11_holds 42 = .ok (.getfield 71, 3) := by decide +kernel
theorem dX11_holds_45 : decode cX11_holds 45 = .ok (.iload_n 1, 1) := by decide +kernel
theorem dX11_holds_46 : decode cX11_holds 46 = .ok (.iaload, 1) := by decide +kernel
theorem dX11_holds_47 : decode cX11_holds 47 = .ok (.ireturn, 1) := by decide +kernel
theorem dX11_says_0 : decode cX11_says 0 = .ok (.aload_n 0, 1) := by decide +kernel
theorem dX11_says_1 : decode cX11_says 1 = .ok (.iload_n 1, 1) := by decide +kernel
theorem dX11_says_2 : decode cX11_says 2 = .ok (.invokevirtual 126, 3) := by decide +kernel
theorem dX11_says_5 : decode cX11_says 5 = .ok (.ifCond .eq 13, 3) := by decide +kernel
theorem dX11_says_8 : decode cX11_says 8 = .ok (.iload_n 2, 1) := by decide +kernel
theorem dX11_says_9 : decode cX11_says 9 = .ok (.ifCond .lt 9, 3) := by decide +kernel
theorem dX11_says_12 : decode cX11_says 12 = .ok (.iload_n 2, 1) := by decide +kernel
theorem dX11_says_13 : decode cX11_says 13 = .ok (.bipush 6, 2) := by decide +kernel
theorem dX11_says_15 : decode cX11_says 15 = .ok (.if_icmp .le 9, 3) := by decide +kernel
theorem dX11_says_18 : decode cX11_says 18 = .ok (.aload_n 0, 1) := by decide +kernel
theorem dX11_says_19 : decode cX11_says 19 = .ok (.iconst (-1), 1) := by decide +kernel
theorem dX11_says_20 : decode cX11_says 20 = .ok (.invokevirtual 130, 3) := by decide +kernel
theorem dX11_says_23 : decode cX11_says 23 = .ok (.ireturn, 1) := by decide +kernel
theorem dX11_says_24 : decode cX11_says 24 = .ok (.aload_n 0, 1) := by decide +kernel
theorem dX11_says_25 : decode cX11_says 25 = .ok (.getfield 62, 3) := by decide +kernel
theorem dX11_says_28 : decode cX11_says 28 = .ok (.iload_n 1, 1) := by decide +kernel
theorem dX11_says_29 : decode cX11_says 29 = .ok (.iaload, 1) := by decide +kernel
theorem dX11_says_30 : decode cX11_says 30 = .ok (.iconst 1, 1) := by decide +kernel
theorem dX11_says_31 : decode cX11_says 31 = .ok (.if_icmp .ne 10, 3) := by decide +kernel
theorem dX11_says_34 : decode cX11_says 34 = .ok (.aload_n 0, 1) := by decide +kernel
theorem dX11_says_35 : decode cX11_says 35 = .ok (.bipush (-2), 2) := by decide +kernel
theorem dX11_says_37 : decode cX11_says 37 = .ok (.invokevirtual 130, 3) := by decide +kernel
theorem dX11_says_40 : decode cX11_says 40 = .ok (.ireturn, 1) := by decide +kernel
theorem dX11_says_41 : decode cX11_says 41 = .ok (.aload_n 0, 1) := by decide +kernel
theorem dX11_says_42 : decode cX11_says 42 = .ok (.getfield 62, 3) := by decide +kernel
theorem dX11_says_45 : decode cX11_says 45 = .ok (.iload_n 1, 1) := by decide +kernel
theorem dX11_says_46 : decode cX11_says 46 = .ok (.iaload, 1) := by decide +kernel
theorem dX11_says_47 : decode cX11_says 47 = .ok (.ifCond .ne 10, 3) := by decide +kernel
theorem dX11_says_50 : decode cX11_says 50 = .ok (.aload_n 0, 1) := by decide +kernel
theorem dX11_says_51 : decode cX11_says 51 = .ok (.bipush (-3), 2) := by decide +kernel
theorem dX11_says_53 : decode cX11_says 53 = .ok (.invokevirtual 130, 3) := by decide +kernel
theorem dX11_says_56 : decode cX11_says 56 = .ok (.ireturn, 1) := by decide +kernel
theorem dX11_says_57 : decode cX11_says 57 = .ok (.aload_n 0, 1) := by decide +kernel
theorem dX11_says_58 : decode cX11_says 58 = .ok (.getfield 71, 3) := by decide +kernel
theorem dX11_says_61 : decode cX11_says 61 = .ok (.iload_n 1, 1) := by decide +kernel
theorem dX11_says_62 : decode cX11_says 62 = .ok (.iaload, 1) := by decide +kernel
theorem dX11_says_63 : decode cX11_says 63 = .ok (.istore_n 3, 1) := by decide +kernel
theorem dX11_says_64 : decode cX11_says 64 = .ok (.aload_n 0, 1) := by decide +kernel
theorem dX11_says_65 : decode cX11_says 65 = .ok (.getfield 29, 3) := by decide +kernel
theorem dX11_says_68 : decode cX11_says 68 = .ok (.iload_n 3, 1) := by decide +kernel
theorem dX11_says_69 : decode cX11_says 69 = .ok (.iaload, 1) := by decide +kernel
theorem dX11_says_70 : decode cX11_says 70 = .ok (.istore 4, 2) := by decide +kernel
theorem dX11_says_72 : decode cX11_says 72 = .ok (.iload_n 2, 1) := by decide +kernel
theorem dX11_says_73 : decode cX11_says 73 = .ok (.iconst 1, 1) := by decide +kernel
theorem dX11_says_74 : decode cX11_says 74 = .ok (.if_icmp .ne 9, 3) := by decide +kernel
theorem dX11_says_77 : decode cX11_says 77 = .ok (.iload 4, 2) := by decide +kernel
theorem dX11_says_79 : decode cX11_says 79 = .ok (.iconst 3, 1) := by decide +kernel
theorem dX11_says_80 : decode cX11_says 80 = .ok (.if_icmp .eq 26, 3) := by decide +kernel
theorem dX11_says_83 : decode cX11_says 83 = .ok (.iload_n 2, 1) := by decide +kernel
theorem dX11_says_84 : decode cX11_says 84 = .ok (.iconst 2, 1) := by decide +kernel
theorem dX11_says_85 : decode cX11_says 85 = .ok (.if_icmp .ne 9, 3) := by decide +kernel
theorem dX11_says_88 : decode cX11_says 88 = .ok (.iload 4, 2) := by decide +kernel
theorem dX11_says_90 : decode cX11_says 90 = .ok (.iconst 5, 1) := by decide +kernel
theorem dX11_says_91 : decode cX11_says 91 = .ok (.if_icmp .eq 15, 3) := by decide +kernel
theorem dX11_says_94 : decode cX11_says 94 = .ok (.iload_n 2, 1) := by decide +kernel
theorem dX11_says_95 : decode cX11_says 95 = .ok (.iconst 4, 1) := by decide +kernel
theorem dX11_says_96 : decode cX11_says 96 = .ok (.if_icmp .ne 14, 3) := by decide +kernel
theorem dX11_says_99 : decode cX11_says 99 = .ok (.iload 4, 2) := by decide +kernel
theorem dX11_says_101 : decode cX11_says 101 = .ok (.bipush 6, 2) := by decide +kernel
theorem dX11_says_103 : decode cX11_says 103 = .ok (.if_icmp .ne 7, 3) := by decide +kernel
theorem dX11_says_106 : decode cX11_says 106 = .ok (.iconst 1, 1) := by decide +kernel
theorem dX11_says_107 : decode cX11_says 107 = .ok (.goto 4, 3) := by decide +kernel
theorem dX11_says_110 : decode cX11_says 110 = .ok (.iconst 0, 1) := by decide +kernel
theorem dX11_says_111 : decode cX11_says 111 = .ok (.istore 5, 2) := by decide +kernel
theorem dX11_says_113 : decode cX11_says 113 = .ok (.iload_n 2, 1) := by decide +kernel
theorem dX11_says_114 : decode cX11_says 114 = .ok (.ifCond .eq 21, 3) := by decide +kernel
theorem dX11_says_117 : decode cX11_says 117 = .ok (.iload_n 2, 1) := by decide +kernel
theorem dX11_says_118 : decode cX11_says 118 = .ok (.iload 4, 2) := by decide +kernel
theorem dX11_says_120 : decode cX11_says 120 = .ok (.if_icmp .eq 15, 3) := by decide +kernel
theorem dX11_says_123 : decode cX11_says 123 = .ok (.iload 5, 2) := by decide +kernel
theorem dX11_says_125 : decode cX11_says 125 = .ok (.ifCond .ne 10, 3) := by decide +kernel
theorem dX11_says_128 : decode cX11_says 128 = .ok (.aload_n 0, 1) := by decide +kernel
theorem dX11_says_129 : decode cX11_says 129 = .ok (.bipush (-2), 2) := by decide +kernel
theorem dX11_says_131 : decode cX11_says 131 = .ok (.invokevirtual 130, 3) := by decide +kernel
theorem dX11_says_134 : decode cX11_says 134 = .ok (.ireturn, 1) := by decide +kernel
theorem dX11_says_135 : decode cX11_says 135 = .ok (.iload_n 2, 1) := by decide +kernel
theorem dX11_says_136 : decode cX11_says 136 = .ok (.tableswitch 70 0 6 #[44, 70, 51, 70, 58, 70, 58], 44) := by decide +kernel
theorem dX11_says_180 : decode cX11_says 180 = .ok (.aload_n 0, 1) := by decide +kernel
theorem dX11_says_181 : decode cX11_says 181 = .ok (.getfield 35, 3) := by decide +kernel
theorem dX11_says_184 : decode cX11_says 184 = .ok (.iload_n 3, 1) := by decide +kernel
theorem dX11_says_185 : decode cX11_says 185 = .ok (.iaload, 1) := by decide +kernel
theorem dX11_says_186 : decode cX11_says 186 = .ok (.ireturn, 1) := by decide +kernel
theorem dX11_says_187 : decode cX11_says 187 = .ok (.aload_n 0, 1) := by decide +kernel
theorem dX11_says_188 : decode cX11_says 188 = .ok (.getfield 38, 3) := by decide +kernel
theorem dX11_says_191 : decode cX11_says 191 = .ok (.iload_n 3, 1) := by decide +kernel
theorem dX11_says_192 : decode cX11_says 192 = .ok (.iaload, 1) := by decide +kernel
theorem dX11_says_193 : decode cX11_says 193 = .ok (.ireturn, 1) := by decide +kernel
theorem dX11_says_194 : decode cX11_says 194 = .ok (.aload_n 0, 1) := by decide +kernel
theorem dX11_says_195 : decode cX11_says 195 = .ok (.iload_n 3, 1) := by decide +kernel
theorem dX11_says_196 : decode cX11_says 196 = .ok (.aload_n 0, 1) := by decide +kernel
theorem dX11_says_197 : decode cX11_says 197 = .ok (.getfield 35, 3) := by decide +kernel
theorem dX11_says_200 : decode cX11_says 200 = .ok (.iload_n 3, 1) := by decide +kernel
theorem dX11_says_201 : decode cX11_says 201 = .ok (.iaload, 1) := by decide +kernel
theorem dX11_says_202 : decode cX11_says 202 = .ok (.invokevirtual 137, 3) := by decide +kernel
theorem dX11_says_205 : decode cX11_says 205 = .ok (.ireturn, 1) := by decide +kernel
theorem dX11_says_206 : decode cX11_says 206 = .ok (.aload_n 0, 1) := by decide +kernel
theorem dX11_says_207 : decode cX11_says 207 = .ok (.iload_n 3, 1) := by decide +kernel
theorem dX11_says_208 : decode cX11_says 208 = .ok (.invokevirtual 141, 3) := by decide +kernel
theorem dX11_says_211 : decode cX11_says 211 = .ok (.ireturn, 1) := by decide +kernel
theorem dX11_wanted_0 : decode cX11_wanted 0 = .ok (.aload_n 0, 1) := by decide +kernel
theorem dX11_wanted_1 : decode cX11_wanted 1 = .ok (.iload_n 1, 1) := by decide +kernel
theorem dX11_wanted_2 : decode cX11_wanted 2 = .ok (.invokevirtual 126, 3) := by decide +kernel
theorem dX11_wanted_5 : decode cX11_wanted 5 = .ok (.ifCond .ne 7, 3) := by decide +kernel
theorem dX11_wanted_8 : decode cX11_wanted 8 = .ok (.iconst (-1), 1) := by decide +kernel
theorem dX11_wanted_9 : decode cX11_wanted 9 = .ok (.goto 33, 3) := by decide +kernel
theorem dX11_wanted_12 : decode cX11_wanted 12 = .ok (.aload_n 0, 1) := by decide +kernel
theorem dX11_wanted_13 : decode cX11_wanted 13 = .ok (.getfield 62, 3) := by decide +kernel
theorem dX11_wanted_16 : decode cX11_wanted 16 = .ok (.iload_n 1, 1) := by decide +kernel
theorem dX11_wanted_17 : decode cX11_wanted 17 = .ok (.iaload, 1) := by decide +kernel
theorem dX11_wanted_18 : decode cX11_wanted 18 = .ok (.iconst 2, 1) := by decide +kernel
theorem dX11_wanted_19 : decode cX11_wanted 19 = .ok (.if_icmp .ne 8, 3) := by decide +kernel
theorem dX11_wanted_22 : decode cX11_wanted 22 = .ok (.bipush (-2), 2) := by decide +kernel
theorem dX11_wanted_24 : decode cX11_wanted 24 = .ok (.goto 18, 3) := by decide +kernel
theorem dX11_wanted_27 : decode cX11_wanted 27 = .ok (.aload_n 0, 1) := by decide +kernel
theorem dX11_wanted_28 : decode cX11_wanted 28 = .ok (.getfield 62, 3) := by decide +kernel
theorem dX11_wanted_31 : decode cX11_wanted 31 = .ok (.iload_n 1, 1) := by decide +kernel
theorem dX11_wanted_32 : decode cX11_wanted 32 = .ok (.iaload, 1) := by decide +kernel
theorem dX11_wanted_33 : decode cX11_wanted 33 = .ok (.ifCond .ne 8, 3) := by decide +kernel
theorem dX11_wanted_36 : decode cX11_wanted 36 = .ok (.bipush (-3), 2) := by decide +kernel
theorem dX11_wanted_38 : decode cX11_wanted 38 = .ok (.goto 4, 3) := by decide +kernel
theorem dX11_wanted_41 : decode cX11_wanted 41 = .ok (.iconst 0, 1) := by decide +kernel
theorem dX11_wanted_42 : decode cX11_wanted 42 = .ok (.ireturn, 1) := by decide +kernel
theorem dX11_intAt_0 : decode cX11_intAt 0 = .ok (.aload_n 0, 1) := by decide +kernel
theorem dX11_intAt_1 : decode cX11_intAt 1 = .ok (.getfield 74, 3) := by decide +kernel
theorem dX11_intAt_4 : decode cX11_intAt 4 = .ok (.sipush 160, 3) := by decide +kernel
theorem dX11_intAt_7 : decode cX11_intAt 7 = .ok (.iload_n 1, 1) := by decide +kernel
theorem dX11_intAt_8 : decode cX11_intAt 8 = .ok (.imul, 1) := by decide +kernel
theorem dX11_intAt_9 : decode cX11_intAt 9 = .ok (.iload_n 2, 1) := by decide +kernel
theorem dX11_intAt_10 : decode cX11_intAt 10 = .ok (.iadd, 1) := by decide +kernel
theorem dX11_intAt_11 : decode cX11_intAt 11 = .ok (.laload, 1) := by decide +kernel
theorem dX11_intAt_12 : decode cX11_intAt 12 = .ok (.l2i, 1) := by decide +kernel
theorem dX11_intAt_13 : decode cX11_intAt 13 = .ok (.ireturn, 1) := by decide +kernel
theorem dX11_addsThing_0 : decode cX11_addsThing 0 = .ok (.aload_n 0, 1) := by decide +kernel
theorem dX11_addsThing_1 : decode cX11_addsThing 1 = .ok (.getfield 29, 3) := by decide +kernel
theorem dX11_addsThing_4 : decode cX11_addsThing 4 = .ok (.aload_n 0, 1) := by decide +kernel
theorem dX11_addsThing_5 : decode cX11_addsThing 5 = .ok (.getfield 123, 3) := by decide +kernel
theorem dX11_addsThing_8 : decode cX11_addsThing 8 = .ok (.iload_n 1, 1) := by decide +kernel
theorem dX11_addsThing_9 : decode cX11_addsThing 9 = .ok (.iastore, 1) := by decide +kernel
theorem dX11_addsThing_10 : decode cX11_addsThing 10 = .ok (.aload_n 0, 1) := by decide +kernel
theorem dX11_addsThing_11 : decode cX11_addsThing 11 = .ok (.getfield 32, 3) := by decide +kernel
theorem dX11_addsThing_14 : decode cX11_addsThing 14 = .ok (.aload_n 0, 1) := by decide +kernel
theorem dX11_addsThing_15 : decode cX11_addsThing 15 = .ok (.getfield 123, 3) := by decide +kernel
theorem dX11_addsThing_18 : decode cX11_addsThing 18 = .ok (.iload_n 2, 1) := by decide +kernel
theorem dX11_addsThing_19 : decode cX11_addsThing 19 = .ok (.iastore, 1) := by decide +kernel
theorem dX11_addsThing_20 : decode cX11_addsThing 20 = .ok (.aload_n 0, 1) := by decide +kernel
theorem dX11_addsThing_21 : decode cX11_addsThing 21 = .ok (.getfield 35, 3) := by decide +kernel
theorem dX11_addsThing_24 : decode cX11_addsThing 24 = .ok (.aload_n 0, 1) := by decide +kernel
theorem dX11_addsThing_25 : decode cX11_addsThing 25 = .ok (.getfield 123, 3) := by decide +kernel
theorem dX11_addsThing_28 : decode cX11_addsThing 28 = .ok (.iload_n 3, 1) := by decide +kernel
theorem dX11_addsThing_29 : decode cX11_addsThing 29 = .ok (.iastore, 1) := by decide +kernel
theorem dX11_addsThing_30 : decode cX11_addsThing 30 = .ok (.aload_n 0, 1) := by decide +kernel
theorem dX11_addsThing_31 : decode cX11_addsThing 31 = .ok (.getfield 38, 3) := by decide +kernel
theorem dX11_addsThing_34 : decode cX11_addsThing 34 = .ok (.aload_n 0, 1) := by decide +kernel
theorem dX11_addsThing_35 : decode cX11_addsThing 35 = .ok (.getfield 123, 3) := by decide +kernel
theorem dX11_addsThing_38 : decode cX11_addsThing 38 = .ok (.iconst 1, 1) := by decide +kernel
theorem dX11_addsThing_39 : decode cX11_addsThing 39 = .ok (.iastore, 1) := by decide +kernel
theorem dX11_addsThing_40 : decode cX11_addsThing 40 = .ok (.aload_n 0, 1) := by decide +kernel
theorem dX11_addsThing_41 : decode cX11_addsThing 41 = .ok (.dup, 1) := by decide +kernel
theorem dX11_addsThing_42 : decode cX11_addsThing 42 = .ok (.getfield 123, 3) := by decide +kernel
theorem dX11_addsThing_45 : decode cX11_addsThing 45 = .ok (.dup_x1, 1) := by decide +kernel
theorem dX11_addsThing_46 : decode cX11_addsThing 46 = .ok (.iconst 1, 1) := by decide +kernel
theorem dX11_addsThing_47 : decode cX11_addsThing 47 = .ok (.iadd, 1) := by decide +kernel
theorem dX11_addsThing_48 : decode cX11_addsThing 48 = .ok (.putfield 123, 3) := by decide +kernel
theorem dX11_addsThing_51 : decode cX11_addsThing 51 = .ok (.ireturn, 1) := by decide +kernel
theorem dX11_addsNeighbour_0 : decode cX11_addsNeighbour 0 = .ok (.aload_n 0, 1) := by decide +kernel
theorem dX11_addsNeighbour_1 : decode cX11_addsNeighbour 1 = .ok (.getfield 41, 3) := by decide +kernel
theorem dX11_addsNeighbour_4 : decode cX11_addsNeighbour 4 = .ok (.aload_n 0, 1) := by decide +kernel
theorem dX11_addsNeighbour_5 : decode cX11_addsNeighbour 5 = .ok (.getfield 144, 3) := by decide +kernel
theorem dX11_addsNeighbour_8 : decode cX11_addsNeighbour 8 = .ok (.iload_n 1, 1) := by decide +kernel
theorem dX11_addsNeighbour_9 : decode cX11_addsNeighbour 9 = .ok (.iastore, 1) := by decide +kernel
theorem dX11_addsNeighbour_10 : decode cX11_addsNeighbour 10 = .ok (.aload_n 0, 1) := by decide +kernel
theorem dX11_addsNeighbour_11 : decode cX11_addsNeighbour 11 = .ok (.getfield 44, 3) := by decide +kernel
theorem dX11_addsNeighbour_14 : decode cX11_addsNeighbour 14 = .ok (.aload_n 0, 1) := by decide +kernel
theorem dX11_addsNeighbour_15 : decode cX11_addsNeighbour 15 = .ok (.getfield 144, 3) := by decide +kernel
theorem dX11_addsNeighbour_18 : decode cX11_addsNeighbour 18 = .ok (.iload_n 2, 1) := by decide +kernel
theorem dX11_addsNeighbour_19 : decode cX11_addsNeighbour 19 = .ok (.iastore, 1) := by decide +kernel
theorem dX11_addsNeighbour_20 : decode cX11_addsNeighbour 20 = .ok (.aload_n 0, 1) := by decide +kernel
theorem dX11_addsNeighbour_21 : decode cX11_addsNeighbour 21 = .ok (.dup, 1) := by decide +kernel
theorem dX11_addsNeighbour_22 : decode cX11_addsNeighbour 22 = .ok (.getfield 144, 3) := by decide +kernel
theorem dX11_addsNeighbour_25 : decode cX11_addsNeighbour 25 = .ok (.dup_x1, 1) := by decide +kernel
theorem dX11_addsNeighbour_26 : decode cX11_addsNeighbour 26 = .ok (.iconst 1, 1) := by decide +kernel
theorem dX11_addsNeighbour_27 : decode cX11_addsNeighbour 27 = .ok (.iadd, 1) := by decide +kernel
theorem dX11_addsNeighbour_28 : decode cX11_addsNeighbour 28 = .ok (.putfield 144, 3) := by decide +kernel
theorem dX11_addsNeighbour_31 : decode cX11_addsNeighbour 31 = .ok (.ireturn, 1) := by decide +kernel
theorem dX11_addsDevice_0 : decode cX11_addsDevice 0 = .ok (.aload_n 0, 1) := by decide +kernel
theorem dX11_addsDevice_1 : decode cX11_addsDevice 1 = .ok (.getfield 47, 3) := by decide +kernel
theorem dX11_addsDevice_4 : decode cX11_addsDevice 4 = .ok (.aload_n 0, 1) := by decide +kernel
theorem dX11_addsDevice_5 : decode cX11_addsDevice 5 = .ok (.getfield 147, 3) := by decide +kernel
theorem dX11_addsDevice_8 : decode cX11_addsDevice 8 = .ok (.iload_n 1, 1) := by decide +kernel
theorem dX11_addsDevice_9 : decode cX11_addsDevice 9 = .ok (.iastore, 1) := by decide +kernel
theorem dX11_addsDevice_10 : decode cX11_addsDevice 10 = .ok (.aload_n 0, 1) := by decide +kernel
theorem dX11_addsDevice_11 : decode cX11_addsDevice 11 = .ok (.getfield 50, 3) := by decide +kernel
theorem dX11_addsDevice_14 : decode cX11_addsDevice 14 = .ok (.aload_n 0, 1) := by decide +kernel
theorem dX11_addsDevice_15 : decode cX11_addsDevice 15 = .ok (.getfield 147, 3) := by decide +kernel
theorem dX11_addsDevice_18 : decode cX11_addsDevice 18 = .ok (.iload_n 2, 1) := by decide +kernel
theorem dX11_addsDevice_19 : decode cX11_addsDevice 19 = .ok (.iastore, 1) := by decide +kernel
theorem dX11_addsDevice_20 : decode cX11_addsDevice 20 = .ok (.aload_n 0, 1) := by decide +kernel
theorem dX11_addsDevice_21 : decode cX11_addsDevice 21 = .ok (.getfield 53, 3) := by decide +kernel
theorem dX11_addsDevice_24 : decode cX11_addsDevice 24 = .ok (.aload_n 0, 1) := by decide +kernel
theorem dX11_addsDevice_25 : decode cX11_addsDevice 25 = .ok (.getfield 147, 3) := by decide +kernel
theorem dX11_addsDevice_28 : decode cX11_addsDevice 28 = .ok (.iload_n 3, 1) := by decide +kernel
theorem dX11_addsDevice_29 : decode cX11_addsDevice 29 = .ok (.iastore, 1) := by decide +kernel
theorem dX11_addsDevice_30 : decode cX11_addsDevice 30 = .ok (.aload_n 0, 1) := by decide +kernel
theorem dX11_addsDevice_31 : decode cX11_addsDevice 31 = .ok (.getfield 56, 3) := by decide +kernel
theorem dX11_addsDevice_34 : decode cX11_addsDevice 34 = .ok (.aload_n 0, 1) := by decide +kernel
theorem dX11_addsDevice_35 : decode cX11_addsDevice 35 = .ok (.getfield 147, 3) := by decide +kernel
theorem dX11_addsDevice_38 : decode cX11_addsDevice 38 = .ok (.iconst 0, 1) := by decide +kernel
theorem dX11_addsDevice_39 : decode cX11_addsDevice 39 = .ok (.iastore, 1) := by decide +kernel
theorem dX11_addsDevice_40 : decode cX11_addsDevice 40 = .ok (.aload_n 0, 1) := by decide +kernel
theorem dX11_addsDevice_41 : decode cX11_addsDevice 41 = .ok (.dup, 1) := by decide +kernel
theorem dX11_addsDevice_42 : decode cX11_addsDevice 42 = .ok (.getfield 147, 3) := by decide +kernel
theorem dX11_addsDevice_45 : decode cX11_addsDevice 45 = .ok (.dup_x1, 1) := by decide +kernel
theorem dX11_addsDevice_46 : decode cX11_addsDevice 46 = .ok (.iconst 1, 1) := by decide +kernel
theorem dX11_addsDevice_47 : decode cX11_addsDevice 47 = .ok (.iadd, 1) := by decide +kernel
theorem dX11_addsDevice_48 : decode cX11_addsDevice 48 = .ok (.putfield 147, 3) := by decide +kernel
theorem dX11_addsDevice_51 : decode cX11_addsDevice 51 = .ok (.ireturn, 1) := by decide +kernel
theorem dX11_side_0 : decode cX11_side 0 = .ok (.aload_n 0, 1) := by decide +kernel
theorem dX11_side_1 : decode cX11_side 1 = .ok (.iload_n 1, 1) := by decide +kernel
theorem dX11_side_2 : decode cX11_side 2 = .ok (.aload_n 0, 1) := by decide +kernel
theorem dX11_side_3 : decode cX11_side 3 = .ok (.getfield 7, 3) := by decide +kernel
theorem dX11_side_6 : decode cX11_side 6 = .ok (.bipush 8, 2) := by decide +kernel
theorem dX11_side_8 : decode cX11_side 8 = .ok (.invokevirtual 150, 3) := by decide +kernel
theorem dX11_side_11 : decode cX11_side 11 = .ok (.ifCond .ne 10, 3) := by decide +kernel
theorem dX11_side_14 : decode cX11_side 14 = .ok (.aload_n 0, 1) := by decide +kernel
theorem dX11_side_15 : decode cX11_side 15 = .ok (.bipush (-6), 2) := by decide +kernel
theorem dX11_side_17 : decode cX11_side 17 = .ok (.invokevirtual 130, 3) := by decide +kernel
theorem dX11_side_20 : decode cX11_side 20 = .ok (.ireturn, 1) := by decide +kernel
theorem dX11_side_21 : decode cX11_side 21 = .ok (.aload_n 0, 1) := by decide +kernel
theorem dX11_side_22 : decode cX11_side 22 = .ok (.getfield 7, 3) := by decide +kernel
theorem dX11_side_25 : decode cX11_side 25 = .ok (.istore_n 2, 1) := by decide +kernel
theorem dX11_side_26 : decode cX11_side 26 = .ok (.aload_n 0, 1) := by decide +kernel
theorem dX11_side_27 : decode cX11_side 27 = .ok (.iload_n 1, 1) := by decide +kernel
theorem dX11_side_28 : decode cX11_side 28 = .ok (.putfield 7, 3) := by decide +kernel
theorem dX11_side_31 : decode cX11_side 31 = .ok (.iload_n 2, 1) := by decide +kernel
theorem dX11_side_32 : decode cX11_side 32 = .ok (.ireturn, 1) := by decide +kernel
theorem dX11_thing_0 : decode cX11_thing 0 = .ok (.iload_n 1, 1) := by decide +kernel
theorem dX11_thing_1 : decode cX11_thing 1 = .ok (.ifCond .lt 9, 3) := by decide +kernel
theorem dX11_thing_4 : decode cX11_thing 4 = .ok (.iload_n 1, 1) := by decide +kernel
theorem dX11_thing_5 : decode cX11_thing 5 = .ok (.bipush 6, 2) := by decide +kernel
theorem dX11_thing_7 : decode cX11_thing 7 = .ok (.if_icmp .le 9, 3) := by decide +kernel
theorem dX11_thing_10 : decode cX11_thing 10 = .ok (.aload_n 0, 1) := by decide +kernel
theorem dX11_thing_11 : decode cX11_thing 11 = .ok (.iconst (-1), 1) := by decide +kernel
theorem dX11_thing_12 : decode cX11_thing 12 = .ok (.invokevirtual 130, 3) := by decide +kernel
theorem dX11_thing_15 : decode cX11_thing 15 = .ok (.ireturn, 1) := by decide +kernel
theorem dX11_thing_16 : decode cX11_thing 16 = .ok (.aload_n 0, 1) := by decide +kernel
theorem dX11_thing_17 : decode cX11_thing 17 = .ok (.iload_n 2, 1) := by decide +kernel
theorem dX11_thing_18 : decode cX11_thing 18 = .ok (.iconst 0, 1) := by decide +kernel
theorem dX11_thing_19 : decode cX11_thing 19 = .ok (.bipush 9, 2) := by decide +kernel
theorem dX11_thing_21 : decode cX11_thing 21 = .ok (.invokevirtual 150, 3) := by decide +kernel
theorem dX11_thing_24 : decode cX11_thing 24 = .ok (.ifCond .eq 11, 3) := by decide +kernel
theorem dX11_thing_27 : decode cX11_thing 27 = .ok (.aload_n 0, 1) := by decide +kernel
theorem dX11_thing_28 : decode cX11_thing 28 = .ok (.iload_n 3, 1) := by decide +kernel
theorem dX11_thing_29 : decode cX11_thing 29 = .ok (.invokevirtual 154, 3) := by decide +kernel
theorem dX11_thing_32 : decode cX11_thing 32 = .ok (.ifCond .ne 10, 3) := by decide +kernel
theorem dX11_thing_35 : decode cX11_thing 35 = .ok (.aload_n 0, 1) := by decide +kernel
theorem dX11_thing_36 : decode cX11_thing 36 = .ok (.bipush (-6), 2) := by decide +kernel
theorem dX11_thing_38 : decode cX11_thing 38 = .ok (.invokevirtual 130, 3) := by decide +kernel
theorem dX11_thing_41 : decode cX11_thing 41 = .ok (.ireturn, 1) := by decide +kernel
theorem dX11_thing_42 : decode cX11_thing 42 = .ok (.aload_n 0, 1) := by decide +kernel
theorem dX11_thing_43 : decode cX11_thing 43 = .ok (.getfield 123, 3) := by decide +kernel
theorem dX11_thing_46 : decode cX11_thing 46 = .ok (.bipush 16, 2) := by decide +kernel
theorem dX11_thing_48 : decode cX11_thing 48 = .ok (.if_icmp .ne 12, 3) := by decide +kernel
theorem dX11_thing_51 : decode cX11_thing 51 = .ok (.aload_n 0, 1) := by decide +kernel
theorem dX11_thing_52 : decode cX11_thing 52 = .ok (.bipush (-7), 2) := by decide +kernel
theorem dX11_thing_54 : decode cX11_thing 54 = .ok (.invokevirtual 130, 3) := by decide +kernel
theorem dX11_thing_57 : decode cX11_thing 57 = .ok (.goto 10, 3) := by decide +kernel
theorem dX11_thing_60 : decode cX11_thing 60 = .ok (.aload_n 0, 1) := by decide +kernel
theorem dX11_thing_61 : decode cX11_thing 61 = .ok (.iload_n 1, 1) := by decide +kernel
theorem dX11_thing_62 : decode cX11_thing 62 = .ok (.iload_n 2, 1) := by decide +kernel
theorem dX11_thing_63 : decode cX11_thing 63 = .ok (.iload_n 3, 1) := by decide +kernel
theorem dX11_thing_64 : decode cX11_thing 64 = .ok (.invokevirtual 157, 3) := by decide +kernel
theorem dX11_thing_67 : decode cX11_thing 67 = .ok (.ireturn, 1) := by decide +kernel
theorem dX11_neighbour_0 : decode cX11_neighbour 0 = .ok (.aload_n 0, 1) := by decide +kernel
theorem dX11_neighbour_1 : decode cX11_neighbour 1 = .ok (.iload_n 1, 1) := by decide +kernel
theorem dX11_neighbour_2 : decode cX11_neighbour 2 = .ok (.iconst 1, 1) := by decide +kernel
theorem dX11_neighbour_3 : decode cX11_neighbour 3 = .ok (.bipush 13, 2) := by decide +kernel
theorem dX11_neighbour_5 : decode cX11_neighbour 5 = .ok (.invokevirtual 150, 3) := by decide +kernel
theorem dX11_neighbour_8 : decode cX11_neighbour 8 = .ok (.ifCond .eq 14, 3) := by decide +kernel
theorem dX11_neighbour_11 : decode cX11_neighbour 11 = .ok (.aload_n 0, 1) := by decide +kernel
theorem dX11_neighbour_12 : decode cX11_neighbour 12 = .ok (.iload_n 2, 1) := by decide +kernel
theorem dX11_neighbour_13 : decode cX11_neighbour 13 = .ok (.iconst 0, 1) := by decide +kernel
theorem dX11_neighbour_14 : decode cX11_neighbour 14 = .ok (.bipush 20, 2) := by decide +kernel
theorem dX11_neighbour_16 : decode cX11_neighbour 16 = .ok (.invokevirtual 150, 3) := by decide +kernel
theorem dX11_neighbour_19 : decode cX11_neighbour 19 = .ok (.ifCond .ne 10, 3) := by decide +kernel
theorem dX11_neighbour_22 : decode cX11_neighbour 22 = .ok (.aload_n 0, 1) := by decide +kernel
theorem dX11_neighbour_23 : decode cX11_neighbour 23 = .ok (.bipush (-6), 2) := by decide +kernel
theorem dX11_neighbour_25 : decode cX11_neighbour 25 = .ok (.invokevirtual 130, 3) := by decide +kernel
theorem dX11_neighbour_28 : decode cX11_neighbour 28 = .ok (.ireturn, 1) := by decide +kernel
theorem dX11_neighbour_29 : decode cX11_neighbour 29 = .ok (.aload_n 0, 1) := by decide +kernel
theorem dX11_neighbour_30 : decode cX11_neighbour 30 = .ok (.getfield 144, 3) := by decide +kernel
theorem dX11_neighbour_33 : decode cX11_neighbour 33 = .ok (.bipush 8, 2) := by decide +kernel
theorem dX11_neighbour_35 : decode cX11_neighbour 35 = .ok (.if_icmp .ne 12, 3) := by decide +kernel
theorem dX11_neighbour_38 : decode cX11_neighbour 38 = .ok (.aload_n 0, 1) := by decide +kernel
theorem dX11_neighbour_39 : decode cX11_neighbour 39 = .ok (.bipush (-7), 2) := by decide +kernel
theorem dX11_neighbour_41 : decode cX11_neighbour 41 = .ok (.invokevirtual 130, 3) := by decide +kernel
theorem dX11_neighbour_44 : decode cX11_neighbour 44 = .ok (.goto 9, 3) := by decide +kernel
theorem dX11_neighbour_47 : decode cX11_neighbour 47 = .ok (.aload_n 0, 1) := by decide +kernel
theorem dX11_neighbour_48 : decode cX11_neighbour 48 = .ok (.iload_n 1, 1) := by decide +kernel
theorem dX11_neighbour_49 : decode cX11_neighbour 49 = .ok (.iload_n 2, 1) := by decide +kernel
theorem dX11_neighbour_50 : decode cX11_neighbour 50 = .ok (.invokevirtual 161, 3) := by decide +kernel
theorem dX11_neighbour_53 : decode cX11_neighbour 53 = .ok (.ireturn, 1) := by decide +kernel
theorem dX11_device_0 : decode cX11_device 0 = .ok (.aload_n 0, 1) := by decide +kernel
theorem dX11_device_1 : decode cX11_device 1 = .ok (.iload_n 1, 1) := by decide +kernel
theorem dX11_device_2 : decode cX11_device 2 = .ok (.invokevirtual 154, 3) := by decide +kernel
theorem dX11_device_5 : decode cX11_device 5 = .ok (.ifCond .eq 24, 3) := by decide +kernel
theorem dX11_device_8 : decode cX11_device 8 = .ok (.aload_n 0, 1) := by decide +kernel
theorem dX11_device_9 : decode cX11_device 9 = .ok (.iload_n 2, 1) := by decide +kernel
theorem dX11_device_10 : decode cX11_device 10 = .ok (.iconst 1, 1) := by decide +kernel
theorem dX11_device_11 : decode cX11_device 11 = .ok (.iconst 5, 1) := by decide +kernel
theorem dX11_device_12 : decode cX11_device 12 = .ok (.invokevirtual 150, 3) := by decide +kernel
theorem dX11_device_15 : decode cX11_device 15 = .ok (.ifCond .eq 14, 3) := by decide +kernel
theorem dX11_device_18 : decode cX11_device 18 = .ok (.aload_n 0, 1) := by decide +kernel
theorem dX11_device_19 : decode cX11_device 19 = .ok (.iload_n 3, 1) := by decide +kernel
theorem dX11_device_20 : decode cX11_device 20 = .ok (.iconst 1, 1) := by decide +kernel
theorem dX11_device_21 : decode cX11_device 21 = .ok (.bipush 99, 2) := by decide +kernel
theorem dX11_device_23 : decode cX11_device 23 = .ok (.invokevirtual 150, 3) := by decide +kernel
theorem dX11_device_26 : decode cX11_device 26 = .ok (.ifCond .ne 10, 3) := by decide +kernel
theorem dX11_device_29 : decode cX11_device 29 = .ok (.aload_n 0, 1) := by decide +kernel
theorem dX11_device_30 : decode cX11_device 30 = .ok (.bipush (-6), 2) := by decide +kernel
theorem dX11_device_32 : decode cX11_device 32 = .ok (.invokevirtual 130, 3) := by decide +kernel
theorem dX11_device_35 : decode cX11_device 35 = .ok (.ireturn, 1) := by decide +kernel
theorem dX11_device_36 : decode cX11_device 36 = .ok (.aload_n 0, 1) := by decide +kernel
theorem dX11_device_37 : decode cX11_device 37 = .ok (.getfield 147, 3) := by decide +kernel
theorem dX11_device_40 : decode cX11_device 40 = .ok (.bipush 6, 2) := by decide +kernel
theorem dX11_device_42 : decode cX11_device 42 = .ok (.if_icmp .ne 12, 3) := by decide +kernel
theorem dX11_device_45 : decode cX11_device 45 = .ok (.aload_n 0, 1) := by decide +kernel
theorem dX11_device_46 : decode cX11_device 46 = .ok (.bipush (-7), 2) := by decide +kernel
theorem dX11_device_48 : decode cX11_device 48 = .ok (.invokevirtual 130, 3) := by decide +kernel
theorem dX11_device_51 : decode cX11_device 51 = .ok (.goto 10, 3) := by decide +kernel
theorem dX11_device_54 : decode cX11_device 54 = .ok (.aload_n 0, 1) := by decide +kernel
theorem dX11_device_55 : decode cX11_device 55 = .ok (.iload_n 1, 1) := by decide +kernel
theorem dX11_device_56 : decode cX11_device 56 = .ok (.iload_n 2, 1) := by decide +kernel
theorem dX11_device_57 : decode cX11_device 57 = .ok (.iload_n 3, 1) := by decide +kernel
theorem dX11_device_58 : decode cX11_device 58 = .ok (.invokevirtual 164, 3) := by decide +kernel
theorem dX11_device_61 : decode cX11_device 61 = .ok (.ireturn, 1) := by decide +kernel
theorem dX11_box_0 : decode cX11_box 0 = .ok (.iload_n 1, 1) := by decide +kernel
theorem dX11_box_1 : decode cX11_box 1 = .ok (.ifCond .lt 26, 3) := by decide +kernel
theorem dX11_box_4 : decode cX11_box 4 = .ok (.iload_n 1, 1) := by decide +kernel
theorem dX11_box_5 : decode cX11_box 5 = .ok (.iconst 1, 1) := by decide +kernel
theorem dX11_box_6 : decode cX11_box 6 = .ok (.if_icmp .gt 21, 3) := by decide +kernel
theorem dX11_box_9 : decode cX11_box 9 = .ok (.aload_n 0, 1) := by decide +kernel
theorem dX11_box_10 : decode cX11_box 10 = .ok (.iload_n 2, 1) := by decide +kernel
theorem dX11_box_11 : decode cX11_box 11 = .ok (.invokevirtual 154, 3) := by decide +kernel
theorem dX11_box_14 : decode cX11_box 14 = .ok (.ifCond .ne 20, 3) := by decide +kernel
theorem dX11_box_17 : decode cX11_box 17 = .ok (.iload_n 1, 1) := by decide +kernel
theorem dX11_box_18 : decode cX11_box 18 = .ok (.iconst 1, 1) := by decide +kernel
theorem dX11_box_19 : decode cX11_box 19 = .ok (.if_icmp .ne 8, 3) := by decide +kernel
theorem dX11_box_22 : decode cX11_box 22 = .ok (.iload_n 2, 1) := by decide +kernel
theorem dX11_box_23 : decode cX11_box 23 = .ok (.iconst (-1), 1) := by decide +kernel
theorem dX11_box_24 : decode cX11_box 24 = .ok (.if_icmp .eq 10, 3) := by decide +kernel
theorem dX11_box_27 : decode cX11_box 27 = .ok (.aload_n 0, 1) := by decide +kernel
theorem dX11_box_28 : decode cX11_box 28 = .ok (.bipush (-6), 2) := by decide +kernel
theorem dX11_box_30 : decode cX11_box 30 = .ok (.invokevirtual 167, 3) := by decide +kernel
theorem dX11_box_33 : decode cX11_box 33 = .ok (.ireturn, 1) := by decide +kernel
theorem dX11_box_34 : decode cX11_box 34 = .ok (.aload_n 0, 1) := by decide +kernel
theorem dX11_box_35 : decode cX11_box 35 = .ok (.getfield 59, 3) := by decide +kernel
theorem dX11_box_38 : decode cX11_box 38 = .ok (.iload_n 1, 1) := by decide +kernel
theorem dX11_box_39 : decode cX11_box 39 = .ok (.iaload, 1) := by decide +kernel
theorem dX11_box_40 : decode cX11_box 40 = .ok (.istore_n 3, 1) := by decide +kernel
theorem dX11_box_41 : decode cX11_box 41 = .ok (.aload_n 0, 1) := by decide +kernel
theorem dX11_box_42 : decode cX11_box 42 = .ok (.getfield 59, 3) := by decide +kernel
theorem dX11_box_45 : decode cX11_box 45 = .ok (.iload_n 1, 1) := by decide +kernel
theorem dX11_box_46 : decode cX11_box 46 = .ok (.iload_n 2, 1) := by decide +kernel
theorem dX11_box_47 : decode cX11_box 47 = .ok (.iastore, 1) := by decide +kernel
theorem dX11_box_48 : decode cX11_box 48 = .ok (.iload_n 3, 1) := by decide +kernel
theorem dX11_box_49 : decode cX11_box 49 = .ok (.ireturn, 1) := by decide +kernel
theorem dX11_isAsked_0 : decode cX11_isAsked 0 = .ok (.iload_n 1, 1) := by decide +kernel
theorem dX11_isAsked_1 : decode cX11_isAsked 1 = .ok (.ifCond .ne 15, 3) := by decide +kernel
theorem dX11_isAsked_4 : decode cX11_isAsked 4 = .ok (.aload_n 0, 1) := by decide +kernel
theorem dX11_isAsked_5 : decode cX11_isAsked 5 = .ok (.iload_n 2, 1) := by decide +kernel
theorem dX11_isAsked_6 : decode cX11_isAsked 6 = .ok (.bipush 10, 2) := by decide +kernel
theorem dX11_isAsked_8 : decode cX11_isAsked 8 = .ok (.bipush 60, 2) := by decide +kernel
theorem dX11_isAsked_10 : decode cX11_isAsked 10 = .ok (.invokevirtual 150, 3) := by decide +kernel
theorem dX11_isAsked_13 : decode cX11_isAsked 13 = .ok (.goto 27, 3) := by decide +kernel
theorem dX11_isAsked_16 : decode cX11_isAsked 16 = .ok (.iload_n 1, 1) := by decide +kernel
theorem dX11_isAsked_17 : decode cX11_isAsked 17 = .ok (.iconst 1, 1) := by decide +kernel
theorem dX11_isAsked_18 : decode cX11_isAsked 18 = .ok (.if_icmp .ne 14, 3) := by decide +kernel
theorem dX11_isAsked_21 : decode cX11_isAsked 21 = .ok (.aload_n 0, 1) := by decide +kernel
theorem dX11_isAsked_22 : decode cX11_isAsked 22 = .ok (.iload_n 2, 1) := by decide +kernel
theorem dX11_isAsked_23 : decode cX11_isAsked 23 = .ok (.iconst 1, 1) := by decide +kernel
theorem dX11_isAsked_24 : decode cX11_isAsked 24 = .ok (.bipush 13, 2) := by decide +kernel
theorem dX11_isAsked_26 : decode cX11_isAsked 26 = .ok (.invokevirtual 150, 3) := by decide +kernel
theorem dX11_isAsked_29 : decode cX11_isAsked 29 = .ok (.goto 11, 3) := by decide +kernel
theorem dX11_isAsked_32 : decode cX11_isAsked 32 = .ok (.aload_n 0, 1) := by decide +kernel
theorem dX11_isAsked_33 : decode cX11_isAsked 33 = .ok (.iload_n 2, 1) := by decide +kernel
theorem dX11_isAsked_34 : decode cX11_isAsked 34 = .ok (.iconst 0, 1) := by decide +kernel
theorem dX11_isAsked_35 : decode cX11_isAsked 35 = .ok (.bipush 59, 2) := by decide +kernel
theorem dX11_isAsked_37 : decode cX11_isAsked 37 = .ok (.invokevirtual 150, 3) := by decide +kernel
theorem dX11_isAsked_40 : decode cX11_isAsked 40 = .ok (.ireturn, 1) := by decide +kernel
theorem dX11_tells_0 : decode cX11_tells 0 = .ok (.iload_n 1, 1) := by decide +kernel
theorem dX11_tells_1 : decode cX11_tells 1 = .ok (.ifCond .ne 11, 3) := by decide +kernel
theorem dX11_tells_4 : decode cX11_tells 4 = .ok (.aload_n 0, 1) := by decide +kernel
theorem dX11_tells_5 : decode cX11_tells 5 = .ok (.iload_n 2, 1) := by decide +kernel
theorem dX11_tells_6 : decode cX11_tells 6 = .ok (.putfield 13, 3) := by decide +kernel
theorem dX11_tells_9 : decode cX11_tells 9 = .ok (.goto 21, 3) := by decide +kernel
theorem dX11_tells_12 : decode cX11_tells 12 = .ok (.iload_n 1, 1) := by decide +kernel
theorem dX11_tells_13 : decode cX11_tells 13 = .ok (.iconst 1, 1) := by decide +kernel
theorem dX11_tells_14 : decode cX11_tells 14 = .ok (.if_icmp .ne 11, 3) := by decide +kernel
theorem dX11_tells_17 : decode cX11_tells 17 = .ok (.aload_n 0, 1) := by decide +kernel
theorem dX11_tells_18 : decode cX11_tells 18 = .ok (.iload_n 2, 1) := by decide +kernel
theorem dX11_tells_19 : decode cX11_tells 19 = .ok (.putfield 16, 3) := by decide +kernel
theorem dX11_tells_22 : decode cX11_tells 22 = .ok (.goto 8, 3) := by decide +kernel
theorem dX11_tells_25 : decode cX11_tells 25 = .ok (.aload_n 0, 1) := by decide +kernel
theorem dX11_tells_26 : decode cX11_tells 26 = .ok (.iload_n 2, 1) := by decide +kernel
theorem dX11_tells_27 : decode cX11_tells 27 = .ok (.putfield 170, 3) := by decide +kernel
theorem dX11_tells_30 : decode cX11_tells 30 = .ok (.return_, 1) := by decide +kernel
theorem dX11_ask_0 : decode cX11_ask 0 = .ok (.iload_n 1, 1) := by decide +kernel
theorem dX11_ask_1 : decode cX11_ask 1 = .ok (.ifCond .lt 17, 3) := by decide +kernel
theorem dX11_ask_4 : decode cX11_ask 4 = .ok (.iload_n 1, 1) := by decide +kernel
theorem dX11_ask_5 : decode cX11_ask 5 = .ok (.iconst 2, 1) := by decide +kernel
theorem dX11_ask_6 : decode cX11_ask 6 = .ok (.if_icmp .gt 12, 3) := by decide +kernel
theorem dX11_ask_9 : decode cX11_ask 9 = .ok (.aload_n 0, 1) := by decide +kernel
theorem dX11_ask_10 : decode cX11_ask 10 = .ok (.iload_n 1, 1) := by decide +kernel
theorem dX11_ask_11 : decode cX11_ask 11 = .ok (.iload_n 2, 1) := by decide +kernel
theorem dX11_ask_12 : decode cX11_ask 12 = .ok (.invokevirtual 173, 3) := by decide +kernel
theorem dX11_ask_15 : decode cX11_ask 15 = .ok (.ifCond .ne 10, 3) := by decide +kernel
theorem dX11_ask_18 : decode cX11_ask 18 = .ok (.aload_n 0, 1) := by decide +kernel
theorem dX11_ask_19 : decode cX11_ask 19 = .ok (.bipush (-6), 2) := by decide +kernel
theorem dX11_ask_21 : decode cX11_ask 21 = .ok (.invokevirtual 130, 3) := by decide +kernel
theorem dX11_ask_24 : decode cX11_ask 24 = .ok (.ireturn, 1) := by decide +kernel
theorem dX11_ask_25 : decode cX11_ask 25 = .ok (.iload_n 1, 1) := by decide +kernel
theorem dX11_ask_26 : decode cX11_ask 26 = .ok (.ifCond .ne 10, 3) := by decide +kernel
theorem dX11_ask_29 : decode cX11_ask 29 = .ok (.aload_n 0, 1) := by decide +kernel
theorem dX11_ask_30 : decode cX11_ask 30 = .ok (.getfield 13, 3) := by decide +kernel
theorem dX11_ask_33 : decode cX11_ask 33 = .ok (.goto 19, 3) := by decide +kernel
theorem dX11_ask_36 : decode cX11_ask 36 = .ok (.iload_n 1, 1) := by decide +kernel
theorem dX11_ask_37 : decode cX11_ask 37 = .ok (.iconst 1, 1) := by decide +kernel
theorem dX11_ask_38 : decode cX11_ask 38 = .ok (.if_icmp .ne 10, 3) := by decide +kernel
theorem dX11_ask_41 : decode cX11_ask 41 = .ok (.aload_n 0, 1) := by decide +kernel
theorem dX11_ask_42 : decode cX11_ask 42 = .ok (.getfield 16, 3) := by decide +kernel
theorem dX11_ask_45 : decode cX11_ask 45 = .ok (.goto 7, 3) := by decide +kernel
theorem dX11_ask_48 : decode cX11_ask 48 = .ok (.aload_n 0, 1) := by decide +kernel
theorem dX11_ask_49 : decode cX11_ask 49 = .ok (.getfield 170, 3) := by decide +kernel
theorem dX11_ask_52 : decode cX11_ask 52 = .ok (.istore_n 3, 1) := by decide +kernel
theorem dX11_ask_53 : decode cX11_ask 53 = .ok (.aload_n 0, 1) := by decide +kernel
theorem dX11_ask_54 : decode cX11_ask 54 = .ok (.iload_n 1, 1) := by decide +kernel
theorem dX11_ask_55 : decode cX11_ask 55 = .ok (.iload_n 2, 1) := by decide +kernel
theorem dX11_ask_56 : decode cX11_ask 56 = .ok (.invokevirtual 177, 3) := by decide +kernel
theorem dX11_ask_59 : decode cX11_ask 59 = .ok (.iload_n 3, 1) := by decide +kernel
theorem dX11_ask_60 : decode cX11_ask 60 = .ok (.ireturn, 1) := by decide +kernel
theorem dX11_shut_0 : decode cX11_shut 0 = .ok (.aload_n 0, 1) := by decide +kernel
theorem dX11_shut_1 : decode cX11_shut 1 = .ok (.iload_n 1, 1) := by decide +kernel
theorem dX11_shut_2 : decode cX11_shut 2 = .ok (.invokevirtual 134, 3) := by decide +kernel
theorem dX11_shut_5 : decode cX11_shut 5 = .ok (.ifCond .ne 9, 3) := by decide +kernel
theorem dX11_shut_8 : decode cX11_shut 8 = .ok (.aload_n 0, 1) := by decide +kernel
theorem dX11_shut_9 : decode cX11_shut 9 = .ok (.iconst (-1), 1) := by decide +kernel
theorem dX11_shut_10 : decode cX11_shut 10 = .ok (.invokevirtual 130, 3) := by decide +kernel
theorem dX11_shut_13 : decode cX11_shut 13 = .ok (.ireturn, 1) := by decide +kernel
theorem dX11_shut_14 : decode cX11_shut 14 = .ok (.aload_n 0, 1) := by decide +kernel
theorem dX11_shut_15 : decode cX11_shut 15 = .ok (.getfield 38, 3) := by decide +kernel
theorem dX11_shut_18 : decode cX11_shut 18 = .ok (.iload_n 1, 1) := by decide +kernel
theorem dX11_shut_19 : decode cX11_shut 19 = .ok (.iaload, 1) := by decide +kernel
theorem dX11_shut_20 : decode cX11_shut 20 = .ok (.istore_n 3, 1) := by decide +kernel
theorem dX11_shut_21 : decode cX11_shut 21 = .ok (.aload_n 0, 1) := by decide +kernel
theorem dX11_shut_22 : decode cX11_shut 22 = .ok (.getfield 38, 3) := by decide +kernel
theorem dX11_shut_25 : decode cX11_shut 25 = .ok (.iload_n 1, 1) := by decide +kernel
theorem dX11_shut_26 : decode cX11_shut 26 = .ok (.iload_n 2, 1) := by decide +kernel
theorem dX11_shut_27 : decode cX11_shut 27 = .ok (.ifCond .eq 7, 3) := by decide +kernel
theorem dX11_shut_30 : decode cX11_shut 30 = .ok (.iconst 1, 1) := by decide +kernel
theorem dX11_shut_31 : decode cX11_shut 31 = .ok (.goto 4, 3) := by decide +kernel
theorem dX11_shut_34 : decode cX11_shut 34 = .ok (.iconst 0, 1) := by decide +kernel
theorem dX11_shut_35 : decode cX11_shut 35 = .ok (.iastore, 1) := by decide +kernel
theorem dX11_shut_36 : decode cX11_shut 36 = .ok (.iload_n 3, 1) := by decide +kernel
theorem dX11_shut_37 : decode cX11_shut 37 = .ok (.ireturn, 1) := by decide +kernel
theorem dX11_move_0 : decode cX11_move 0 = .ok (.aload_n 0, 1) := by decide +kernel
theorem dX11_move_1 : decode cX11_move 1 = .ok (.iload_n 1, 1) := by decide +kernel
theorem dX11_move_2 : decode cX11_move 2 = .ok (.invokevirtual 134, 3) := by decide +kernel
theorem dX11_move_5 : decode cX11_move 5 = .ok (.ifCond .ne 9, 3) := by decide +kernel
theorem dX11_move_8 : decode cX11_move 8 = .ok (.aload_n 0, 1) := by decide +kernel
theorem dX11_move_9 : decode cX11_move 9 = .ok (.iconst (-1), 1) := by decide +kernel
theorem dX11_move_10 : decode cX11_move 10 = .ok (.invokevirtual 130, 3) := by decide +kernel
theorem dX11_move_13 : decode cX11_move 13 = .ok (.ireturn, 1) := by decide +kernel
theorem dX11_move_14 : decode cX11_move 14 = .ok (.aload_n 0, 1) := by decide +kernel
theorem dX11_move_15 : decode cX11_move 15 = .ok (.iload_n 2, 1) := by decide +kernel
theorem dX11_move_16 : decode cX11_move 16 = .ok (.invokevirtual 154, 3) := by decide +kernel
theorem dX11_move_19 : decode cX11_move 19 = .ok (.ifCond .ne 10, 3) := by decide +kernel
theorem dX11_move_22 : decode cX11_move 22 = .ok (.aload_n 0, 1) := by decide +kernel
theorem dX11_move_23 : decode cX11_move 23 = .ok (.bipush (-6), 2) := by decide +kernel
theorem dX11_move_25 : decode cX11_move 25 = .ok (.invokevirtual 130, 3) := by decide +kernel
theorem dX11_move_28 : decode cX11_move 28 = .ok (.ireturn, 1) := by decide +kernel
theorem dX11_move_29 : decode cX11_move 29 = .ok (.aload_n 0, 1) := by decide +kernel
theorem dX11_move_30 : decode cX11_move 30 = .ok (.getfield 35, 3) := by decide +kernel
theorem dX11_move_33 : decode cX11_move 33 = .ok (.iload_n 1, 1) := by decide +kernel
theorem dX11_move_34 : decode cX11_move 34 = .ok (.iaload, 1) := by decide +kernel
theorem dX11_move_35 : decode cX11_move 35 = .ok (.istore_n 3, 1) := by decide +kernel
theorem dX11_move_36 : decode cX11_move 36 = .ok (.aload_n 0, 1) := by decide +kernel
theorem dX11_move_37 : decode cX11_move 37 = .ok (.getfield 35, 3) := by decide +kernel
theorem dX11_move_40 : decode cX11_move 40 = .ok (.iload_n 1, 1) := by decide +kernel
theorem dX11_move_41 : decode cX11_move 41 = .ok (.iload_n 2, 1) := by decide +kernel
theorem dX11_move_42 : decode cX11_move 42 = .ok (.iastore, 1) := by decide +kernel
theorem dX11_move_43 : decode cX11_move 43 = .ok (.iload_n 3, 1) := by decide +kernel
theorem dX11_move_44 : decode cX11_move 44 = .ok (.ireturn, 1) := by decide +kernel
theorem dX11_thingOf_0 : decode cX11_thingOf 0 = .ok (.aload_n 0, 1) := by decide +kernel
theorem dX11_thingOf_1 : decode cX11_thingOf 1 = .ok (.iload_n 1, 1) := by decide +kernel
theorem dX11_thingOf_2 : decode cX11_thingOf 2 = .ok (.invokevirtual 134, 3) := by decide +kernel
theorem dX11_thingOf_5 : decode cX11_thingOf 5 = .ok (.ifCond .ne 10, 3) := by decide +kernel
theorem dX11_thingOf_8 : decode cX11_thingOf 8 = .ok (.aload_n 0, 1) := by decide +kernel
theorem dX11_thingOf_9 : decode cX11_thingOf 9 = .ok (.bipush (-5), 2) := by decide +kernel
theorem dX11_thingOf_11 : decode cX11_thingOf 11 = .ok (.invokevirtual 130, 3) := by decide +kernel
theorem dX11_thingOf_14 : decode cX11_thingOf 14 = .ok (.ireturn, 1) := by decide +kernel
theorem dX11_thingOf_15 : decode cX11_thingOf 15 = .ok (.iload_n 2, 1) := by decide +kernel
theorem dX11_thingOf_16 : decode cX11_thingOf 16 = .ok (.tableswitch 70 0 4 #[36, 43, 50, 57, 64], 36) := by decide +kernel
theorem dX11_thingOf_52 : decode cX11_thingOf 52 = .ok (.aload_n 0, 1) := by decide +kernel
theorem dX11_thingOf_53 : decode cX11_thingOf 53 = .ok (.getfield 29, 3) := by decide +kernel
theorem dX11_thingOf_56 : decode cX11_thingOf 56 = .ok (.iload_n 1, 1) := by decide +kernel
theorem dX11_thingOf_57 : decode cX11_thingOf 57 = .ok (.iaload, 1) := by decide +kernel
theorem dX11_thingOf_58 : decode cX11_thingOf 58 = .ok (.ireturn, 1) := by decide +kernel
theorem dX11_thingOf_59 : decode cX11_thingOf 59 = .ok (.aload_n 0, 1) := by decide +kernel
theorem dX11_thingOf_60 : decode cX11_thingOf 60 = .ok (.getfield 32, 3) := by decide +kernel
theorem dX11_thingOf_63 : decode cX11_thingOf 63 = .ok (.iload_n 1, 1) := by decide +kernel
theorem dX11_thingOf_64 : decode cX11_thingOf 64 = .ok (.iaload, 1) := by decide +kernel
theorem dX11_thingOf_65 : decode cX11_thingOf 65 = .ok (.ireturn, 1) := by decide +kernel
theorem dX11_thingOf_66 : decode cX11_thingOf 66 = .ok (.aload_n 0, 1) := by decide +kernel
theorem dX11_thingOf_67 : decode cX11_thingOf 67 = .ok (.getfield 35, 3) := by decide +kernel
theorem dX11_thingOf_70 : decode cX11_thingOf 70 = .ok (.iload_n 1, 1) := by decide +kernel
theorem dX11_thingOf_71 : decode cX11_thingOf 71 = .ok (.iaload, 1) := by decide +kernel
theorem dX11_thingOf_72 : decode cX11_thingOf 72 = .ok (.ireturn, 1) := by decide +kernel
theorem dX11_thingOf_73 : decode cX11_thingOf 73 = .ok (.aload_n 0, 1) := by decide +kernel
theorem dX11_thingOf_74 : decode cX11_thingOf 74 = .ok (.getfield 38, 3) := by decide +kernel
theorem dX11_thingOf_77 : decode cX11_thingOf 77 = .ok (.iload_n 1, 1) := by decide +kernel
theorem dX11_thingOf_78 : decode cX11_thingOf 78 = .ok (.iaload, 1) := by decide +kernel
theorem dX11_thingOf_79 : decode cX11_thingOf 79 = .ok (.ireturn, 1) := by decide +kernel
theorem dX11_thingOf_80 : decode cX11_thingOf 80 = .ok (.aload_n 0, 1) := by decide +kernel
theorem dX11_thingOf_81 : decode cX11_thingOf 81 = .ok (.iload_n 1, 1) := by decide +kernel
theorem dX11_thingOf_82 : decode cX11_thingOf 82 = .ok (.invokevirtual 141, 3) := by decide +kernel
theorem dX11_thingOf_85 : decode cX11_thingOf 85 = .ok (.ireturn, 1) := by decide +kernel
theorem dX11_thingOf_86 : decode cX11_thingOf 86 = .ok (.aload_n 0, 1) := by decide +kernel
theorem dX11_thingOf_87 : decode cX11_thingOf 87 = .ok (.bipush (-5), 2) := by decide +kernel
theorem dX11_thingOf_89 : decode cX11_thingOf 89 = .ok (.invokevirtual 130, 3) := by decide +kernel
theorem dX11_thingOf_92 : decode cX11_thingOf 92 = .ok (.ireturn, 1) := by decide +kernel
theorem dX11_deviceOf_0 : decode cX11_deviceOf 0 = .ok (.iload_n 1, 1) := by decide +kernel
theorem dX11_deviceOf_1 : decode cX11_deviceOf 1 = .ok (.ifCond .lt 11, 3) := by decide +kernel
theorem dX11_deviceOf_4 : decode cX11_deviceOf 4 = .ok (.iload_n 1, 1) := by decide +kernel
theorem dX11_deviceOf_5 : decode cX11_deviceOf 5 = .ok (.aload_n 0, 1) := by decide +kernel
theorem dX11_deviceOf_6 : decode cX11_deviceOf 6 = .ok (.getfield 147, 3) := by decide +kernel
theorem dX11_deviceOf_9 : decode cX11_deviceOf 9 = .ok (.if_icmp .lt 10, 3) := by decide +kernel
theorem dX11_deviceOf_12 : decode cX11_deviceOf 12 = .ok (.aload_n 0, 1) := by decide +kernel
theorem dX11_deviceOf_13 : decode cX11_deviceOf 13 = .ok (.bipush (-5), 2) := by decide +kernel
theorem dX11_deviceOf_15 : decode cX11_deviceOf 15 = .ok (.invokevirtual 130, 3) := by decide +kernel
theorem dX11_deviceOf_18 : decode cX11_deviceOf 18 = .ok (.ireturn, 1) := by decide +kernel
theorem dX11_deviceOf_19 : decode cX11_deviceOf 19 = .ok (.iload_n 2, 1) := by decide +kernel
theorem dX11_deviceOf_20 : decode cX11_deviceOf 20 = .ok (.tableswitch 104 0 5 #[40, 47, 54, 61, 68, 89], 40) := by decide +kernel
theorem dX11_deviceOf_60 : decode cX11_deviceOf 60 = .ok (.aload_n 0, 1) := by decide +kernel
theorem dX11_deviceOf_61 : decode cX11_deviceOf 61 = .ok (.getfield 47, 3) := by decide +kernel
theorem dX11_deviceOf_64 : decode cX11_deviceOf 64 = .ok (.iload_n 1, 1) := by decide +kernel
theorem dX11_deviceOf_65 : decode cX11_deviceOf 65 = .ok (.iaload, 1) := by decide +kernel
theorem dX11_deviceOf_66 : decode cX11_deviceOf 66 = .ok (.ireturn, 1) := by decide +kernel
theorem dX11_deviceOf_67 : decode cX11_deviceOf 67 = .ok (.aload_n 0, 1) := by decide +kernel
theorem dX11_deviceOf_68 : decode cX11_deviceOf 68 = .ok (.getfield 50, 3) := by decide +kernel
theorem dX11_deviceOf_71 : decode cX11_deviceOf 71 = .ok (.iload_n 1, 1) := by decide +kernel
theorem dX11_deviceOf_72 : decode cX11_deviceOf 72 = .ok (.iaload, 1) := by decide +kernel
theorem dX11_deviceOf_73 : decode cX11_deviceOf 73 = .ok (.ireturn, 1) := by decide +kernel
theorem dX11_deviceOf_74 : decode cX11_deviceOf 74 = .ok (.aload_n 0, 1) := by decide +kernel
theorem dX11_deviceOf_75 : decode cX11_deviceOf 75 = .ok (.getfield 53, 3) := by decide +kernel
theorem dX11_deviceOf_78 : decode cX11_deviceOf 78 = .ok (.iload_n 1, 1) := by decide +kernel
theorem dX11_deviceOf_79 : decode cX11_deviceOf 79 = .ok (.iaload, 1) := by decide +kernel
theorem dX11_deviceOf_80 : decode cX11_deviceOf 80 = .ok (.ireturn, 1) := by decide +kernel
theorem dX11_deviceOf_81 : decode cX11_deviceOf 81 = .ok (.aload_n 0, 1) := by decide +kernel
theorem dX11_deviceOf_82 : decode cX11_deviceOf 82 = .ok (.getfield 56, 3) := by decide +kernel
theorem dX11_deviceOf_85 : decode cX11_deviceOf 85 = .ok (.iload_n 1, 1) := by decide +kernel
theorem dX11_deviceOf_86 : decode cX11_deviceOf 86 = .ok (.iaload, 1) := by decide +kernel
theorem dX11_deviceOf_87 : decode cX11_deviceOf 87 = .ok (.ireturn, 1) := by decide +kernel
theorem dX11_deviceOf_88 : decode cX11_deviceOf 88 = .ok (.aload_n 0, 1) := by decide +kernel
theorem dX11_deviceOf_89 : decode cX11_deviceOf 89 = .ok (.invokevirtual 181, 3) := by decide +kernel
theorem dX11_deviceOf_92 : decode cX11_deviceOf 92 = .ok (.aload_n 0, 1) := by decide +kernel
theorem dX11_deviceOf_93 : decode cX11_deviceOf 93 = .ok (.aload_n 0, 1) := by decide +kernel
theorem dX11_deviceOf_94 : decode cX11_deviceOf 94 = .ok (.getfield 56, 3) := by decide +kernel
theorem dX11_deviceOf_97 : decode cX11_deviceOf 97 = .ok (.iload_n 1, 1) := by decide +kernel
theorem dX11_deviceOf_98 : decode cX11_deviceOf 98 = .ok (.iaload, 1) := by decide +kernel
theorem dX11_deviceOf_99 : decode cX11_deviceOf 99 = .ok (.aload_n 0, 1) := by decide +kernel
theorem dX11_deviceOf_100 : decode cX11_deviceOf 100 = .ok (.getfield 47, 3) := by decide +kernel
theorem dX11_deviceOf_103 : decode cX11_deviceOf 103 = .ok (.iload_n 1, 1) := by decide +kernel
theorem dX11_deviceOf_104 : decode cX11_deviceOf 104 = .ok (.iaload, 1) := by decide +kernel
theorem dX11_deviceOf_105 : decode cX11_deviceOf 105 = .ok (.invokevirtual 184, 3) := by decide +kernel
theorem dX11_deviceOf_108 : decode cX11_deviceOf 108 = .ok (.ireturn, 1) := by decide +kernel
theorem dX11_deviceOf_109 : decode cX11_deviceOf 109 = .ok (.aload_n 0, 1) := by decide +kernel
theorem dX11_deviceOf_110 : decode cX11_deviceOf 110 = .ok (.invokevirtual 181, 3) := by decide +kernel
theorem dX11_deviceOf_113 : decode cX11_deviceOf 113 = .ok (.aload_n 0, 1) := by decide +kernel
theorem dX11_deviceOf_114 : decode cX11_deviceOf 114 = .ok (.aload_n 0, 1) := by decide +kernel
theorem dX11_deviceOf_115 : decode cX11_deviceOf 115 = .ok (.getfield 47, 3) := by decide +kernel
theorem dX11_deviceOf_118 : decode cX11_deviceOf 118 = .ok (.iload_n 1, 1) := by decide +kernel
theorem dX11_deviceOf_119 : decode cX11_deviceOf 119 = .ok (.iaload, 1) := by decide +kernel
theorem dX11_deviceOf_120 : decode cX11_deviceOf 120 = .ok (.invokevirtual 187, 3) := by decide +kernel
theorem dX11_deviceOf_123 : decode cX11_deviceOf 123 = .ok (.ireturn, 1) := by decide +kernel
theorem dX11_deviceOf_124 : decode cX11_deviceOf 124 = .ok (.aload_n 0, 1) := by decide +kernel
theorem dX11_deviceOf_125 : decode cX11_deviceOf 125 = .ok (.bipush (-5), 2) := by decide +kernel
theorem dX11_deviceOf_127 : decode cX11_deviceOf 127 = .ok (.invokevirtual 130, 3) := by decide +kernel
theorem dX11_deviceOf_130 : decode cX11_deviceOf 130 = .ok (.ireturn, 1) := by decide +kernel
theorem dX11_wrong_0 : decode cX11_wrong 0 = .ok (.aload_n 0, 1) := by decide +kernel
theorem dX11_wrong_1 : decode cX11_wrong 1 = .ok (.iload_n 1, 1) := by decide +kernel
theorem dX11_wrong_2 : decode cX11_wrong 2 = .ok (.putfield 190, 3) := by decide +kernel
theorem dX11_wrong_5 : decode cX11_wrong 5 = .ok (.iconst 0, 1) := by decide +kernel
theorem dX11_wrong_6 : decode cX11_wrong 6 = .ok (.ireturn, 1) := by decide +kernel
theorem dX11_stands_0 : decode cX11_stands 0 = .ok (.iconst 0, 1) := by decide +kernel
theorem dX11_stands_1 : decode cX11_stands 1 = .ok (.istore_n 2, 1) := by decide +kernel
theorem dX11_stands_2 : decode cX11_stands 2 = .ok (.iconst 0, 1) := by decide +kernel
theorem dX11_stands_3 : decode cX11_stands 3 = .ok (.istore_n 3, 1) := by decide +kernel
theorem dX11_stands_4 : decode cX11_stands 4 = .ok (.iload_n 3, 1) := by decide +kernel
theorem dX11_stands_5 : decode cX11_stands 5 = .ok (.iload_n 1, 1) := by decide +kernel
theorem dX11_stands_6 : decode cX11_stands 6 = .ok (.if_icmp .ge 26, 3) := by decide +kernel
theorem dX11_stands_9 : decode cX11_stands 9 = .ok (.iload_n 3, 1) := by decide +kernel
theorem dX11_stands_10 : decode cX11_stands 10 = .ok (.aload_n 0, 1) := by decide +kernel
theorem dX11_stands_11 : decode cX11_stands 11 = .ok (.getfield 81, 3) := by decide +kernel
theorem dX11_stands_14 : decode cX11_stands 14 = .ok (.iload_n 2, 1) := by decide +kernel
theorem dX11_stands_15 : decode cX11_stands 15 = .ok (.iaload, 1) := by decide +kernel
theorem dX11_stands_16 : decode cX11_stands 16 = .ok (.ifCond .ne 7, 3) := by decide +kernel
theorem dX11_stands_19 : decode cX11_stands 19 = .ok (.iconst 1, 1) := by decide +kernel
theorem dX11_stands_20 : decode cX11_stands 20 = .ok (.goto 4, 3) := by decide +kernel
theorem dX11_stands_23 : decode cX11_stands 23 = .ok (.iconst 0, 1) := by decide +kernel
theorem dX11_stands_24 : decode cX11_stands 24 = .ok (.iadd, 1) := by decide +kernel
theorem dX11_stands_25 : decode cX11_stands 25 = .ok (.istore_n 3, 1) := by decide +kernel
theorem dX11_stands_26 : decode cX11_stands 26 = .ok (.iinc 2 1, 3) := by decide +kernel
theorem dX11_stands_29 : decode cX11_stands 29 = .ok (.goto (-25), 3) := by decide +kernel
theorem dX11_stands_32 : decode cX11_stands 32 = .ok (.aload_n 0, 1) := by decide +kernel
theorem dX11_stands_33 : decode cX11_stands 33 = .ok (.getfield 193, 3) := by decide +kernel
theorem dX11_stands_36 : decode cX11_stands 36 = .ok (.istore_n 3, 1) := by decide +kernel
theorem dX11_stands_37 : decode cX11_stands 37 = .ok (.aload_n 0, 1) := by decide +kernel
theorem dX11_stands_38 : decode cX11_stands 38 = .ok (.getfield 81, 3) := by decide +kernel
theorem dX11_stands_41 : decode cX11_stands 41 = .ok (.iload_n 2, 1) := by decide +kernel
theorem dX11_stands_42 : decode cX11_stands 42 = .ok (.iaload, 1) := by decide +kernel
theorem dX11_stands_43 : decode cX11_stands 43 = .ok (.bipush 32, 2) := by decide +kernel
theorem dX11_stands_45 : decode cX11_stands 45 = .ok (.if_icmp .le 41, 3) := by decide +kernel
theorem dX11_stands_48 : decode cX11_stands 48 = .ok (.iload_n 3, 1) := by decide +kernel
theorem dX11_stands_49 : decode cX11_stands 49 = .ok (.aload_n 0, 1) := by decide +kernel
theorem dX11_stands_50 : decode cX11_stands 50 = .ok (.getfield 196, 3) := by decide +kernel
theorem dX11_stands_53 : decode cX11_stands 53 = .ok (.if_icmp .ge 33, 3) := by decide +kernel
theorem dX11_stands_56 : decode cX11_stands 56 = .ok (.aload_n 0, 1) := by decide +kernel
theorem dX11_stands_57 : decode cX11_stands 57 = .ok (.getfield 74, 3) := by decide +kernel
theorem dX11_stands_60 : decode cX11_stands 60 = .ok (.aload_n 0, 1) := by decide +kernel
theorem dX11_stands_61 : decode cX11_stands 61 = .ok (.getfield 199, 3) := by decide +kernel
theorem dX11_stands_64 : decode cX11_stands 64 = .ok (.iload_n 3, 1) := by decide +kernel
theorem dX11_stands_65 : decode cX11_stands 65 = .ok (.iadd, 1) := by decide +kernel
theorem dX11_stands_66 : decode cX11_stands 66 = .ok (.laload, 1) := by decide +kernel
theorem dX11_stands_67 : decode cX11_stands 67 = .ok (.l2i, 1) := by decide +kernel
theorem dX11_stands_68 : decode cX11_stands 68 = .ok (.aload_n 0, 1) := by decide +kernel
theorem dX11_stands_69 : decode cX11_stands 69 = .ok (.getfield 81, 3) := by decide +kernel
theorem dX11_stands_72 : decode cX11_stands 72 = .ok (.iload_n 2, 1) := by decide +kernel
theorem dX11_stands_73 : decode cX11_stands 73 = .ok (.iaload, 1) := by decide +kernel
theorem dX11_stands_74 : decode cX11_stands 74 = .ok (.if_icmp .ne 12, 3) := by decide +kernel
theorem dX11_stands_77 : decode cX11_stands 77 = .ok (.iinc 3 1, 3) := by decide +kernel
theorem dX11_stands_80 : decode cX11_stands 80 = .ok (.iinc 2 1, 3) := by decide +kernel
theorem dX11_stands_83 : decode cX11_stands 83 = .ok (.goto (-46), 3) := by decide +kernel
theorem dX11_stands_86 : decode cX11_stands 86 = .ok (.aload_n 0, 1) := by decide +kernel
theorem dX11_stands_87 : decode cX11_stands 87 = .ok (.getfield 81, 3) := by decide +kernel
theorem dX11_stands_90 : decode cX11_stands 90 = .ok (.iload_n 2, 1) := by decide +kernel
theorem dX11_stands_91 : decode cX11_stands 91 = .ok (.iaload, 1) := by decide +kernel
theorem dX11_stands_92 : decode cX11_stands 92 = .ok (.bipush 32, 2) := by decide +kernel
theorem dX11_stands_94 : decode cX11_stands 94 = .ok (.if_icmp .gt 7, 3) := by decide +kernel
theorem dX11_stands_97 : decode cX11_stands 97 = .ok (.iconst 1, 1) := by decide +kernel
theorem dX11_stands_98 : decode cX11_stands 98 = .ok (.goto 4, 3) := by decide +kernel
theorem dX11_stands_101 : decode cX11_stands 101 = .ok (.iconst 0, 1) := by decide +kernel
theorem dX11_stands_102 : decode cX11_stands 102 = .ok (.ireturn, 1) := by decide +kernel
theorem dX11_word_0 : decode cX11_word 0 = .ok (.iconst 0, 1) := by decide +kernel
theorem dX11_word_1 : decode cX11_word 1 = .ok (.istore_n 1, 1) := by decide +kernel
theorem dX11_word_2 : decode cX11_word 2 = .ok (.aload_n 0, 1) := by decide +kernel
theorem dX11_word_3 : decode cX11_word 3 = .ok (.getfield 193, 3) := by decide +kernel
theorem dX11_word_6 : decode cX11_word 6 = .ok (.istore_n 2, 1) := by decide +kernel
theorem dX11_word_7 : decode cX11_word 7 = .ok (.iconst 0, 1) := by decide +kernel
theorem dX11_word_8 : decode cX11_word 8 = .ok (.istore_n 3, 1) := by decide +kernel
theorem dX11_word_9 : decode cX11_word 9 = .ok (.iload_n 3, 1) := by decide +kernel
theorem dX11_word_10 : decode cX11_word 10 = .ok (.bipush 10, 2) := by decide +kernel
theorem dX11_word_12 : decode cX11_word 12 = .ok (.if_icmp .ge 118, 3) := by decide +kernel
theorem dX11_word_15 : decode cX11_word 15 = .ok (.aload_n 0, 1) := by decide +kernel
theorem dX11_word_16 : decode cX11_word 16 = .ok (.getfield 193, 3) := by decide +kernel
theorem dX11_word_19 : decode cX11_word 19 = .ok (.istore 4, 2) := by decide +kernel
theorem dX11_word_21 : decode cX11_word 21 = .ok (.iload_n 1, 1) := by decide +kernel
theorem dX11_word_22 : decode cX11_word 22 = .ok (.istore 5, 2) := by decide +kernel
theorem dX11_word_24 : decode cX11_word 24 = .ok (.aload_n 0, 1) := by decide +kernel
theorem dX11_word_25 : decode cX11_word 25 = .ok (.getfield 81, 3) := by decide +kernel
theorem dX11_word_28 : decode cX11_word 28 = .ok (.iload 5, 2) := by decide +kernel
theorem dX11_word_30 : decode cX11_word 30 = .ok (.iaload, 1) := by decide +kernel
theorem dX11_word_31 : decode cX11_word 31 = .ok (.ifCond .eq 44, 3) := by decide +kernel
theorem dX11_word_34 : decode cX11_word 34 = .ok (.iload 4, 2) := by decide +kernel
theorem dX11_word_36 : decode cX11_word 36 = .ok (.aload_n 0, 1) := by decide +kernel
theorem dX11_word_37 : decode cX11_word 37 = .ok (.getfield 196, 3) := by decide +kernel
theorem dX11_word_40 : decode cX11_word 40 = .ok (.if_icmp .ge 35, 3) := by decide +kernel
theorem dX11_word_43 : decode cX11_word 43 = .ok (.aload_n 0, 1) := by decide +kernel
theorem dX11_word_44 : decode cX11_word 44 = .ok (.getfield 74, 3) := by decide +kernel
theorem dX11_word_47 : decode cX11_word 47 = .ok (.aload_n 0, 1) := by decide +kernel
theorem dX11_word_48 : decode cX11_word 48 = .ok (.getfield 199, 3) := by decide +kernel
theorem dX11_word_51 : decode cX11_word 51 = .ok (.iload 4, 2) := by decide +kernel
theorem dX11_word_53 : decode cX11_word 53 = .ok (.iadd, 1) := by decide +kernel
theorem dX11_word_54 : decode cX11_word 54 = .ok (.laload, 1) := by decide +kernel
theorem dX11_word_55 : decode cX11_word 55 = .ok (.l2i, 1) := by decide +kernel
theorem dX11_word_56 : decode cX11_word 56 = .ok (.aload_n 0, 1) := by decide +kernel
theorem dX11_word_57 : decode cX11_word 57 = .ok (.getfield 81, 3) := by decide +kernel
theorem dX11_word_60 : decode cX11_word 60 = .ok (.iload 5, 2) := by decide +kernel
theorem dX11_word_62 : decode cX11_word 62 = .ok (.iaload, 1) := by decide +kernel
theorem dX11_word_63 : decode cX11_word 63 = .ok (.if_icmp .ne 12, 3) := by decide +kernel
theorem dX11_word_66 : decode cX11_word 66 = .ok (.iinc 4 1, 3) := by decide +kernel
theorem dX11_word_69 : decode cX11_word 69 = .ok (.iinc 5 1, 3) := by decide +kernel
theorem dX11_word_72 : decode cX11_word 72 = .ok (.goto (-48), 3) := by decide +kernel
theorem dX11_word_75 : decode cX11_word 75 = .ok (.aload_n 0, 1) := by decide +kernel
theorem dX11_word_76 : decode cX11_word 76 = .ok (.getfield 81, 3) := by decide +kernel
theorem dX11_word_79 : decode cX11_word 79 = .ok (.iload 5, 2) := by decide +kernel
theorem dX11_word_81 : decode cX11_word 81 = .ok (.iaload, 1) := by decide +kernel
theorem dX11_word_82 : decode cX11_word 82 = .ok (.ifCond .ne 11, 3) := by decide +kernel
theorem dX11_word_85 : decode cX11_word 85 = .ok (.aload_n 0, 1) := by decide +kernel
theorem dX11_word_86 : decode cX11_word 86 = .ok (.iload 4, 2) := by decide +kernel
theorem dX11_word_88 : decode cX11_word 88 = .ok (.putfield 193, 3) := by decide +kernel
theorem dX11_word_91 : decode cX11_word 91 = .ok (.iload_n 3, 1) := by decide +kernel
theorem dX11_word_92 : decode cX11_word 92 = .ok (.ireturn, 1) := by decide +kernel
theorem dX11_word_93 : decode cX11_word 93 = .ok (.iload 4, 2) := by decide +kernel
theorem dX11_word_95 : decode cX11_word 95 = .ok (.iload_n 2, 1) := by decide +kernel
theorem dX11_word_96 : decode cX11_word 96 = .ok (.if_icmp .le 8, 3) := by decide +kernel
theorem dX11_word_99 : decode cX11_word 99 = .ok (.iload 4, 2) := by decide +kernel
theorem dX11_word_101 : decode cX11_word 101 = .ok (.goto 4, 3) := by decide +kernel
theorem dX11_word_104 : decode cX11_word 104 = .ok (.iload_n 2, 1) := by decide +kernel
theorem dX11_word_105 : decode cX11_word 105 = .ok (.istore_n 2, 1) := by decide +kernel
theorem dX11_word_106 : decode cX11_word 106 = .ok (.aload_n 0, 1) := by decide +kernel
theorem dX11_word_107 : decode cX11_word 107 = .ok (.getfield 81, 3) := by decide +kernel
theorem dX11_word_110 : decode cX11_word 110 = .ok (.iload_n 1, 1) := by decide +kernel
theorem dX11_word_111 : decode cX11_word 111 = .ok (.iaload, 1) := by decide +kernel
theorem dX11_word_112 : decode cX11_word 112 = .ok (.ifCond .eq 9, 3) := by decide +kernel
theorem dX11_word_115 : decode cX11_word 115 = .ok (.iinc 1 1, 3) := by decide +kernel
theorem dX11_word_118 : decode cX11_word 118 = .ok (.goto (-12), 3) := by decide +kernel
theorem dX11_word_121 : decode cX11_word 121 = .ok (.iinc 1 1, 3) := by decide +kernel
theorem dX11_word_124 : decode cX11_word 124 = .ok (.iinc 3 1, 3) := by decide +kernel
theorem dX11_word_127 : decode cX11_word 127 = .ok (.goto (-118), 3) := by decide +kernel
theorem dX11_word_130 : decode cX11_word 130 = .ok (.aload_n 0, 1) := by decide +kernel
theorem dX11_word_131 : decode cX11_word 131 = .ok (.iload_n 2, 1) := by decide +kernel
theorem dX11_word_132 : decode cX11_word 132 = .ok (.putfield 190, 3) := by decide +kernel
theorem dX11_word_135 : decode cX11_word 135 = .ok (.iconst (-1), 1) := by decide +kernel
theorem dX11_word_136 : decode cX11_word 136 = .ok (.ireturn, 1) := by decide +kernel
theorem dX11_isDigit_0 : decode cX11_isDigit 0 = .ok (.aload_n 0, 1) := by decide +kernel
theorem dX11_isDigit_1 : decode cX11_isDigit 1 = .ok (.getfield 193, 3) := by decide +kernel
theorem dX11_isDigit_4 : decode cX11_isDigit 4 = .ok (.aload_n 0, 1) := by decide +kernel
theorem dX11_isDigit_5 : decode cX11_isDigit 5 = .ok (.getfield 196, 3) := by decide +kernel
theorem dX11_isDigit_8 : decode cX11_isDigit 8 = .ok (.if_icmp .ge 47, 3) := by decide +kernel
theorem dX11_isDigit_11 : decode cX11_isDigit 11 = .ok (.aload_n 0, 1) := by decide +kernel
theorem dX11_isDigit_12 : decode cX11_isDigit 12 = .ok (.getfield 74, 3) := by decide +kernel
theorem dX11_isDigit_15 : decode cX11_isDigit 15 = .ok (.aload_n 0, 1) := by decide +kernel
theorem dX11_isDigit_16 : decode cX11_isDigit 16 = .ok (.getfield 199, 3) := by decide +kernel
theorem dX11_isDigit_19 : decode cX11_isDigit 19 = .ok (.aload_n 0, 1) := by decide +kernel
theorem dX11_isDigit_20 : decode cX11_isDigit 20 = .ok (.getfield 193, 3) := by decide +kernel
theorem dX11_isDigit_23 : decode cX11_isDigit 23 = .ok (.iadd, 1) := by decide +kernel
theorem dX11_isDigit_24 : decode cX11_isDigit 24 = .ok (.laload, 1) := by decide +kernel
theorem dX11_isDigit_25 : decode cX11_isDigit 25 = .ok (.l2i, 1) := by decide +kernel
theorem dX11_isDigit_26 : decode cX11_isDigit 26 = .ok (.bipush 48, 2) := by decide +kernel
theorem dX11_isDigit_28 : decode cX11_isDigit 28 = .ok (.if_icmp .lt 27, 3) := by decide +kernel
theorem dX11_isDigit_31 : decode cX11_isDigit 31 = .ok (.aload_n 0, 1) := by decide +kernel
theorem dX11_isDigit_32 : decode cX11_isDigit 32 = .ok (.getfield 74, 3) := by decide +kernel
theorem dX11_isDigit_35 : decode cX11_isDigit 35 = .ok (.aload_n 0, 1) := by decide +kernel
theorem dX11_isDigit_36 : decode cX11_isDigit 36 = .ok (.getfield 199, 3) := by decide +kernel
theorem dX11_isDigit_39 : decode cX11_isDigit 39 = .ok (.aload_n 0, 1) := by decide +kernel
theorem dX11_isDigit_40 : decode cX11_isDigit 40 = .ok (.getfield 193, 3) := by decide +kernel
theorem dX11_isDigit_43 : decode cX11_isDigit 43 = .ok (.iadd, 1) := by decide +kernel
theorem dX11_isDigit_44 : decode cX11_isDigit 44 = .ok (.laload, 1) := by decide +kernel
theorem dX11_isDigit_45 : decode cX11_isDigit 45 = .ok (.l2i, 1) := by decide +kernel
theorem dX11_isDigit_46 : decode cX11_isDigit 46 = .ok (.bipush 57, 2) := by decide +kernel
theorem dX11_isDigit_48 : decode cX11_isDigit 48 = .ok (.if_icmp .gt 7, 3) := by decide +kernel
theorem dX11_isDigit_51 : decode cX11_isDigit 51 = .ok (.iconst 1, 1) := by decide +kernel
theorem dX11_isDigit_52 : decode cX11_isDigit 52 = .ok (.goto 4, 3) := by decide +kernel
theorem dX11_isDigit_55 : decode cX11_isDigit 55 = .ok (.iconst 0, 1) := by decide +kernel
theorem dX11_isDigit_56 : decode cX11_isDigit 56 = .ok (.ireturn, 1) := by decide +kernel
theorem dX11_reads_0 : decode cX11_reads 0 = .ok (.aload_n 0, 1) := by decide +kernel
theorem dX11_reads_1 : decode cX11_reads 1 = .ok (.iconst 0, 1) := by decide +kernel
theorem dX11_reads_2 : decode cX11_reads 2 = .ok (.putfield 202, 3) := by decide +kernel
theorem dX11_reads_5 : decode cX11_reads 5 = .ok (.aload_n 0, 1) := by decide +kernel
theorem dX11_reads_6 : decode cX11_reads 6 = .ok (.invokevirtual 205, 3) := by decide +kernel
theorem dX11_reads_9 : decode cX11_reads 9 = .ok (.ifCond .ne 12, 3) := by decide +kernel
theorem dX11_reads_12 : decode cX11_reads 12 = .ok (.aload_n 0, 1) := by decide +kernel
theorem dX11_reads_13 : decode cX11_reads 13 = .ok (.aload_n 0, 1) := by decide +kernel
theorem dX11_reads_14 : decode cX11_reads 14 = .ok (.getfield 193, 3) := by decide +kernel
theorem dX11_reads_17 : decode cX11_reads 17 = .ok (.invokevirtual 209, 3) := by decide +kernel
theorem dX11_reads_20 : decode cX11_reads 20 = .ok (.ireturn, 1) := by decide +kernel
theorem dX11_reads_21 : decode cX11_reads 21 = .ok (.iconst 0, 1) := by decide +kernel
theorem dX11_reads_22 : decode cX11_reads 22 = .ok (.istore_n 1, 1) := by decide +kernel
theorem dX11_reads_23 : decode cX11_reads 23 = .ok (.iload_n 1, 1) := by decide +kernel
theorem dX11_reads_24 : decode cX11_reads 24 = .ok (.iconst 2, 1) := by decide +kernel
theorem dX11_reads_25 : decode cX11_reads 25 = .ok (.if_icmp .ge 56, 3) := by decide +kernel
theorem dX11_reads_28 : decode cX11_reads 28 = .ok (.aload_n 0, 1) := by decide +kernel
theorem dX11_reads_29 : decode cX11_reads 29 = .ok (.invokevirtual 205, 3) := by decide +kernel
theorem dX11_reads_32 : decode cX11_reads 32 = .ok (.ifCond .eq 49, 3) := by decide +kernel
theorem dX11_reads_35 : decode cX11_reads 35 = .ok (.aload_n 0, 1) := by decide +kernel
theorem dX11_reads_36 : decode cX11_reads 36 = .ok (.bipush 10, 2) := by decide +kernel
theorem dX11_reads_38 : decode cX11_reads 38 = .ok (.aload_n 0, 1) := by decide +kernel
theorem dX11_reads_39 : decode cX11_reads 39 = .ok (.getfield 202, 3) := by decide +kernel
theorem dX11_reads_42 : decode cX11_reads 42 = .ok (.imul, 1) := by decide +kernel
theorem dX11_reads_43 : decode cX11_reads 43 = .ok (.aload_n 0, 1) := by decide +kernel
theorem dX11_reads_44 : decode cX11_reads 44 = .ok (.getfield 74, 3) := by decide +kernel
theorem dX11_reads_47 : decode cX11_reads 47 = .ok (.aload_n 0, 1) := by decide +kernel
theorem dX11_reads_48 : decode cX11_reads 48 = .ok (.getfield 199, 3) := by decide +kernel
theorem dX11_reads_51 : decode cX11_reads 51 = .ok (.aload_n 0, 1) := by decide +kernel
theorem dX11_reads_52 : decode cX11_reads 52 = .ok (.getfield 193, 3) := by decide +kernel
theorem dX11_reads_55 : decode cX11_reads 55 = .ok (.iadd, 1) := by decide +kernel
theorem dX11_reads_56 : decode cX11_reads 56 = .ok (.laload, 1) := by decide +kernel
theorem dX11_reads_57 : decode cX11_reads 57 = .ok (.l2i, 1) := by decide +kernel
theorem dX11_reads_58 : decode cX11_reads 58 = .ok (.iadd, 1) := by decide +kernel
theorem dX11_reads_59 : decode cX11_reads 59 = .ok (.bipush 48, 2) := by decide +kernel
theorem dX11_reads_61 : decode cX11_reads 61 = .ok (.isub, 1) := by decide +kernel
theorem dX11_reads_62 : decode cX11_reads 62 = .ok (.putfield 202, 3) := by decide +kernel
theorem dX11_reads_65 : decode cX11_reads 65 = .ok (.aload_n 0, 1) := by decide +kernel
theorem dX11_reads_66 : decode cX11_reads 66 = .ok (.dup, 1) := by decide +kernel
theorem dX11_reads_67 : decode cX11_reads 67 = .ok (.getfield 193, 3) := by decide +kernel
theorem dX11_reads_70 : decode cX11_reads 70 = .ok (.iconst 1, 1) := by decide +kernel
theorem dX11_reads_71 : decode cX11_reads 71 = .ok (.iadd, 1) := by decide +kernel
theorem dX11_reads_72 : decode cX11_reads 72 = .ok (.putfield 193, 3) := by decide +kernel
theorem dX11_reads_75 : decode cX11_reads 75 = .ok (.iinc 1 1, 3) := by decide +kernel
theorem dX11_reads_78 : decode cX11_reads 78 = .ok (.goto (-55), 3) := by decide +kernel
theorem dX11_reads_81 : decode cX11_reads 81 = .ok (.iconst 1, 1) := by decide +kernel
theorem dX11_reads_82 : decode cX11_reads 82 = .ok (.ireturn, 1) := by decide +kernel
theorem dX11_isSo_0 : decode cX11_isSo 0 = .ok (.iload_n 1, 1) := by decide +kernel
theorem dX11_isSo_1 : decode cX11_isSo 1 = .ok (.tableswitch 248 0 9 #[55, 70, 122, 151, 161, 171, 202, 248, 248, 238], 55) := by decide +kernel
theorem dX11_isSo_56 : decode cX11_isSo 56 = .ok (.aload_n 0, 1) := by decide +kernel
theorem dX11_isSo_57 : decode cX11_isSo 57 = .ok (.aload_n 0, 1) := by decide +kernel
theorem dX11_isSo_58 : decode cX11_isSo 58 = .ok (.getfield 202, 3) := by decide +kernel
theorem dX11_isSo_61 : decode cX11_isSo 61 = .ok (.aload_n 0, 1) := by decide +kernel
theorem dX11_isSo_62 : decode cX11_isSo 62 = .ok (.getfield 7, 3) := by decide +kernel
theorem dX11_isSo_65 : decode cX11_isSo 65 = .ok (.bipush 8, 2) := by decide +kernel
theorem dX11_isSo_67 : decode cX11_isSo 67 = .ok (.invokevirtual 150, 3) := by decide +kernel
theorem dX11_isSo_70 : decode cX11_isSo 70 = .ok (.ireturn, 1) := by decide +kernel
theorem dX11_isSo_71 : decode cX11_isSo 71 = .ok (.iload_n 2, 1) := by decide +kernel
theorem dX11_isSo_72 : decode cX11_isSo 72 = .ok (.ifCond .ne 20, 3) := by decide +kernel
theorem dX11_isSo_75 : decode cX11_isSo 75 = .ok (.aload_n 0, 1) := by decide +kernel
theorem dX11_isSo_76 : decode cX11_isSo 76 = .ok (.getfield 202, 3) := by decide +kernel
theorem dX11_isSo_79 : decode cX11_isSo 79 = .ok (.bipush 6, 2) := by decide +kernel
theorem dX11_isSo_81 : decode cX11_isSo 81 = .ok (.if_icmp .gt 7, 3) := by decide +kernel
theorem dX11_isSo_84 : decode cX11_isSo 84 = .ok (.iconst 1, 1) := by decide +kernel
theorem dX11_isSo_85 : decode cX11_isSo 85 = .ok (.goto 37, 3) := by decide +kernel
theorem dX11_isSo_88 : decode cX11_isSo 88 = .ok (.iconst 0, 1) := by decide +kernel
theorem dX11_isSo_89 : decode cX11_isSo 89 = .ok (.goto 33, 3) := by decide +kernel
theorem dX11_isSo_92 : decode cX11_isSo 92 = .ok (.iload_n 2, 1) := by decide +kernel
theorem dX11_isSo_93 : decode cX11_isSo 93 = .ok (.iconst 1, 1) := by decide +kernel
theorem dX11_isSo_94 : decode cX11_isSo 94 = .ok (.if_icmp .ne 20, 3) := by decide +kernel
theorem dX11_isSo_97 : decode cX11_isSo 97 = .ok (.aload_n 0, 1) := by decide +kernel
theorem dX11_isSo_98 : decode cX11_isSo 98 = .ok (.getfield 202, 3) := by decide +kernel
theorem dX11_isSo_101 : decode cX11_isSo 101 = .ok (.bipush 9, 2) := by decide +kernel
theorem dX11_isSo_103 : decode cX11_isSo 103 = .ok (.if_icmp .gt 7, 3) := by decide +kernel
theorem dX11_isSo_106 : decode cX11_isSo 106 = .ok (.iconst 1, 1) := by decide +kernel
theorem dX11_isSo_107 : decode cX11_isSo 107 = .ok (.goto 15, 3) := by decide +kernel
theorem dX11_isSo_110 : decode cX11_isSo 110 = .ok (.iconst 0, 1) := by decide +kernel
theorem dX11_isSo_111 : decode cX11_isSo 111 = .ok (.goto 11, 3) := by decide +kernel
theorem dX11_isSo_114 : decode cX11_isSo 114 = .ok (.aload_n 0, 1) := by decide +kernel
theorem dX11_isSo_115 : decode cX11_isSo 115 = .ok (.aload_n 0, 1) := by decide +kernel
theorem dX11_isSo_116 : decode cX11_isSo 116 = .ok (.getfield 202, 3) := by decide +kernel
theorem dX11_isSo_119 : decode cX11_isSo 119 = .ok (.invokevirtual 154, 3) := by decide +kernel
theorem dX11_isSo_122 : decode cX11_isSo 122 = .ok (.ireturn, 1) := by decide +kernel
theorem dX11_isSo_123 : decode cX11_isSo 123 = .ok (.iload_n 2, 1) := by decide +kernel
theorem dX11_isSo_124 : decode cX11_isSo 124 = .ok (.ifCond .ne 19, 3) := by decide +kernel
theorem dX11_isSo_127 : decode cX11_isSo 127 = .ok (.aload_n 0, 1) := by decide +kernel
theorem dX11_isSo_128 : decode cX11_isSo 128 = .ok (.getfield 202, 3) := by decide +kernel
theorem dX11_isSo_131 : decode cX11_isSo 131 = .ok (.iconst 1, 1) := by decide +kernel
theorem dX11_isSo_132 : decode cX11_isSo 132 = .ok (.if_icmp .gt 7, 3) := by decide +kernel
theorem dX11_isSo_135 : decode cX11_isSo 135 = .ok (.iconst 1, 1) := by decide +kernel
theorem dX11_isSo_136 : decode cX11_isSo 136 = .ok (.goto 15, 3) := by decide +kernel
theorem dX11_isSo_139 : decode cX11_isSo 139 = .ok (.iconst 0, 1) := by decide +kernel
theorem dX11_isSo_140 : decode cX11_isSo 140 = .ok (.goto 11, 3) := by decide +kernel
theorem dX11_isSo_143 : decode cX11_isSo 143 = .ok (.aload_n 0, 1) := by decide +kernel
theorem dX11_isSo_144 : decode cX11_isSo 144 = .ok (.aload_n 0, 1) := by decide +kernel
theorem dX11_isSo_145 : decode cX11_isSo 145 = .ok (.getfield 202, 3) := by decide +kernel
theorem dX11_isSo_148 : decode cX11_isSo 148 = .ok (.invokevirtual 154, 3) := by decide +kernel
theorem dX11_isSo_151 : decode cX11_isSo 151 = .ok (.ireturn, 1) := by decide +kernel
theorem dX11_isSo_152 : decode cX11_isSo 152 = .ok (.aload_n 0, 1) := by decide +kernel
theorem dX11_isSo_153 : decode cX11_isSo 153 = .ok (.iconst 0, 1) := by decide +kernel
theorem dX11_isSo_154 : decode cX11_isSo 154 = .ok (.aload_n 0, 1) := by decide +kernel
theorem dX11_isSo_155 : decode cX11_isSo 155 = .ok (.getfield 202, 3) := by decide +kernel
theorem dX11_isSo_158 : decode cX11_isSo 158 = .ok (.invokevirtual 173, 3) := by decide +kernel
theorem dX11_isSo_161 : decode cX11_isSo 161 = .ok (.ireturn, 1) := by decide +kernel
theorem dX11_isSo_162 : decode cX11_isSo 162 = .ok (.aload_n 0, 1) := by decide +kernel
theorem dX11_isSo_163 : decode cX11_isSo 163 = .ok (.iconst 1, 1) := by decide +kernel
theorem dX11_isSo_164 : decode cX11_isSo 164 = .ok (.aload_n 0, 1) := by decide +kernel
theorem dX11_isSo_165 : decode cX11_isSo 165 = .ok (.getfield 202, 3) := by decide +kernel
theorem dX11_isSo_168 : decode cX11_isSo 168 = .ok (.invokevirtual 173, 3) := by decide +kernel
theorem dX11_isSo_171 : decode cX11_isSo 171 = .ok (.ireturn, 1) := by decide +kernel
theorem dX11_isSo_172 : decode cX11_isSo 172 = .ok (.iload_n 2, 1) := by decide +kernel
theorem dX11_isSo_173 : decode cX11_isSo 173 = .ok (.ifCond .ne 15, 3) := by decide +kernel
theorem dX11_isSo_176 : decode cX11_isSo 176 = .ok (.aload_n 0, 1) := by decide +kernel
theorem dX11_isSo_177 : decode cX11_isSo 177 = .ok (.iconst 1, 1) := by decide +kernel
theorem dX11_isSo_178 : decode cX11_isSo 178 = .ok (.aload_n 0, 1) := by decide +kernel
theorem dX11_isSo_179 : decode cX11_isSo 179 = .ok (.getfield 202, 3) := by decide +kernel
theorem dX11_isSo_182 : decode cX11_isSo 182 = .ok (.invokevirtual 173, 3) := by decide +kernel
theorem dX11_isSo_185 : decode cX11_isSo 185 = .ok (.goto 17, 3) := by decide +kernel
theorem dX11_isSo_188 : decode cX11_isSo 188 = .ok (.aload_n 0, 1) := by decide +kernel
theorem dX11_isSo_189 : decode cX11_isSo 189 = .ok (.getfield 202, 3) := by decide +kernel
theorem dX11_isSo_192 : decode cX11_isSo 192 = .ok (.bipush 20, 2) := by decide +kernel
theorem dX11_isSo_194 : decode cX11_isSo 194 = .ok (.if_icmp .gt 7, 3) := by decide +kernel
theorem dX11_isSo_197 : decode cX11_isSo 197 = .ok (.iconst 1, 1) := by decide +kernel
theorem dX11_isSo_198 : decode cX11_isSo 198 = .ok (.goto 4, 3) := by decide +kernel
theorem dX11_isSo_201 : decode cX11_isSo 201 = .ok (.iconst 0, 1) := by decide +kernel
theorem dX11_isSo_202 : decode cX11_isSo 202 = .ok (.ireturn, 1) := by decide +kernel
theorem dX11_isSo_203 : decode cX11_isSo 203 = .ok (.iload_n 2, 1) := by decide +kernel
theorem dX11_isSo_204 : decode cX11_isSo 204 = .ok (.ifCond .ne 14, 3) := by decide +kernel
theorem dX11_isSo_207 : decode cX11_isSo 207 = .ok (.aload_n 0, 1) := by decide +kernel
theorem dX11_isSo_208 : decode cX11_isSo 208 = .ok (.aload_n 0, 1) := by decide +kernel
theorem dX11_isSo_209 : decode cX11_isSo 209 = .ok (.getfield 202, 3) := by decide +kernel
theorem dX11_isSo_212 : decode cX11_isSo 212 = .ok (.invokevirtual 154, 3) := by decide +kernel
theorem dX11_isSo_215 : decode cX11_isSo 215 = .ok (.goto 23, 3) := by decide +kernel
theorem dX11_isSo_218 : decode cX11_isSo 218 = .ok (.aload_n 0, 1) := by decide +kernel
theorem dX11_isSo_219 : decode cX11_isSo 219 = .ok (.aload_n 0, 1) := by decide +kernel
theorem dX11_isSo_220 : decode cX11_isSo 220 = .ok (.getfield 202, 3) := by decide +kernel
theorem dX11_isSo_223 : decode cX11_isSo 223 = .ok (.iconst 1, 1) := by decide +kernel
theorem dX11_isSo_224 : decode cX11_isSo 224 = .ok (.iload_n 2, 1) := by decide +kernel
theorem dX11_isSo_225 : decode cX11_isSo 225 = .ok (.iconst 1, 1) := by decide +kernel
theorem dX11_isSo_226 : decode cX11_isSo 226 = .ok (.if_icmp .ne 7, 3) := by decide +kernel
theorem dX11_isSo_229 : decode cX11_isSo 229 = .ok (.iconst 5, 1) := by decide +kernel
theorem dX11_isSo_230 : decode cX11_isSo 230 = .ok (.goto 5, 3) := by decide +kernel
theorem dX11_isSo_233 : decode cX11_isSo 233 = .ok (.bipush 99, 2) := by decide +kernel
theorem dX11_isSo_235 : decode cX11_isSo 235 = .ok (.invokevirtual 150, 3) := by decide +kernel
theorem dX11_isSo_238 : decode cX11_isSo 238 = .ok (.ireturn, 1) := by decide +kernel
theorem dX11_isSo_239 : decode cX11_isSo 239 = .ok (.aload_n 0, 1) := by decide +kernel
theorem dX11_isSo_240 : decode cX11_isSo 240 = .ok (.iconst 2, 1) := by decide +kernel
theorem dX11_isSo_241 : decode cX11_isSo 241 = .ok (.aload_n 0, 1) := by decide +kernel
theorem dX11_isSo_242 : decode cX11_isSo 242 = .ok (.getfield 202, 3) := by decide +kernel
theorem dX11_isSo_245 : decode cX11_isSo 245 = .ok (.invokevirtual 173, 3) := by decide +kernel
theorem dX11_isSo_248 : decode cX11_isSo 248 = .ok (.ireturn, 1) := by decide +kernel
theorem dX11_isSo_249 : decode cX11_isSo 249 = .ok (.aload_n 0, 1) := by decide +kernel
theorem dX11_isSo_250 : decode cX11_isSo 250 = .ok (.getfield 202, 3) := by decide +kernel
theorem dX11_isSo_253 : decode cX11_isSo 253 = .ok (.aload_n 0, 1) := by decide +kernel
theorem dX11_isSo_254 : decode cX11_isSo 254 = .ok (.getfield 123, 3) := by decide +kernel
theorem dX11_isSo_257 : decode cX11_isSo 257 = .ok (.if_icmp .ge 7, 3) := by decide +kernel
theorem dX11_isSo_260 : decode cX11_isSo 260 = .ok (.iconst 1, 1) := by decide +kernel
theorem dX11_isSo_261 : decode cX11_isSo 261 = .ok (.goto 4, 3) := by decide +kernel
theorem dX11_isSo_264 : decode cX11_isSo 264 = .ok (.iconst 0, 1) := by decide +kernel
theorem dX11_isSo_265 : decode cX11_isSo 265 = .ok (.ireturn, 1) := by decide +kernel
theorem dX11_item_0 : decode cX11_item 0 = .ok (.aload_n 0, 1) := by decide +kernel
theorem dX11_item_1 : decode cX11_item 1 = .ok (.iconst 1, 1) := by decide +kernel
theorem dX11_item_2 : decode cX11_item 2 = .ok (.invokevirtual 212, 3) := by decide +kernel
theorem dX11_item_5 : decode cX11_item 5 = .ok (.ifCond .eq 12, 3) := by decide +kernel
theorem dX11_item_8 : decode cX11_item 8 = .ok (.aload_n 0, 1) := by decide +kernel
theorem dX11_item_9 : decode cX11_item 9 = .ok (.getfield 123, 3) := by decide +kernel
theorem dX11_item_12 : decode cX11_item 12 = .ok (.bipush 16, 2) := by decide +kernel
theorem dX11_item_14 : decode cX11_item 14 = .ok (.if_icmp .eq 38, 3) := by decide +kernel
theorem dX11_item_17 : decode cX11_item 17 = .ok (.aload_n 0, 1) := by decide +kernel
theorem dX11_item_18 : decode cX11_item 18 = .ok (.iconst 5, 1) := by decide +kernel
theorem dX11_item_19 : decode cX11_item 19 = .ok (.invokevirtual 212, 3) := by decide +kernel
theorem dX11_item_22 : decode cX11_item 22 = .ok (.ifCond .eq 12, 3) := by decide +kernel
theorem dX11_item_25 : decode cX11_item 25 = .ok (.aload_n 0, 1) := by decide +kernel
theorem dX11_item_26 : decode cX11_item 26 = .ok (.getfield 144, 3) := by decide +kernel
theorem dX11_item_29 : decode cX11_item 29 = .ok (.bipush 8, 2) := by decide +kernel
theorem dX11_item_31 : decode cX11_item 31 = .ok (.if_icmp .eq 21, 3) := by decide +kernel
theorem dX11_item_34 : decode cX11_item 34 = .ok (.aload_n 0, 1) := by decide +kernel
theorem dX11_item_35 : decode cX11_item 35 = .ok (.bipush 6, 2) := by decide +kernel
theorem dX11_item_37 : decode cX11_item 37 = .ok (.invokevirtual 212, 3) := by decide +kernel
theorem dX11_item_40 : decode cX11_item 40 = .ok (.ifCond .eq 21, 3) := by decide +kernel
theorem dX11_item_43 : decode cX11_item 43 = .ok (.aload_n 0, 1) := by decide +kernel
theorem dX11_item_44 : decode cX11_item 44 = .ok (.getfield 147, 3) := by decide +kernel
theorem dX11_item_47 : decode cX11_item 47 = .ok (.bipush 6, 2) := by decide +kernel
theorem dX11_item_49 : decode cX11_item 49 = .ok (.if_icmp .ne 12, 3) := by decide +kernel
theorem dX11_item_52 : decode cX11_item 52 = .ok (.aload_n 0, 1) := by decide +kernel
theorem dX11_item_53 : decode cX11_item 53 = .ok (.aload_n 0, 1) := by decide +kernel
theorem dX11_item_54 : decode cX11_item 54 = .ok (.getfield 193, 3) := by decide +kernel
theorem dX11_item_57 : decode cX11_item 57 = .ok (.invokevirtual 209, 3) := by decide +kernel
theorem dX11_item_60 : decode cX11_item 60 = .ok (.ireturn, 1) := by decide +kernel
theorem dX11_item_61 : decode cX11_item 61 = .ok (.aload_n 0, 1) := by decide +kernel
theorem dX11_item_62 : decode cX11_item 62 = .ok (.invokevirtual 215, 3) := by decide +kernel
theorem dX11_item_65 : decode cX11_item 65 = .ok (.istore_n 1, 1) := by decide +kernel
theorem dX11_item_66 : decode cX11_item 66 = .ok (.iload_n 1, 1) := by decide +kernel
theorem dX11_item_67 : decode cX11_item 67 = .ok (.iconst (-1), 1) := by decide +kernel
theorem dX11_item_68 : decode cX11_item 68 = .ok (.if_icmp .ne 5, 3) := by decide +kernel
theorem dX11_item_71 : decode cX11_item 71 = .ok (.iconst 0, 1) := by decide +kernel
theorem dX11_item_72 : decode cX11_item 72 = .ok (.ireturn, 1) := by decide +kernel
theorem dX11_item_73 : decode cX11_item 73 = .ok (.iconst 0, 1) := by decide +kernel
theorem dX11_item_74 : decode cX11_item 74 = .ok (.istore_n 2, 1) := by decide +kernel
theorem dX11_item_75 : decode cX11_item 75 = .ok (.iload_n 2, 1) := by decide +kernel
theorem dX11_item_76 : decode cX11_item 76 = .ok (.aload_n 0, 1) := by decide +kernel
theorem dX11_item_77 : decode cX11_item 77 = .ok (.getfield 84, 3) := by decide +kernel
theorem dX11_item_80 : decode cX11_item 80 = .ok (.iload_n 1, 1) := by decide +kernel
theorem dX11_item_81 : decode cX11_item 81 = .ok (.iaload, 1) := by decide +kernel
theorem dX11_item_82 : decode cX11_item 82 = .ok (.if_icmp .ge 102, 3) := by decide +kernel
theorem dX11_item_85 : decode cX11_item 85 = .ok (.iload_n 2, 1) := by decide +kernel
theorem dX11_item_86 : decode cX11_item 86 = .ok (.ifCond .le 53, 3) := by decide +kernel
theorem dX11_item_89 : decode cX11_item 89 = .ok (.aload_n 0, 1) := by decide +kernel
theorem dX11_item_90 : decode cX11_item 90 = .ok (.getfield 193, 3) := by decide +kernel
theorem dX11_item_93 : decode cX11_item 93 = .ok (.aload_n 0, 1) := by decide +kernel
theorem dX11_item_94 : decode cX11_item 94 = .ok (.getfield 196, 3) := by decide +kernel
theorem dX11_item_97 : decode cX11_item 97 = .ok (.if_icmp .ge 23, 3) := by decide +kernel
theorem dX11_item_100 : decode cX11_item 100 = .ok (.aload_n 0, 1) := by decide +kernel
theorem dX11_item_101 : decode cX11_item 101 = .ok (.getfield 74, 3) := by decide +kernel
theorem dX11_item_104 : decode cX11_item 104 = .ok (.aload_n 0, 1) := by decide +kernel
theorem dX11_item_105 : decode cX11_item 105 = .ok (.getfield 199, 3) := by decide +kernel
theorem dX11_item_108 : decode cX11_item 108 = .ok (.aload_n 0, 1) := by decide +kernel
theorem dX11_item_109 : decode cX11_item 109 = .ok (.getfield 193, 3) := by decide +kernel
theorem dX11_item_112 : decode cX11_item 112 = .ok (.iadd, 1) := by decide +kernel
theorem dX11_item_113 : decode cX11_item 113 = .ok (.laload, 1) := by decide +kernel
theorem dX11_item_114 : decode cX11_item 114 = .ok (.l2i, 1) := by decide +kernel
theorem dX11_item_115 : decode cX11_item 115 = .ok (.bipush 32, 2) := by decide +kernel
theorem dX11_item_117 : decode cX11_item 117 = .ok (.if_icmp .eq 12, 3) := by decide +kernel
theorem dX11_item_120 : decode cX11_item 120 = .ok (.aload_n 0, 1) := by decide +kernel
theorem dX11_item_121 : decode cX11_item 121 = .ok (.aload_n 0, 1) := by decide +kernel
theorem dX11_item_122 : decode cX11_item 122 = .ok (.getfield 193, 3) := by decide +kernel
theorem dX11_item_125 : decode cX11_item 125 = .ok (.invokevirtual 209, 3) := by decide +kernel
theorem dX11_item_128 : decode cX11_item 128 = .ok (.ireturn, 1) := by decide +kernel
theorem dX11_item_129 : decode cX11_item 129 = .ok (.aload_n 0, 1) := by decide +kernel
theorem dX11_item_130 : decode cX11_item 130 = .ok (.dup, 1) := by decide +kernel
theorem dX11_item_131 : decode cX11_item 131 = .ok (.getfield 193, 3) := by decide +kernel
theorem dX11_item_134 : decode cX11_item 134 = .ok (.iconst 1, 1) := by decide +kernel
theorem dX11_item_135 : decode cX11_item 135 = .ok (.iadd, 1) := by decide +kernel
theorem dX11_item_136 : decode cX11_item 136 = .ok (.putfield 193, 3) := by decide +kernel
theorem dX11_item_139 : decode cX11_item 139 = .ok (.aload_n 0, 1) := by decide +kernel
theorem dX11_item_140 : decode cX11_item 140 = .ok (.getfield 193, 3) := by decide +kernel
theorem dX11_item_143 : decode cX11_item 143 = .ok (.istore_n 3, 1) := by decide +kernel
theorem dX11_item_144 : decode cX11_item 144 = .ok (.aload_n 0, 1) := by decide +kernel
theorem dX11_item_145 : decode cX11_item 145 = .ok (.invokevirtual 219, 3) := by decide +kernel
theorem dX11_item_148 : decode cX11_item 148 = .ok (.ifCond .ne 5, 3) := by decide +kernel
theorem dX11_item_151 : decode cX11_item 151 = .ok (.iconst 0, 1) := by decide +kernel
theorem dX11_item_152 : decode cX11_item 152 = .ok (.ireturn, 1) := by decide +kernel
theorem dX11_item_153 : decode cX11_item 153 = .ok (.aload_n 0, 1) := by decide +kernel
theorem dX11_item_154 : decode cX11_item 154 = .ok (.iload_n 1, 1) := by decide +kernel
theorem dX11_item_155 : decode cX11_item 155 = .ok (.iload_n 2, 1) := by decide +kernel
theorem dX11_item_156 : decode cX11_item 156 = .ok (.invokevirtual 222, 3) := by decide +kernel
theorem dX11_item_159 : decode cX11_item 159 = .ok (.ifCond .ne 9, 3) := by decide +kernel
theorem dX11_item_162 : decode cX11_item 162 = .ok (.aload_n 0, 1) := by decide +kernel
theorem dX11_item_163 : decode cX11_item 163 = .ok (.iload_n 3, 1) := by decide +kernel
theorem dX11_item_164 : decode cX11_item 164 = .ok (.invokevirtual 209, 3) := by decide +kernel
theorem dX11_item_167 : decode cX11_item 167 = .ok (.ireturn, 1) := by decide +kernel
theorem dX11_item_168 : decode cX11_item 168 = .ok (.aload_n 0, 1) := by decide +kernel
theorem dX11_item_169 : decode cX11_item 169 = .ok (.getfield 87, 3) := by decide +kernel
theorem dX11_item_172 : decode cX11_item 172 = .ok (.iload_n 2, 1) := by decide +kernel
theorem dX11_item_173 : decode cX11_item 173 = .ok (.aload_n 0, 1) := by decide +kernel
theorem dX11_item_174 : decode cX11_item 174 = .ok (.getfield 202, 3) := by decide +kernel
theorem dX11_item_177 : decode cX11_item 177 = .ok (.iastore, 1) := by decide +kernel
theorem dX11_item_178 : decode cX11_item 178 = .ok (.iinc 2 1, 3) := by decide +kernel
theorem dX11_item_181 : decode cX11_item 181 = .ok (.goto (-106), 3) := by decide +kernel
theorem dX11_item_184 : decode cX11_item 184 = .ok (.iload_n 1, 1) := by decide +kernel
theorem dX11_item_185 : decode cX11_item 185 = .ok (.tableswitch 202 0 9 #[55, 68, 94, 114, 128, 142, 162, 202, 202, 188], 55) := by decide +kernel
theorem dX11_item_240 : decode cX11_item 240 = .ok (.aload_n 0, 1) := by decide +kernel
theorem dX11_item_241 : decode cX11_item 241 = .ok (.aload_n 0, 1) := by decide +kernel
theorem dX11_item_242 : decode cX11_item 242 = .ok (.getfield 87, 3) := by decide +kernel
theorem dX11_item_245 : decode cX11_item 245 = .ok (.iconst 0, 1) := by decide +kernel
theorem dX11_item_246 : decode cX11_item 246 = .ok (.iaload, 1) := by decide +kernel
theorem dX11_item_247 : decode cX11_item 247 = .ok (.putfield 7, 3) := by decide +kernel
theorem dX11_item_250 : decode cX11_item 250 = .ok (.goto 159, 3) := by decide +kernel
theorem dX11_item_253 : decode cX11_item 253 = .ok (.aload_n 0, 1) := by decide +kernel
theorem dX11_item_254 : decode cX11_item 254 = .ok (.aload_n 0, 1) := by decide +kernel
theorem dX11_item_255 : decode cX11_item 255 = .ok (.getfield 87, 3) := by decide +kernel
theorem dX11_item_258 : decode cX11_item 258 = .ok (.iconst 0, 1) := by decide +kernel
theorem dX11_item_259 : decode cX11_item 259 = .ok (.iaload, 1) := by decide +kernel
theorem dX11_item_260 : decode cX11_item 260 = .ok (.aload_n 0, 1) := by decide +kernel
theorem dX11_item_261 : decode cX11_item 261 = .ok (.getfield 87, 3) := by decide +kernel
theorem dX11_item_264 : decode cX11_item 264 = .ok (.iconst 1, 1) := by decide +kernel
theorem dX11_item_265 : decode cX11_item 265 = .ok (.iaload, 1) := by decide +kernel
theorem dX11_item_266 : decode cX11_item 266 = .ok (.aload_n 0, 1) := by decide +kernel
theorem dX11_item_267 : decode cX11_item 267 = .ok (.getfield 87, 3) := by decide +kernel
theorem dX11_item_270 : decode cX11_item 270 = .ok (.iconst 2, 1) := by decide +kernel
theorem dX11_item_271 : decode cX11_item 271 = .ok (.iaload, 1) := by decide +kernel
theorem dX11_item_272 : decode cX11_item 272 = .ok (.invokevirtual 157, 3) := by decide +kernel
theorem dX11_item_275 : decode cX11_item 275 = .ok (.pop, 1) := by decide +kernel
theorem dX11_item_276 : decode cX11_item 276 = .ok (.goto 133, 3) := by decide +kernel
theorem dX11_item_279 : decode cX11_item 279 = .ok (.aload_n 0, 1) := by decide +kernel
theorem dX11_item_280 : decode cX11_item 280 = .ok (.getfield 59, 3) := by decide +kernel
theorem dX11_item_283 : decode cX11_item 283 = .ok (.aload_n 0, 1) := by decide +kernel
theorem dX11_item_284 : decode cX11_item 284 = .ok (.getfield 87, 3) := by decide +kernel
theorem dX11_item_287 : decode cX11_item 287 = .ok (.iconst 0, 1) := by decide +kernel
theorem dX11_item_288 : decode cX11_item 288 = .ok (.iaload, 1) := by decide +kernel
theorem dX11_item_289 : decode cX11_item 289 = .ok (.aload_n 0, 1) := by decide +kernel
theorem dX11_item_290 : decode cX11_item 290 = .ok (.getfield 87, 3) := by decide +kernel
theorem dX11_item_293 : decode cX11_item 293 = .ok (.iconst 1, 1) := by decide +kernel
theorem dX11_item_294 : decode cX11_item 294 = .ok (.iaload, 1) := by decide +kernel
theorem dX11_item_295 : decode cX11_item 295 = .ok (.iastore, 1) := by decide +kernel
theorem dX11_item_296 : decode cX11_item 296 = .ok (.goto 113, 3) := by decide +kernel
theorem dX11_item_299 : decode cX11_item 299 = .ok (.aload_n 0, 1) := by decide +kernel
theorem dX11_item_300 : decode cX11_item 300 = .ok (.iconst 0, 1) := by decide +kernel
theorem dX11_item_301 : decode cX11_item 301 = .ok (.aload_n 0, 1) := by decide +kernel
theorem dX11_item_302 : decode cX11_item 302 = .ok (.getfield 87, 3) := by decide +kernel
theorem dX11_item_305 : decode cX11_item 305 = .ok (.iconst 0, 1) := by decide +kernel
theorem dX11_item_306 : decode cX11_item 306 = .ok (.iaload, 1) := by decide +kernel
theorem dX11_item_307 : decode cX11_item 307 = .ok (.invokevirtual 177, 3) := by decide +kernel
theorem dX11_item_310 : decode cX11_item 310 = .ok (.goto 99, 3) := by decide +kernel
theorem dX11_item_313 : decode cX11_item 313 = .ok (.aload_n 0, 1) := by decide +kernel
theorem dX11_item_314 : decode cX11_item 314 = .ok (.iconst 1, 1) := by decide +kernel
theorem dX11_item_315 : decode cX11_item 315 = .ok (.aload_n 0, 1) := by decide +kernel
theorem dX11_item_316 : decode cX11_item 316 = .ok (.getfield 87, 3) := by decide +kernel
theorem dX11_item_319 : decode cX11_item 319 = .ok (.iconst 0, 1) := by decide +kernel
theorem dX11_item_320 : decode cX11_item 320 = .ok (.iaload, 1) := by decide +kernel
theorem dX11_item_321 : decode cX11_item 321 = .ok (.invokevirtual 177, 3) := by decide +kernel
theorem dX11_item_324 : decode cX11_item 324 = .ok (.goto 85, 3) := by decide +kernel
theorem dX11_item_327 : decode cX11_item 327 = .ok (.aload_n 0, 1) := by decide +kernel
theorem dX11_item_328 : decode cX11_item 328 = .ok (.aload_n 0, 1) := by decide +kernel
theorem dX11_item_329 : decode cX11_item 329 = .ok (.getfield 87, 3) := by decide +kernel
theorem dX11_item_332 : decode cX11_item 332 = .ok (.iconst 0, 1) := by decide +kernel
theorem dX11_item_333 : decode cX11_item 333 = .ok (.iaload, 1) := by decide +kernel
theorem dX11_item_334 : decode cX11_item 334 = .ok (.aload_n 0, 1) := by decide +kernel
theorem dX11_item_335 : decode cX11_item 335 = .ok (.getfield 87, 3) := by decide +kernel
theorem dX11_item_338 : decode cX11_item 338 = .ok (.iconst 1, 1) := by decide +kernel
theorem dX11_item_339 : decode cX11_item 339 = .ok (.iaload, 1) := by decide +kernel
theorem dX11_item_340 : decode cX11_item 340 = .ok (.invokevirtual 161, 3) := by decide +kernel
theorem dX11_item_343 : decode cX11_item 343 = .ok (.pop, 1) := by decide +kernel
theorem dX11_item_344 : decode cX11_item 344 = .ok (.goto 65, 3) := by decide +kernel
theorem dX11_item_347 : decode cX11_item 347 = .ok (.aload_n 0, 1) := by decide +kernel
theorem dX11_item_348 : decode cX11_item 348 = .ok (.aload_n 0, 1) := by decide +kernel
theorem dX11_item_349 : decode cX11_item 349 = .ok (.getfield 87, 3) := by decide +kernel
theorem dX11_item_352 : decode cX11_item 352 = .ok (.iconst 0, 1) := by decide +kernel
theorem dX11_item_353 : decode cX11_item 353 = .ok (.iaload, 1) := by decide +kernel
theorem dX11_item_354 : decode cX11_item 354 = .ok (.aload_n 0, 1) := by decide +kernel
theorem dX11_item_355 : decode cX11_item 355 = .ok (.getfield 87, 3) := by decide +kernel
theorem dX11_item_358 : decode cX11_item 358 = .ok (.iconst 1, 1) := by decide +kernel
theorem dX11_item_359 : decode cX11_item 359 = .ok (.iaload, 1) := by decide +kernel
theorem dX11_item_360 : decode cX11_item 360 = .ok (.aload_n 0, 1) := by decide +kernel
theorem dX11_item_361 : decode cX11_item 361 = .ok (.getfield 87, 3) := by decide +kernel
theorem dX11_item_364 : decode cX11_item 364 = .ok (.iconst 2, 1) := by decide +kernel
theorem dX11_item_365 : decode cX11_item 365 = .ok (.iaload, 1) := by decide +kernel
theorem dX11_item_366 : decode cX11_item 366 = .ok (.invokevirtual 164, 3) := by decide +kernel
theorem dX11_item_369 : decode cX11_item 369 = .ok (.pop, 1) := by decide +kernel
theorem dX11_item_370 : decode cX11_item 370 = .ok (.goto 39, 3) := by decide +kernel
theorem dX11_item_373 : decode cX11_item 373 = .ok (.aload_n 0, 1) := by decide +kernel
theorem dX11_item_374 : decode cX11_item 374 = .ok (.iconst 2, 1) := by decide +kernel
theorem dX11_item_375 : decode cX11_item 375 = .ok (.aload_n 0, 1) := by decide +kernel
theorem dX11_item_376 : decode cX11_item 376 = .ok (.getfield 87, 3) := by decide +kernel
theorem dX11_item_379 : decode cX11_item 379 = .ok (.iconst 0, 1) := by decide +kernel
theorem dX11_item_380 : decode cX11_item 380 = .ok (.iaload, 1) := by decide +kernel
theorem dX11_item_381 : decode cX11_item 381 = .ok (.invokevirtual 177, 3) := by decide +kernel
theorem dX11_item_384 : decode cX11_item 384 = .ok (.goto 25, 3) := by decide +kernel
theorem dX11_item_387 : decode cX11_item 387 = .ok (.aload_n 0, 1) := by decide +kernel
theorem dX11_item_388 : decode cX11_item 388 = .ok (.getfield 38, 3) := by decide +kernel
theorem dX11_item_391 : decode cX11_item 391 = .ok (.aload_n 0, 1) := by decide +kernel
theorem dX11_item_392 : decode cX11_item 392 = .ok (.getfield 87, 3) := by decide +kernel
theorem dX11_item_395 : decode cX11_item 395 = .ok (.iconst 0, 1) := by decide +kernel
theorem dX11_item_396 : decode cX11_item 396 = .ok (.iaload, 1) := by decide +kernel
theorem dX11_item_397 : decode cX11_item 397 = .ok (.iload_n 1, 1) := by decide +kernel
theorem dX11_item_398 : decode cX11_item 398 = .ok (.bipush 8, 2) := by decide +kernel
theorem dX11_item_400 : decode cX11_item 400 = .ok (.if_icmp .ne 7, 3) := by decide +kernel
theorem dX11_item_403 : decode cX11_item 403 = .ok (.iconst 1, 1) := by decide +kernel
theorem dX11_item_404 : decode cX11_item 404 = .ok (.goto 4, 3) := by decide +kernel
theorem dX11_item_407 : decode cX11_item 407 = .ok (.iconst 0, 1) := by decide +kernel
theorem dX11_item_408 : decode cX11_item 408 = .ok (.iastore, 1) := by decide +kernel
theorem dX11_item_409 : decode cX11_item 409 = .ok (.iconst 1, 1) := by decide +kernel
theorem dX11_item_410 : decode cX11_item 410 = .ok (.ireturn, 1) := by decide +kernel
theorem dX11_carries_0 : decode cX11_carries 0 = .ok (.iconst 0, 1) := by decide +kernel
theorem dX11_carries_1 : decode cX11_carries 1 = .ok (.istore 6, 2) := by decide +kernel
theorem dX11_carries_3 : decode cX11_carries 3 = .ok (.iload 6, 2) := by decide +kernel
theorem dX11_carries_5 : decode cX11_carries 5 = .ok (.iload_n 2, 1) := by decide +kernel
theorem dX11_carries_6 : decode cX11_carries 6 = .ok (.if_icmp .ge 39, 3) := by decide +kernel
theorem dX11_carries_9 : decode cX11_carries 9 = .ok (.iload 5, 2) := by decide +kernel
theorem dX11_carries_11 : decode cX11_carries 11 = .ok (.ifCond .eq 17, 3) := by decide +kernel
theorem dX11_carries_14 : decode cX11_carries 14 = .ok (.aload_n 1, 1) := by decide +kernel
theorem dX11_carries_15 : decode cX11_carries 15 = .ok (.iload 6, 2) := by decide +kernel
theorem dX11_carries_17 : decode cX11_carries 17 = .ok (.aload_n 3, 1) := by decide +kernel
theorem dX11_carries_18 : decode cX11_carries 18 = .ok (.iload 4, 2) := by decide +kernel
theorem dX11_carries_20 : decode cX11_carries 20 = .ok (.iload 6, 2) := by decide +kernel
theorem dX11_carries_22 : decode cX11_carries 22 = .ok (.iadd, 1) := by decide +kernel
theorem dX11_carries_23 : decode cX11_carries 23 = .ok (.iaload, 1) := by decide +kernel
theorem dX11_carries_24 : decode cX11_carries 24 = .ok (.iastore, 1) := by decide +kernel
theorem dX11_carries_25 : decode cX11_carries 25 = .ok (.goto 14, 3) := by decide +kernel
theorem dX11_carries_28 : decode cX11_carries 28 = .ok (.aload_n 3, 1) := by decide +kernel
theorem dX11_carries_29 : decode cX11_carries 29 = .ok (.iload 4, 2) := by decide +kernel
theorem dX11_carries_31 : decode cX11_carries 31 = .ok (.iload 6, 2) := by decide +kernel
theorem dX11_carries_33 : decode cX11_carries 33 = .ok (.iadd, 1) := by decide +kernel
theorem dX11_carries_34 : decode cX11_carries 34 = .ok (.aload_n 1, 1) := by decide +kernel
theorem dX11_carries_35 : decode cX11_carries 35 = .ok (.iload 6, 2) := by decide +kernel
theorem dX11_carries_37 : decode cX11_carries 37 = .ok (.iaload, 1) := by decide +kernel
theorem dX11_carries_38 : decode cX11_carries 38 = .ok (.iastore, 1) := by decide +kernel
theorem dX11_carries_39 : decode cX11_carries 39 = .ok (.iinc 6 1, 3) := by decide +kernel
theorem dX11_carries_42 : decode cX11_carries 42 = .ok (.goto (-39), 3) := by decide +kernel
theorem dX11_carries_45 : decode cX11_carries 45 = .ok (.iload 4, 2) := by decide +kernel
theorem dX11_carries_47 : decode cX11_carries 47 = .ok (.iload_n 2, 1) := by decide +kernel
theorem dX11_carries_48 : decode cX11_carries 48 = .ok (.iadd, 1) := by decide +kernel
theorem dX11_carries_49 : decode cX11_carries 49 = .ok (.ireturn, 1) := by decide +kernel
theorem dX11_all_0 : decode cX11_all 0 = .ok (.aload_n 0, 1) := by decide +kernel
theorem dX11_all_1 : decode cX11_all 1 = .ok (.aload_n 0, 1) := by decide +kernel
theorem dX11_all_2 : decode cX11_all 2 = .ok (.getfield 29, 3) := by decide +kernel
theorem dX11_all_5 : decode cX11_all 5 = .ok (.bipush 16, 2) := by decide +kernel
theorem dX11_all_7 : decode cX11_all 7 = .ok (.aload_n 1, 1) := by decide +kernel
theorem dX11_all_8 : decode cX11_all 8 = .ok (.iconst 0, 1) := by decide +kernel
theorem dX11_all_9 : decode cX11_all 9 = .ok (.iload_n 2, 1) := by decide +kernel
theorem dX11_all_10 : decode cX11_all 10 = .ok (.invokevirtual 225, 3) := by decide +kernel
theorem dX11_all_13 : decode cX11_all 13 = .ok (.istore_n 3, 1) := by decide +kernel
theorem dX11_all_14 : decode cX11_all 14 = .ok (.aload_n 0, 1) := by decide +kernel
theorem dX11_all_15 : decode cX11_all 15 = .ok (.aload_n 0, 1) := by decide +kernel
theorem dX11_all_16 : decode cX11_all 16 = .ok (.getfield 32, 3) := by decide +kernel
theorem dX11_all_19 : decode cX11_all 19 = .ok (.bipush 16, 2) := by decide +kernel
theorem dX11_all_21 : decode cX11_all 21 = .ok (.aload_n 1, 1) := by decide +kernel
theorem dX11_all_22 : decode cX11_all 22 = .ok (.iload_n 3, 1) := by decide +kernel
theorem dX11_all_23 : decode cX11_all 23 = .ok (.iload_n 2, 1) := by decide +kernel
theorem dX11_all_24 : decode cX11_all 24 = .ok (.invokevirtual 225, 3) := by decide +kernel
theorem dX11_all_27 : decode cX11_all 27 = .ok (.istore_n 3, 1) := by decide +kernel
theorem dX11_all_28 : decode cX11_all 28 = .ok (.aload_n 0, 1) := by decide +kernel
theorem dX11_all_29 : decode cX11_all 29 = .ok (.aload_n 0, 1) := by decide +kernel
theorem dX11_all_30 : decode cX11_all 30 = .ok (.getfield 35, 3) := by decide +kernel
theorem dX11_all_33 : decode cX11_all 33 = .ok (.bipush 16, 2) := by decide +kernel
theorem dX11_all_35 : decode cX11_all 35 = .ok (.aload_n 1, 1) := by decide +kernel
theorem dX11_all_36 : decode cX11_all 36 = .ok (.iload_n 3, 1) := by decide +kernel
theorem dX11_all_37 : decode cX11_all 37 = .ok (.iload_n 2, 1) := by decide +kernel
theorem dX11_all_38 : decode cX11_all 38 = .ok (.invokevirtual 225, 3) := by decide +kernel
theorem dX11_all_41 : decode cX11_all 41 = .ok (.istore_n 3, 1) := by decide +kernel
theorem dX11_all_42 : decode cX11_all 42 = .ok (.aload_n 0, 1) := by decide +kernel
theorem dX11_all_43 : decode cX11_all 43 = .ok (.aload_n 0, 1) := by decide +kernel
theorem dX11_all_44 : decode cX11_all 44 = .ok (.getfield 38, 3) := by decide +kernel
theorem dX11_all_47 : decode cX11_all 47 = .ok (.bipush 16, 2) := by decide +kernel
theorem dX11_all_49 : decode cX11_all 49 = .ok (.aload_n 1, 1) := by decide +kernel
theorem dX11_all_50 : decode cX11_all 50 = .ok (.iload_n 3, 1) := by decide +kernel
theorem dX11_all_51 : decode cX11_all 51 = .ok (.iload_n 2, 1) := by decide +kernel
theorem dX11_all_52 : decode cX11_all 52 = .ok (.invokevirtual 225, 3) := by decide +kernel
theorem dX11_all_55 : decode cX11_all 55 = .ok (.istore_n 3, 1) := by decide +kernel
theorem dX11_all_56 : decode cX11_all 56 = .ok (.aload_n 0, 1) := by decide +kernel
theorem dX11_all_57 : decode cX11_all 57 = .ok (.aload_n 0, 1) := by decide +kernel
theorem dX11_all_58 : decode cX11_all 58 = .ok (.getfield 41, 3) := by decide +kernel
theorem dX11_all_61 : decode cX11_all 61 = .ok (.bipush 8, 2) := by decide +kernel
theorem dX11_all_63 : decode cX11_all 63 = .ok (.aload_n 1, 1) := by decide +kernel
theorem dX11_all_64 : decode cX11_all 64 = .ok (.iload_n 3, 1) := by decide +kernel
theorem dX11_all_65 : decode cX11_all 65 = .ok (.iload_n 2, 1) := by decide +kernel
theorem dX11_all_66 : decode cX11_all 66 = .ok (.invokevirtual 225, 3) := by decide +kernel
theorem dX11_all_69 : decode cX11_all 69 = .ok (.istore_n 3, 1) := by decide +kernel
theorem dX11_all_70 : decode cX11_all 70 = .ok (.aload_n 0, 1) := by decide +kernel
theorem dX11_all_71 : decode cX11_all 71 = .ok (.aload_n 0, 1) := by decide +kernel
theorem dX11_all_72 : decode cX11_all 72 = .ok (.getfield 44, 3) := by decide +kernel
theorem dX11_all_75 : decode cX11_all 75 = .ok (.bipush 8, 2) := by decide +kernel
theorem dX11_all_77 : decode cX11_all 77 = .ok (.aload_n 1, 1) := by decide +kernel
theorem dX11_all_78 : decode cX11_all 78 = .ok (.iload_n 3, 1) := by decide +kernel
theorem dX11_all_79 : decode cX11_all 79 = .ok (.iload_n 2, 1) := by decide +kernel
theorem dX11_all_80 : decode cX11_all 80 = .ok (.invokevirtual 225, 3) := by decide +kernel
theorem dX11_all_83 : decode cX11_all 83 = .ok (.istore_n 3, 1) := by decide +kernel
theorem dX11_all_84 : decode cX11_all 84 = .ok (.aload_n 0, 1) := by decide +kernel
theorem dX11_all_85 : decode cX11_all 85 = .ok (.aload_n 0, 1) := by decide +kernel
theorem dX11_all_86 : decode cX11_all 86 = .ok (.getfield 47, 3) := by decide +kernel
theorem dX11_all_89 : decode cX11_all 89 = .ok (.bipush 6, 2) := by decide +kernel
theorem dX11_all_91 : decode cX11_all 91 = .ok (.aload_n 1, 1) := by decide +kernel
theorem dX11_all_92 : decode cX11_all 92 = .ok (.iload_n 3, 1) := by decide +kernel
theorem dX11_all_93 : decode cX11_all 93 = .ok (.iload_n 2, 1) := by decide +kernel
theorem dX11_all_94 : decode cX11_all 94 = .ok (.invokevirtual 225, 3) := by decide +kernel
theorem dX11_all_97 : decode cX11_all 97 = .ok (.istore_n 3, 1) := by decide +kernel
theorem dX11_all_98 : decode cX11_all 98 = .ok (.aload_n 0, 1) := by decide +kernel
theorem dX11_all_99 : decode cX11_all 99 = .ok (.aload_n 0, 1) := by decide +kernel
theorem dX11_all_100 : decode cX11_all 100 = .ok (.getfield 50, 3) := by decide +kernel
theorem dX11_all_103 : decode cX11_all 103 = .ok (.bipush 6, 2) := by decide +kernel
theorem dX11_all_105 : decode cX11_all 105 = .ok (.aload_n 1, 1) := by decide +kernel
theorem dX11_all_106 : decode cX11_all 106 = .ok (.iload_n 3, 1) := by decide +kernel
theorem dX11_all_107 : decode cX11_all 107 = .ok (.iload_n 2, 1) := by decide +kernel
theorem dX11_all_108 : decode cX11_all 108 = .ok (.invokevirtual 225, 3) := by decide +kernel
theorem dX11_all_111 : decode cX11_all 111 = .ok (.istore_n 3, 1) := by decide +kernel
theorem dX11_all_112 : decode cX11_all 112 = .ok (.aload_n 0, 1) := by decide +kernel
theorem dX11_all_113 : decode cX11_all 113 = .ok (.aload_n 0, 1) := by decide +kernel
theorem dX11_all_114 : decode cX11_all 114 = .ok (.getfield 53, 3) := by decide +kernel
theorem dX11_all_117 : decode cX11_all 117 = .ok (.bipush 6, 2) := by decide +kernel
theorem dX11_all_119 : decode cX11_all 119 = .ok (.aload_n 1, 1) := by decide +kernel
theorem dX11_all_120 : decode cX11_all 120 = .ok (.iload_n 3, 1) := by decide +kernel
theorem dX11_all_121 : decode cX11_all 121 = .ok (.iload_n 2, 1) := by decide +kernel
theorem dX11_all_122 : decode cX11_all 122 = .ok (.invokevirtual 225, 3) := by decide +kernel
theorem dX11_all_125 : decode cX11_all 125 = .ok (.istore_n 3, 1) := by decide +kernel
theorem dX11_all_126 : decode cX11_all 126 = .ok (.aload_n 0, 1) := by decide +kernel
theorem dX11_all_127 : decode cX11_all 127 = .ok (.aload_n 0, 1) := by decide +kernel
theorem dX11_all_128 : decode cX11_all 128 = .ok (.getfield 56, 3) := by decide +kernel
theorem dX11_all_131 : decode cX11_all 131 = .ok (.bipush 6, 2) := by decide +kernel
theorem dX11_all_133 : decode cX11_all 133 = .ok (.aload_n 1, 1) := by decide +kernel
theorem dX11_all_134 : decode cX11_all 134 = .ok (.iload_n 3, 1) := by decide +kernel
theorem dX11_all_135 : decode cX11_all 135 = .ok (.iload_n 2, 1) := by decide +kernel
theorem dX11_all_136 : decode cX11_all 136 = .ok (.invokevirtual 225, 3) := by decide +kernel
theorem dX11_all_139 : decode cX11_all 139 = .ok (.istore_n 3, 1) := by decide +kernel
theorem dX11_all_140 : decode cX11_all 140 = .ok (.aload_n 0, 1) := by decide +kernel
theorem dX11_all_141 : decode cX11_all 141 = .ok (.aload_n 0, 1) := by decide +kernel
theorem dX11_all_142 : decode cX11_all 142 = .ok (.getfield 59, 3) := by decide +kernel
theorem dX11_all_145 : decode cX11_all 145 = .ok (.iconst 2, 1) := by decide +kernel
theorem dX11_all_146 : decode cX11_all 146 = .ok (.aload_n 1, 1) := by decide +kernel
theorem dX11_all_147 : decode cX11_all 147 = .ok (.iload_n 3, 1) := by decide +kernel
theorem dX11_all_148 : decode cX11_all 148 = .ok (.iload_n 2, 1) := by decide +kernel
theorem dX11_all_149 : decode cX11_all 149 = .ok (.invokevirtual 225, 3) := by decide +kernel
theorem dX11_all_152 : decode cX11_all 152 = .ok (.istore_n 3, 1) := by decide +kernel
theorem dX11_all_153 : decode cX11_all 153 = .ok (.iload_n 2, 1) := by decide +kernel
theorem dX11_all_154 : decode cX11_all 154 = .ok (.ifCond .eq 78, 3) := by decide +kernel
theorem dX11_all_157 : decode cX11_all 157 = .ok (.aload_n 0, 1) := by decide +kernel
theorem dX11_all_158 : decode cX11_all 158 = .ok (.aload_n 1, 1) := by decide +kernel
theorem dX11_all_159 : decode cX11_all 159 = .ok (.iload_n 3, 1) := by decide +kernel
theorem dX11_all_160 : decode cX11_all 160 = .ok (.iaload, 1) := by decide +kernel
theorem dX11_all_161 : decode cX11_all 161 = .ok (.putfield 123, 3) := by decide +kernel
theorem dX11_all_164 : decode cX11_all 164 = .ok (.aload_n 0, 1) := by decide +kernel
theorem dX11_all_165 : decode cX11_all 165 = .ok (.aload_n 1, 1) := by decide +kernel
theorem dX11_all_166 : decode cX11_all 166 = .ok (.iload_n 3, 1) := by decide +kernel
theorem dX11_all_167 : decode cX11_all 167 = .ok (.iconst 1, 1) := by decide +kernel
theorem dX11_all_168 : decode cX11_all 168 = .ok (.iadd, 1) := by decide +kernel
theorem dX11_all_169 : decode cX11_all 169 = .ok (.iaload, 1) := by decide +kernel
theorem dX11_all_170 : decode cX11_all 170 = .ok (.putfield 144, 3) := by decide +kernel
theorem dX11_all_173 : decode cX11_all 173 = .ok (.aload_n 0, 1) := by decide +kernel
theorem dX11_all_174 : decode cX11_all 174 = .ok (.aload_n 1, 1) := by decide +kernel
theorem dX11_all_175 : decode cX11_all 175 = .ok (.iload_n 3, 1) := by decide +kernel
theorem dX11_all_176 : decode cX11_all 176 = .ok (.iconst 2, 1) := by decide +kernel
theorem dX11_all_177 : decode cX11_all 177 = .ok (.iadd, 1) := by decide +kernel
theorem dX11_all_178 : decode cX11_all 178 = .ok (.iaload, 1) := by decide +kernel
theorem dX11_all_179 : decode cX11_all 179 = .ok (.putfield 147, 3) := by decide +kernel
theorem dX11_all_182 : decode cX11_all 182 = .ok (.aload_n 0, 1) := by decide +kernel
theorem dX11_all_183 : decode cX11_all 183 = .ok (.aload_n 1, 1) := by decide +kernel
theorem dX11_all_184 : decode cX11_all 184 = .ok (.iload_n 3, 1) := by decide +kernel
theorem dX11_all_185 : decode cX11_all 185 = .ok (.iconst 3, 1) := by decide +kernel
theorem dX11_all_186 : decode cX11_all 186 = .ok (.iadd, 1) := by decide +kernel
theorem dX11_all_187 : decode cX11_all 187 = .ok (.iaload, 1) := by decide +kernel
theorem dX11_all_188 : decode cX11_all 188 = .ok (.putfield 7, 3) := by decide +kernel
theorem dX11_all_191 : decode cX11_all 191 = .ok (.aload_n 0, 1) := by decide +kernel
theorem dX11_all_192 : decode cX11_all 192 = .ok (.aload_n 1, 1) := by decide +kernel
theorem dX11_all_193 : decode cX11_all 193 = .ok (.iload_n 3, 1) := by decide +kernel
theorem dX11_all_194 : decode cX11_all 194 = .ok (.iconst 4, 1) := by decide +kernel
theorem dX11_all_195 : decode cX11_all 195 = .ok (.iadd, 1) := by decide +kernel
theorem dX11_all_196 : decode cX11_all 196 = .ok (.iaload, 1) := by decide +kernel
theorem dX11_all_197 : decode cX11_all 197 = .ok (.putfield 13, 3) := by decide +kernel
theorem dX11_all_200 : decode cX11_all 200 = .ok (.aload_n 0, 1) := by decide +kernel
theorem dX11_all_201 : decode cX11_all 201 = .ok (.aload_n 1, 1) := by decide +kernel
theorem dX11_all_202 : decode cX11_all 202 = .ok (.iload_n 3, 1) := by decide +kernel
theorem dX11_all_203 : decode cX11_all 203 = .ok (.iconst 5, 1) := by decide +kernel
theorem dX11_all_204 : decode cX11_all 204 = .ok (.iadd, 1) := by decide +kernel
theorem dX11_all_205 : decode cX11_all 205 = .ok (.iaload, 1) := by decide +kernel
theorem dX11_all_206 : decode cX11_all 206 = .ok (.putfield 16, 3) := by decide +kernel
theorem dX11_all_209 : decode cX11_all 209 = .ok (.aload_n 0, 1) := by decide +kernel
theorem dX11_all_210 : decode cX11_all 210 = .ok (.aload_n 1, 1) := by decide +kernel
theorem dX11_all_211 : decode cX11_all 211 = .ok (.iload_n 3, 1) := by decide +kernel
theorem dX11_all_212 : decode cX11_all 212 = .ok (.bipush 6, 2) := by decide +kernel
theorem dX11_all_214 : decode cX11_all 214 = .ok (.iadd, 1) := by decide +kernel
theorem dX11_all_215 : decode cX11_all 215 = .ok (.iaload, 1) := by decide +kernel
theorem dX11_all_216 : decode cX11_all 216 = .ok (.putfield 170, 3) := by decide +kernel
theorem dX11_all_219 : decode cX11_all 219 = .ok (.aload_n 0, 1) := by decide +kernel
theorem dX11_all_220 : decode cX11_all 220 = .ok (.aload_n 1, 1) := by decide +kernel
theorem dX11_all_221 : decode cX11_all 221 = .ok (.iload_n 3, 1) := by decide +kernel
theorem dX11_all_222 : decode cX11_all 222 = .ok (.bipush 7, 2) := by decide +kernel
theorem dX11_all_224 : decode cX11_all 224 = .ok (.iadd, 1) := by decide +kernel
theorem dX11_all_225 : decode cX11_all 225 = .ok (.iaload, 1) := by decide +kernel
theorem dX11_all_226 : decode cX11_all 226 = .ok (.putfield 19, 3) := by decide +kernel
theorem dX11_all_229 : decode cX11_all 229 = .ok (.goto 75, 3) := by decide +kernel
theorem dX11_all_232 : decode cX11_all 232 = .ok (.aload_n 1, 1) := by decide +kernel
theorem dX11_all_233 : decode cX11_all 233 = .ok (.iload_n 3, 1) := by decide +kernel
theorem dX11_all_234 : decode cX11_all 234 = .ok (.aload_n 0, 1) := by decide +kernel
theorem dX11_all_235 : decode cX11_all 235 = .ok (.getfield 123, 3) := by decide +kernel
theorem dX11_all_238 : decode cX11_all 238 = .ok (.iastore, 1) := by decide +kernel
theorem dX11_all_239 : decode cX11_all 239 = .ok (.aload_n 1, 1) := by decide +kernel
theorem dX11_all_240 : decode cX11_all 240 = .ok (.iload_n 3, 1) := by decide +kernel
theorem dX11_all_241 : decode cX11_all 241 = .ok (.iconst 1, 1) := by decide +kernel
theorem dX11_all_242 : decode cX11_all 242 = .ok (.iadd, 1) := by decide +kernel
theorem dX11_all_243 : decode cX11_all 243 = .ok (.aload_n 0, 1) := by decide +kernel
theorem dX11_all_244 : decode cX11_all 244 = .ok (.getfield 144, 3) := by decide +kernel
theorem dX11_all_247 : decode cX11_all 247 = .ok (.iastore, 1) := by decide +kernel
theorem dX11_all_248 : decode cX11_all 248 = .ok (.aload_n 1, 1) := by decide +kernel
theorem dX11_all_249 : decode cX11_all 249 = .ok (.iload_n 3, 1) := by decide +kernel
theorem dX11_all_250 : decode cX11_all 250 = .ok (.iconst 2, 1) := by decide +kernel
theorem dX11_all_251 : decode cX11_all 251 = .ok (.iadd, 1) := by decide +kernel
theorem dX11_all_252 : decode cX11_all 252 = .ok (.aload_n 0, 1) := by decide +kernel
theorem dX11_all_253 : decode cX11_all 253 = .ok (.getfield 147, 3) := by decide +kernel
theorem dX11_all_256 : decode cX11_all 256 = .ok (.iastore, 1) := by decide +kernel
theorem dX11_all_257 : decode cX11_all 257 = .ok (.aload_n 1, 1) := by decide +kernel
theorem dX11_all_258 : decode cX11_all 258 = .ok (.iload_n 3, 1) := by decide +kernel
theorem dX11_all_259 : decode cX11_all 259 = .ok (.iconst 3, 1) := by decide +kernel
theorem dX11_all_260 : decode cX11_all 260 = .ok (.iadd, 1) := by decide +kernel
theorem dX11_all_261 : decode cX11_all 261 = .ok (.aload_n 0, 1) := by decide +kernel
theorem dX11_all_262 : decode cX11_all 262 = .ok (.getfield 7, 3) := by decide +kernel
theorem dX11_all_265 : decode cX11_all 265 = .ok (.iastore, 1) := by decide +kernel
theorem dX11_all_266 : decode cX11_all 266 = .ok (.aload_n 1, 1) := by decide +kernel
theorem dX11_all_267 : decode cX11_all 267 = .ok (.iload_n 3, 1) := by decide +kernel
theorem dX11_all_268 : decode cX11_all 268 = .ok (.iconst 4, 1) := by decide +kernel
theorem dX11_all_269 : decode cX11_all 269 = .ok (.iadd, 1) := by decide +kernel
theorem dX11_all_270 : decode cX11_all 270 = .ok (.aload_n 0, 1) := by decide +kernel
theorem dX11_all_271 : decode cX11_all 271 = .ok (.getfield 13, 3) := by decide +kernel
theorem dX11_all_274 : decode cX11_all 274 = .ok (.iastore, 1) := by decide +kernel
theorem dX11_all_275 : decode cX11_all 275 = .ok (.aload_n 1, 1) := by decide +kernel
theorem dX11_all_276 : decode cX11_all 276 = .ok (.iload_n 3, 1) := by decide +kernel
theorem dX11_all_277 : decode cX11_all 277 = .ok (.iconst 5, 1) := by decide +kernel
theorem dX11_all_278 : decode cX11_all 278 = .ok (.iadd, 1) := by decide +kernel
theorem dX11_all_279 : decode cX11_all 279 = .ok (.aload_n 0, 1) := by decide +kernel
theorem dX11_all_280 : decode cX11_all 280 = .ok (.getfield 16, 3) := by decide +kernel
theorem dX11_all_283 : decode cX11_all 283 = .ok (.iastore, 1) := by decide +kernel
theorem dX11_all_284 : decode cX11_all 284 = .ok (.aload_n 1, 1) := by decide +kernel
theorem dX11_all_285 : decode cX11_all 285 = .ok (.iload_n 3, 1) := by decide +kernel
theorem dX11_all_286 : decode cX11_all 286 = .ok (.bipush 6, 2) := by decide +kernel
theorem dX11_all_288 : decode cX11_all 288 = .ok (.iadd, 1) := by decide +kernel
theorem dX11_all_289 : decode cX11_all 289 = .ok (.aload_n 0, 1) := by decide +kernel
theorem dX11_all_290 : decode cX11_all 290 = .ok (.getfield 170, 3) := by decide +kernel
theorem dX11_all_293 : decode cX11_all 293 = .ok (.iastore, 1) := by decide +kernel
theorem dX11_all_294 : decode cX11_all 294 = .ok (.aload_n 1, 1) := by decide +kernel
theorem dX11_all_295 : decode cX11_all 295 = .ok (.iload_n 3, 1) := by decide +kernel
theorem dX11_all_296 : decode cX11_all 296 = .ok (.bipush 7, 2) := by decide +kernel
theorem dX11_all_298 : decode cX11_all 298 = .ok (.iadd, 1) := by decide +kernel
theorem dX11_all_299 : decode cX11_all 299 = .ok (.aload_n 0, 1) := by decide +kernel
theorem dX11_all_300 : decode cX11_all 300 = .ok (.getfield 19, 3) := by decide +kernel
theorem dX11_all_303 : decode cX11_all 303 = .ok (.iastore, 1) := by decide +kernel
theorem dX11_all_304 : decode cX11_all 304 = .ok (.return_, 1) := by decide +kernel
theorem dX11_house_0 : decode cX11_house 0 = .ok (.aload_n 0, 1) := by decide +kernel
theorem dX11_house_1 : decode cX11_house 1 = .ok (.iload_n 1, 1) := by decide +kernel
theorem dX11_house_2 : decode cX11_house 2 = .ok (.invokevirtual 229, 3) := by decide +kernel
theorem dX11_house_5 : decode cX11_house 5 = .ok (.istore_n 2, 1) := by decide +kernel
theorem dX11_house_6 : decode cX11_house 6 = .ok (.iload_n 2, 1) := by decide +kernel
theorem dX11_house_7 : decode cX11_house 7 = .ok (.ifCond .eq 9, 3) := by decide +kernel
theorem dX11_house_10 : decode cX11_house 10 = .ok (.aload_n 0, 1) := by decide +kernel
theorem dX11_house_11 : decode cX11_house 11 = .ok (.iload_n 2, 1) := by decide +kernel
theorem dX11_house_12 : decode cX11_house 12 = .ok (.invokevirtual 130, 3) := by decide +kernel
theorem dX11_house_15 : decode cX11_house 15 = .ok (.ireturn, 1) := by decide +kernel
theorem dX11_house_16 : decode cX11_house 16 = .ok (.aload_n 0, 1) := by decide +kernel
theorem dX11_house_17 : decode cX11_house 17 = .ok (.aload_n 0, 1) := by decide +kernel
theorem dX11_house_18 : decode cX11_house 18 = .ok (.getfield 90, 3) := by decide +kernel
theorem dX11_house_21 : decode cX11_house 21 = .ok (.iconst 0, 1) := by decide +kernel
theorem dX11_house_22 : decode cX11_house 22 = .ok (.invokevirtual 232, 3) := by decide +kernel
theorem dX11_house_25 : decode cX11_house 25 = .ok (.aload_n 0, 1) := by decide +kernel
theorem dX11_house_26 : decode cX11_house 26 = .ok (.sipush 160, 3) := by decide +kernel
theorem dX11_house_29 : decode cX11_house 29 = .ok (.iload_n 1, 1) := by decide +kernel
theorem dX11_house_30 : decode cX11_house 30 = .ok (.imul, 1) := by decide +kernel
theorem dX11_house_31 : decode cX11_house 31 = .ok (.putfield 199, 3) := by decide +kernel
theorem dX11_house_34 : decode cX11_house 34 = .ok (.aload_n 0, 1) := by decide +kernel
theorem dX11_house_35 : decode cX11_house 35 = .ok (.iconst 0, 1) := by decide +kernel
theorem dX11_house_36 : decode cX11_house 36 = .ok (.putfield 193, 3) := by decide +kernel
theorem dX11_house_39 : decode cX11_house 39 = .ok (.aload_n 0, 1) := by decide +kernel
theorem dX11_house_40 : decode cX11_house 40 = .ok (.aload_n 0, 1) := by decide +kernel
theorem dX11_house_41 : decode cX11_house 41 = .ok (.getfield 68, 3) := by decide +kernel
theorem dX11_house_44 : decode cX11_house 44 = .ok (.iload_n 1, 1) := by decide +kernel
theorem dX11_house_45 : decode cX11_house 45 = .ok (.iaload, 1) := by decide +kernel
theorem dX11_house_46 : decode cX11_house 46 = .ok (.putfield 196, 3) := by decide +kernel
theorem dX11_house_49 : decode cX11_house 49 = .ok (.aload_n 0, 1) := by decide +kernel
theorem dX11_house_50 : decode cX11_house 50 = .ok (.iconst (-1), 1) := by decide +kernel
theorem dX11_house_51 : decode cX11_house 51 = .ok (.putfield 22, 3) := by decide +kernel
theorem dX11_house_54 : decode cX11_house 54 = .ok (.iconst 1, 1) := by decide +kernel
theorem dX11_house_55 : decode cX11_house 55 = .ok (.istore_n 3, 1) := by decide +kernel
theorem dX11_house_56 : decode cX11_house 56 = .ok (.aload_n 0, 1) := by decide +kernel
theorem dX11_house_57 : decode cX11_house 57 = .ok (.invokevirtual 236, 3) := by decide +kernel
theorem dX11_house_60 : decode cX11_house 60 = .ok (.istore 4, 2) := by decide +kernel
theorem dX11_house_62 : decode cX11_house 62 = .ok (.iload 4, 2) := by decide +kernel
theorem dX11_house_64 : decode cX11_house 64 = .ok (.ifCond .eq 69, 3) := by decide +kernel
theorem dX11_house_67 : decode cX11_house 67 = .ok (.aload_n 0, 1) := by decide +kernel
theorem dX11_house_68 : decode cX11_house 68 = .ok (.getfield 193, 3) := by decide +kernel
theorem dX11_house_71 : decode cX11_house 71 = .ok (.aload_n 0, 1) := by decide +kernel
theorem dX11_house_72 : decode cX11_house 72 = .ok (.getfield 196, 3) := by decide +kernel
theorem dX11_house_75 : decode cX11_house 75 = .ok (.if_icmp .ge 58, 3) := by decide +kernel
theorem dX11_house_78 : decode cX11_house 78 = .ok (.aload_n 0, 1) := by decide +kernel
theorem dX11_house_79 : decode cX11_house 79 = .ok (.getfield 74, 3) := by decide +kernel
theorem dX11_house_82 : decode cX11_house 82 = .ok (.aload_n 0, 1) := by decide +kernel
theorem dX11_house_83 : decode cX11_house 83 = .ok (.getfield 199, 3) := by decide +kernel
theorem dX11_house_86 : decode cX11_house 86 = .ok (.aload_n 0, 1) := by decide +kernel
theorem dX11_house_87 : decode cX11_house 87 = .ok (.getfield 193, 3) := by decide +kernel
theorem dX11_house_90 : decode cX11_house 90 = .ok (.iadd, 1) := by decide +kernel
theorem dX11_house_91 : decode cX11_house 91 = .ok (.laload, 1) := by decide +kernel
theorem dX11_house_92 : decode cX11_house 92 = .ok (.l2i, 1) := by decide +kernel
theorem dX11_house_93 : decode cX11_house 93 = .ok (.bipush 59, 2) := by decide +kernel
theorem dX11_house_95 : decode cX11_house 95 = .ok (.if_icmp .eq 16, 3) := by decide +kernel
theorem dX11_house_98 : decode cX11_house 98 = .ok (.aload_n 0, 1) := by decide +kernel
theorem dX11_house_99 : decode cX11_house 99 = .ok (.aload_n 0, 1) := by decide +kernel
theorem dX11_house_100 : decode cX11_house 100 = .ok (.getfield 193, 3) := by decide +kernel
theorem dX11_house_103 : decode cX11_house 103 = .ok (.invokevirtual 209, 3) := by decide +kernel
theorem dX11_house_106 : decode cX11_house 106 = .ok (.istore 4, 2) := by decide +kernel
theorem dX11_house_108 : decode cX11_house 108 = .ok (.goto (-46), 3) := by decide +kernel
theorem dX11_house_111 : decode cX11_house 111 = .ok (.aload_n 0, 1) := by decide +kernel
theorem dX11_house_112 : decode cX11_house 112 = .ok (.dup, 1) := by decide +kernel
theorem dX11_house_113 : decode cX11_house 113 = .ok (.getfield 193, 3) := by decide +kernel
theorem dX11_house_116 : decode cX11_house 116 = .ok (.iconst 1, 1) := by decide +kernel
theorem dX11_house_117 : decode cX11_house 117 = .ok (.iadd, 1) := by decide +kernel
theorem dX11_house_118 : decode cX11_house 118 = .ok (.putfield 193, 3) := by decide +kernel
theorem dX11_house_121 : decode cX11_house 121 = .ok (.iinc 3 1, 3) := by decide +kernel
theorem dX11_house_124 : decode cX11_house 124 = .ok (.aload_n 0, 1) := by decide +kernel
theorem dX11_house_125 : decode cX11_house 125 = .ok (.invokevirtual 236, 3) := by decide +kernel
theorem dX11_house_128 : decode cX11_house 128 = .ok (.istore 4, 2) := by decide +kernel
theorem dX11_house_130 : decode cX11_house 130 = .ok (.goto (-68), 3) := by decide +kernel
theorem dX11_house_133 : decode cX11_house 133 = .ok (.iload 4, 2) := by decide +kernel
theorem dX11_house_135 : decode cX11_house 135 = .ok (.ifCond .eq 5, 3) := by decide +kernel
theorem dX11_house_138 : decode cX11_house 138 = .ok (.iload_n 3, 1) := by decide +kernel
theorem dX11_house_139 : decode cX11_house 139 = .ok (.ireturn, 1) := by decide +kernel
theorem dX11_house_140 : decode cX11_house 140 = .ok (.aload_n 0, 1) := by decide +kernel
theorem dX11_house_141 : decode cX11_house 141 = .ok (.aload_n 0, 1) := by decide +kernel
theorem dX11_house_142 : decode cX11_house 142 = .ok (.getfield 90, 3) := by decide +kernel
theorem dX11_house_145 : decode cX11_house 145 = .ok (.iconst 1, 1) := by decide +kernel
theorem dX11_house_146 : decode cX11_house 146 = .ok (.invokevirtual 232, 3) := by decide +kernel
theorem dX11_house_149 : decode cX11_house 149 = .ok (.aload_n 0, 1) := by decide +kernel
theorem dX11_house_150 : decode cX11_house 150 = .ok (.aload_n 0, 1) := by decide +kernel
theorem dX11_house_151 : decode cX11_house 151 = .ok (.getfield 190, 3) := by decide +kernel
theorem dX11_house_154 : decode cX11_house 154 = .ok (.putfield 22, 3) := by decide +kernel
theorem dX11_house_157 : decode cX11_house 157 = .ok (.aload_n 0, 1) := by decide +kernel
theorem dX11_house_158 : decode cX11_house 158 = .ok (.bipush (-6), 2) := by decide +kernel
theorem dX11_house_160 : decode cX11_house 160 = .ok (.invokevirtual 130, 3) := by decide +kernel
theorem dX11_house_163 : decode cX11_house 163 = .ok (.ireturn, 1) := by decide +kernel
theorem dX11_fault_0 : decode cX11_fault 0 = .ok (.aload_n 0, 1) := by decide +kernel
theorem dX11_fault_1 : decode cX11_fault 1 = .ok (.getfield 22, 3) := by decide +kernel
theorem dX11_fault_4 : decode cX11_fault 4 = .ok (.ireturn, 1) := by decide +kernel
theorem dX11_loss_0 : decode cX11_loss 0 = .ok (.aload_n 0, 1) := by decide +kernel
theorem dX11_loss_1 : decode cX11_loss 1 = .ok (.getfield 38, 3) := by decide +kernel
theorem dX11_loss_4 : decode cX11_loss 4 = .ok (.iload_n 1, 1) := by decide +kernel
theorem dX11_loss_5 : decode cX11_loss 5 = .ok (.iaload, 1) := by decide +kernel
theorem dX11_loss_6 : decode cX11_loss 6 = .ok (.iconst 1, 1) := by decide +kernel
theorem dX11_loss_7 : decode cX11_loss 7 = .ok (.if_icmp .ne 12, 3) := by decide +kernel
theorem dX11_loss_10 : decode cX11_loss 10 = .ok (.aload_n 0, 1) := by decide +kernel
theorem dX11_loss_11 : decode cX11_loss 11 = .ok (.getfield 32, 3) := by decide +kernel
theorem dX11_loss_14 : decode cX11_loss 14 = .ok (.iload_n 1, 1) := by decide +kernel
theorem dX11_loss_15 : decode cX11_loss 15 = .ok (.iaload, 1) := by decide +kernel
theorem dX11_loss_16 : decode cX11_loss 16 = .ok (.goto 4, 3) := by decide +kernel
theorem dX11_loss_19 : decode cX11_loss 19 = .ok (.iconst 0, 1) := by decide +kernel
theorem dX11_loss_20 : decode cX11_loss 20 = .ok (.istore_n 2, 1) := by decide +kernel
theorem dX11_loss_21 : decode cX11_loss 21 = .ok (.aload_n 0, 1) := by decide +kernel
theorem dX11_loss_22 : decode cX11_loss 22 = .ok (.getfield 29, 3) := by decide +kernel
theorem dX11_loss_25 : decode cX11_loss 25 = .ok (.iload_n 1, 1) := by decide +kernel
theorem dX11_loss_26 : decode cX11_loss 26 = .ok (.iaload, 1) := by decide +kernel
theorem dX11_loss_27 : decode cX11_loss 27 = .ok (.tableswitch 65 1 6 #[37, 57, 46, 63, 59, 63], 37) := by decide +kernel
theorem dX11_loss_64 : decode cX11_loss 64 = .ok (.aload_n 0, 1) := by decide +kernel
theorem dX11_loss_65 : decode cX11_loss 65 = .ok (.getfield 32, 3) := by decide +kernel
theorem dX11_loss_68 : decode cX11_loss 68 = .ok (.iload_n 1, 1) := by decide +kernel
theorem dX11_loss_69 : decode cX11_loss 69 = .ok (.iaload, 1) := by decide +kernel
theorem dX11_loss_70 : decode cX11_loss 70 = .ok (.iconst 3, 1) := by decide +kernel
theorem dX11_loss_71 : decode cX11_loss 71 = .ok (.iadd, 1) := by decide +kernel
theorem dX11_loss_72 : decode cX11_loss 72 = .ok (.ireturn, 1) := by decide +kernel
theorem dX11_loss_73 : decode cX11_loss 73 = .ok (.iconst 2, 1) := by decide +kernel
theorem dX11_loss_74 : decode cX11_loss 74 = .ok (.aload_n 0, 1) := by decide +kernel
theorem dX11_loss_75 : decode cX11_loss 75 = .ok (.getfield 32, 3) := by decide +kernel
theorem dX11_loss_78 : decode cX11_loss 78 = .ok (.iload_n 1, 1) := by decide +kernel
theorem dX11_loss_79 : decode cX11_loss 79 = .ok (.iaload, 1) := by decide +kernel
theorem dX11_loss_80 : decode cX11_loss 80 = .ok (.iconst 3, 1) := by decide +kernel
theorem dX11_loss_81 : decode cX11_loss 81 = .ok (.iadd, 1) := by decide +kernel
theorem dX11_loss_82 : decode cX11_loss 82 = .ok (.imul, 1) := by decide +kernel
theorem dX11_loss_83 : decode cX11_loss 83 = .ok (.ireturn, 1) := by decide +kernel
theorem dX11_loss_84 : decode cX11_loss 84 = .ok (.iload_n 2, 1) := by decide +kernel
theorem dX11_loss_85 : decode cX11_loss 85 = .ok (.ireturn, 1) := by decide +kernel
theorem dX11_loss_86 : decode cX11_loss 86 = .ok (.iload_n 2, 1) := by decide +kernel
theorem dX11_loss_87 : decode cX11_loss 87 = .ok (.iconst 2, 1) := by decide +kernel
theorem dX11_loss_88 : decode cX11_loss 88 = .ok (.idiv, 1) := by decide +kernel
theorem dX11_loss_89 : decode cX11_loss 89 = .ok (.ireturn, 1) := by decide +kernel
theorem dX11_loss_90 : decode cX11_loss 90 = .ok (.iconst 0, 1) := by decide +kernel
theorem dX11_loss_91 : decode cX11_loss 91 = .ok (.ireturn, 1) := by decide +kernel
theorem dX11_loss_92 : decode cX11_loss 92 = .ok (.aload_n 0, 1) := by decide +kernel
theorem dX11_loss_93 : decode cX11_loss 93 = .ok (.getfield 32, 3) := by decide +kernel
theorem dX11_loss_96 : decode cX11_loss 96 = .ok (.iload_n 1, 1) := by decide +kernel
theorem dX11_loss_97 : decode cX11_loss 97 = .ok (.iaload, 1) := by decide +kernel
theorem dX11_loss_98 : decode cX11_loss 98 = .ok (.ireturn, 1) := by decide +kernel
theorem dX11_apart_0 : decode cX11_apart 0 = .ok (.iload_n 1, 1) := by decide +kernel
theorem dX11_apart_1 : decode cX11_apart 1 = .ok (.iload_n 2, 1) := by decide +kernel
theorem dX11_apart_2 : decode cX11_apart 2 = .ok (.if_icmp .le 9, 3) := by decide +kernel
theorem dX11_apart_5 : decode cX11_apart 5 = .ok (.iload_n 1, 1) := by decide +kernel
theorem dX11_apart_6 : decode cX11_apart 6 = .ok (.iload_n 2, 1) := by decide +kernel
theorem dX11_apart_7 : decode cX11_apart 7 = .ok (.isub, 1) := by decide +kernel
theorem dX11_apart_8 : decode cX11_apart 8 = .ok (.goto 6, 3) := by decide +kernel
theorem dX11_apart_11 : decode cX11_apart 11 = .ok (.iload_n 2, 1) := by decide +kernel
theorem dX11_apart_12 : decode cX11_apart 12 = .ok (.iload_n 1, 1) := by decide +kernel
theorem dX11_apart_13 : decode cX11_apart 13 = .ok (.isub, 1) := by decide +kernel
theorem dX11_apart_14 : decode cX11_apart 14 = .ok (.ireturn, 1) := by decide +kernel
theorem dX11_far_0 : decode cX11_far 0 = .ok (.aload_n 0, 1) := by decide +kernel
theorem dX11_far_1 : decode cX11_far 1 = .ok (.iload_n 1, 1) := by decide +kernel
theorem dX11_far_2 : decode cX11_far 2 = .ok (.bipush 10, 2) := by decide +kernel
theorem dX11_far_4 : decode cX11_far 4 = .ok (.idiv, 1) := by decide +kernel
theorem dX11_far_5 : decode cX11_far 5 = .ok (.iload_n 2, 1) := by decide +kernel
theorem dX11_far_6 : decode cX11_far 6 = .ok (.bipush 10, 2) := by decide +kernel
theorem dX11_far_8 : decode cX11_far 8 = .ok (.idiv, 1) := by decide +kernel
theorem dX11_far_9 : decode cX11_far 9 = .ok (.invokevirtual 239, 3) := by decide +kernel
theorem dX11_far_12 : decode cX11_far 12 = .ok (.aload_n 0, 1) := by decide +kernel
theorem dX11_far_13 : decode cX11_far 13 = .ok (.iload_n 1, 1) := by decide +kernel
theorem dX11_far_14 : decode cX11_far 14 = .ok (.bipush 10, 2) := by decide +kernel
theorem dX11_far_16 : decode cX11_far 16 = .ok (.irem, 1) := by decide +kernel
theorem dX11_far_17 : decode cX11_far 17 = .ok (.iload_n 2, 1) := by decide +kernel
theorem dX11_far_18 : decode cX11_far 18 = .ok (.bipush 10, 2) := by decide +kernel
theorem dX11_far_20 : decode cX11_far 20 = .ok (.irem, 1) := by decide +kernel
theorem dX11_far_21 : decode cX11_far 21 = .ok (.invokevirtual 239, 3) := by decide +kernel
theorem dX11_far_24 : decode cX11_far 24 = .ok (.iadd, 1) := by decide +kernel
theorem dX11_far_25 : decode cX11_far 25 = .ok (.ireturn, 1) := by decide +kernel
theorem dX11_hums_0 : decode cX11_hums 0 = .ok (.aload_n 0, 1) := by decide +kernel
theorem dX11_hums_1 : decode cX11_hums 1 = .ok (.getfield 29, 3) := by decide +kernel
theorem dX11_hums_4 : decode cX11_hums 4 = .ok (.iload_n 1, 1) := by decide +kernel
theorem dX11_hums_5 : decode cX11_hums 5 = .ok (.iaload, 1) := by decide +kernel
theorem dX11_hums_6 : decode cX11_hums 6 = .ok (.bipush 6, 2) := by decide +kernel
theorem dX11_hums_8 : decode cX11_hums 8 = .ok (.if_icmp .ne 8, 3) := by decide +kernel
theorem dX11_hums_11 : decode cX11_hums 11 = .ok (.bipush 10, 2) := by decide +kernel
theorem dX11_hums_13 : decode cX11_hums 13 = .ok (.goto 35, 3) := by decide +kernel
theorem dX11_hums_16 : decode cX11_hums 16 = .ok (.aload_n 0, 1) := by decide +kernel
theorem dX11_hums_17 : decode cX11_hums 17 = .ok (.getfield 29, 3) := by decide +kernel
theorem dX11_hums_20 : decode cX11_hums 20 = .ok (.iload_n 1, 1) := by decide +kernel
theorem dX11_hums_21 : decode cX11_hums 21 = .ok (.iaload, 1) := by decide +kernel
theorem dX11_hums_22 : decode cX11_hums 22 = .ok (.iconst 4, 1) := by decide +kernel
theorem dX11_hums_23 : decode cX11_hums 23 = .ok (.if_icmp .ne 24, 3) := by decide +kernel
theorem dX11_hums_26 : decode cX11_hums 26 = .ok (.aload_n 0, 1) := by decide +kernel
theorem dX11_hums_27 : decode cX11_hums 27 = .ok (.getfield 170, 3) := by decide +kernel
theorem dX11_hums_30 : decode cX11_hums 30 = .ok (.bipush 10, 2) := by decide +kernel
theorem dX11_hums_32 : decode cX11_hums 32 = .ok (.irem, 1) := by decide +kernel
theorem dX11_hums_33 : decode cX11_hums 33 = .ok (.aload_n 0, 1) := by decide +kernel
theorem dX11_hums_34 : decode cX11_hums 34 = .ok (.getfield 32, 3) := by decide +kernel
theorem dX11_hums_37 : decode cX11_hums 37 = .ok (.iload_n 1, 1) := by decide +kernel
theorem dX11_hums_38 : decode cX11_hums 38 = .ok (.iaload, 1) := by decide +kernel
theorem dX11_hums_39 : decode cX11_hums 39 = .ok (.if_icmp .ge 8, 3) := by decide +kernel
theorem dX11_hums_42 : decode cX11_hums 42 = .ok (.bipush 20, 2) := by decide +kernel
theorem dX11_hums_44 : decode cX11_hums 44 = .ok (.goto 4, 3) := by decide +kernel
theorem dX11_hums_47 : decode cX11_hums 47 = .ok (.iconst 0, 1) := by decide +kernel
theorem dX11_hums_48 : decode cX11_hums 48 = .ok (.istore_n 3, 1) := by decide +kernel
theorem dX11_hums_49 : decode cX11_hums 49 = .ok (.iload_n 3, 1) := by decide +kernel
theorem dX11_hums_50 : decode cX11_hums 50 = .ok (.iconst 5, 1) := by decide +kernel
theorem dX11_hums_51 : decode cX11_hums 51 = .ok (.aload_n 0, 1) := by decide +kernel
theorem dX11_hums_52 : decode cX11_hums 52 = .ok (.aload_n 0, 1) := by decide +kernel
theorem dX11_hums_53 : decode cX11_hums 53 = .ok (.getfield 35, 3) := by decide +kernel
theorem dX11_hums_56 : decode cX11_hums 56 = .ok (.iload_n 1, 1) := by decide +kernel
theorem dX11_hums_57 : decode cX11_hums 57 = .ok (.iaload, 1) := by decide +kernel
theorem dX11_hums_58 : decode cX11_hums 58 = .ok (.iload_n 2, 1) := by decide +kernel
theorem dX11_hums_59 : decode cX11_hums 59 = .ok (.invokevirtual 242, 3) := by decide +kernel
theorem dX11_hums_62 : decode cX11_hums 62 = .ok (.imul, 1) := by decide +kernel
theorem dX11_hums_63 : decode cX11_hums 63 = .ok (.isub, 1) := by decide +kernel
theorem dX11_hums_64 : decode cX11_hums 64 = .ok (.istore_n 3, 1) := by decide +kernel
theorem dX11_hums_65 : decode cX11_hums 65 = .ok (.iload_n 3, 1) := by decide +kernel
theorem dX11_hums_66 : decode cX11_hums 66 = .ok (.ifCond .ge 7, 3) := by decide +kernel
theorem dX11_hums_69 : decode cX11_hums 69 = .ok (.iconst 0, 1) := by decide +kernel
theorem dX11_hums_70 : decode cX11_hums 70 = .ok (.goto 4, 3) := by decide +kernel
theorem dX11_hums_73 : decode cX11_hums 73 = .ok (.iload_n 3, 1) := by decide +kernel
theorem dX11_hums_74 : decode cX11_hums 74 = .ok (.ireturn, 1) := by decide +kernel
theorem dX11_dinOf_0 : decode cX11_dinOf 0 = .ok (.iconst 5, 1) := by decide +kernel
theorem dX11_dinOf_1 : decode cX11_dinOf 1 = .ok (.aload_n 0, 1) := by decide +kernel
theorem dX11_dinOf_2 : decode cX11_dinOf 2 = .ok (.iload_n 2, 1) := by decide +kernel
theorem dX11_dinOf_3 : decode cX11_dinOf 3 = .ok (.iload_n 3, 1) := by decide +kernel
theorem dX11_dinOf_4 : decode cX11_dinOf 4 = .ok (.invokevirtual 239, 3) := by decide +kernel
theorem dX11_dinOf_7 : decode cX11_dinOf 7 = .ok (.isub, 1) := by decide +kernel
theorem dX11_dinOf_8 : decode cX11_dinOf 8 = .ok (.istore 4, 2) := by decide +kernel
theorem dX11_dinOf_10 : decode cX11_dinOf 10 = .ok (.iload 4, 2) := by decide +kernel
theorem dX11_dinOf_12 : decode cX11_dinOf 12 = .ok (.ifCond .gt 7, 3) := by decide +kernel
theorem dX11_dinOf_15 : decode cX11_dinOf 15 = .ok (.iconst 0, 1) := by decide +kernel
theorem dX11_dinOf_16 : decode cX11_dinOf 16 = .ok (.goto 9, 3) := by decide +kernel
theorem dX11_dinOf_19 : decode cX11_dinOf 19 = .ok (.iload_n 1, 1) := by decide +kernel
theorem dX11_dinOf_20 : decode cX11_dinOf 20 = .ok (.iload 4, 2) := by decide +kernel
theorem dX11_dinOf_22 : decode cX11_dinOf 22 = .ok (.imul, 1) := by decide +kernel
theorem dX11_dinOf_23 : decode cX11_dinOf 23 = .ok (.iconst 5, 1) := by decide +kernel
theorem dX11_dinOf_24 : decode cX11_dinOf 24 = .ok (.idiv, 1) := by decide +kernel
theorem dX11_dinOf_25 : decode cX11_dinOf 25 = .ok (.ireturn, 1) := by decide +kernel
theorem dX11_looks_0 : decode cX11_looks 0 = .ok (.iconst 0, 1) := by decide +kernel
theorem dX11_looks_1 : decode cX11_looks 1 = .ok (.istore_n 1, 1) := by decide +kernel
theorem dX11_looks_2 : decode cX11_looks 2 = .ok (.iload_n 1, 1) := by decide +kernel
theorem dX11_looks_3 : decode cX11_looks 3 = .ok (.bipush 80, 2) := by decide +kernel
theorem dX11_looks_5 : decode cX11_looks 5 = .ok (.if_icmp .ge 23, 3) := by decide +kernel
theorem dX11_looks_8 : decode cX11_looks 8 = .ok (.aload_n 0, 1) := by decide +kernel
theorem dX11_looks_9 : decode cX11_looks 9 = .ok (.getfield 96, 3) := by decide +kernel
theorem dX11_looks_12 : decode cX11_looks 12 = .ok (.iload_n 1, 1) := by decide +kernel
theorem dX11_looks_13 : decode cX11_looks 13 = .ok (.iconst 0, 1) := by decide +kernel
theorem dX11_looks_14 : decode cX11_looks 14 = .ok (.iastore, 1) := by decide +kernel
theorem dX11_looks_15 : decode cX11_looks 15 = .ok (.aload_n 0, 1) := by decide +kernel
theorem dX11_looks_16 : decode cX11_looks 16 = .ok (.getfield 99, 3) := by decide +kernel
theorem dX11_looks_19 : decode cX11_looks 19 = .ok (.iload_n 1, 1) := by decide +kernel
theorem dX11_looks_20 : decode cX11_looks 20 = .ok (.iconst 0, 1) := by decide +kernel
theorem dX11_looks_21 : decode cX11_looks 21 = .ok (.iastore, 1) := by decide +kernel
theorem dX11_looks_22 : decode cX11_looks 22 = .ok (.iinc 1 1, 3) := by decide +kernel
theorem dX11_looks_25 : decode cX11_looks 25 = .ok (.goto (-23), 3) := by decide +kernel
theorem dX11_looks_28 : decode cX11_looks 28 = .ok (.iconst 0, 1) := by decide +kernel
theorem dX11_looks_29 : decode cX11_looks 29 = .ok (.istore_n 1, 1) := by decide +kernel
theorem dX11_looks_30 : decode cX11_looks 30 = .ok (.iload_n 1, 1) := by decide +kernel
theorem dX11_looks_31 : decode cX11_looks 31 = .ok (.aload_n 0, 1) := by decide +kernel
theorem dX11_looks_32 : decode cX11_looks 32 = .ok (.getfield 123, 3) := by decide +kernel
theorem dX11_looks_35 : decode cX11_looks 35 = .ok (.if_icmp .ge 120, 3) := by decide +kernel
theorem dX11_looks_38 : decode cX11_looks 38 = .ok (.iload_n 1, 1) := by decide +kernel
theorem dX11_looks_39 : decode cX11_looks 39 = .ok (.aload_n 0, 1) := by decide +kernel
theorem dX11_looks_40 : decode cX11_looks 40 = .ok (.getfield 102, 3) := by decide +kernel
theorem dX11_looks_43 : decode cX11_looks 43 = .ok (.if_icmp .ne 6, 3) := by decide +kernel
theorem dX11_looks_46 : decode cX11_looks 46 = .ok (.goto 103, 3) := by decide +kernel
theorem dX11_looks_49 : decode cX11_looks 49 = .ok (.aload_n 0, 1) := by decide +kernel
theorem dX11_looks_50 : decode cX11_looks 50 = .ok (.getfield 96, 3) := by decide +kernel
theorem dX11_looks_53 : decode cX11_looks 53 = .ok (.aload_n 0, 1) := by decide +kernel
theorem dX11_looks_54 : decode cX11_looks 54 = .ok (.getfield 35, 3) := by decide +kernel
theorem dX11_looks_57 : decode cX11_looks 57 = .ok (.iload_n 1, 1) := by decide +kernel
theorem dX11_looks_58 : decode cX11_looks 58 = .ok (.iaload, 1) := by decide +kernel
theorem dX11_looks_59 : decode cX11_looks 59 = .ok (.dup2, 1) := by decide +kernel
theorem dX11_looks_60 : decode cX11_looks 60 = .ok (.iaload, 1) := by decide +kernel
theorem dX11_looks_61 : decode cX11_looks 61 = .ok (.aload_n 0, 1) := by decide +kernel
theorem dX11_looks_62 : decode cX11_looks 62 = .ok (.iload_n 1, 1) := by decide +kernel
theorem dX11_looks_63 : decode cX11_looks 63 = .ok (.invokevirtual 141, 3) := by decide +kernel
theorem dX11_looks_66 : decode cX11_looks 66 = .ok (.iadd, 1) := by decide +kernel
theorem dX11_looks_67 : decode cX11_looks 67 = .ok (.iastore, 1) := by decide +kernel
theorem dX11_looks_68 : decode cX11_looks 68 = .ok (.aload_n 0, 1) := by decide +kernel
theorem dX11_looks_69 : decode cX11_looks 69 = .ok (.getfield 29, 3) := by decide +kernel
theorem dX11_looks_72 : decode cX11_looks 72 = .ok (.iload_n 1, 1) := by decide +kernel
theorem dX11_looks_73 : decode cX11_looks 73 = .ok (.iaload, 1) := by decide +kernel
theorem dX11_looks_74 : decode cX11_looks 74 = .ok (.iconst 4, 1) := by decide +kernel
theorem dX11_looks_75 : decode cX11_looks 75 = .ok (.if_icmp .eq 17, 3) := by decide +kernel
theorem dX11_looks_78 : decode cX11_looks 78 = .ok (.aload_n 0, 1) := by decide +kernel
theorem dX11_looks_79 : decode cX11_looks 79 = .ok (.getfield 29, 3) := by decide +kernel
theorem dX11_looks_82 : decode cX11_looks 82 = .ok (.iload_n 1, 1) := by decide +kernel
theorem dX11_looks_83 : decode cX11_looks 83 = .ok (.iaload, 1) := by decide +kernel
theorem dX11_looks_84 : decode cX11_looks 84 = .ok (.bipush 6, 2) := by decide +kernel
theorem dX11_looks_86 : decode cX11_looks 86 = .ok (.if_icmp .eq 6, 3) := by decide +kernel
theorem dX11_looks_89 : decode cX11_looks 89 = .ok (.goto 60, 3) := by decide +kernel
theorem dX11_looks_92 : decode cX11_looks 92 = .ok (.iconst 0, 1) := by decide +kernel
theorem dX11_looks_93 : decode cX11_looks 93 = .ok (.istore_n 2, 1) := by decide +kernel
theorem dX11_looks_94 : decode cX11_looks 94 = .ok (.iload_n 2, 1) := by decide +kernel
theorem dX11_looks_95 : decode cX11_looks 95 = .ok (.aload_n 0, 1) := by decide +kernel
theorem dX11_looks_96 : decode cX11_looks 96 = .ok (.getfield 7, 3) := by decide +kernel
theorem dX11_looks_99 : decode cX11_looks 99 = .ok (.if_icmp .ge 50, 3) := by decide +kernel
theorem dX11_looks_102 : decode cX11_looks 102 = .ok (.iconst 0, 1) := by decide +kernel
theorem dX11_looks_103 : decode cX11_looks 103 = .ok (.istore_n 3, 1) := by decide +kernel
theorem dX11_looks_104 : decode cX11_looks 104 = .ok (.iload_n 3, 1) := by decide +kernel
theorem dX11_looks_105 : decode cX11_looks 105 = .ok (.aload_n 0, 1) := by decide +kernel
theorem dX11_looks_106 : decode cX11_looks 106 = .ok (.getfield 7, 3) := by decide +kernel
theorem dX11_looks_109 : decode cX11_looks 109 = .ok (.if_icmp .ge 34, 3) := by decide +kernel
theorem dX11_looks_112 : decode cX11_looks 112 = .ok (.aload_n 0, 1) := by decide +kernel
theorem dX11_looks_113 : decode cX11_looks 113 = .ok (.getfield 99, 3) := by decide +kernel
theorem dX11_looks_116 : decode cX11_looks 116 = .ok (.bipush 10, 2) := by decide +kernel
theorem dX11_looks_118 : decode cX11_looks 118 = .ok (.iload_n 2, 1) := by decide +kernel
theorem dX11_looks_119 : decode cX11_looks 119 = .ok (.imul, 1) := by decide +kernel
theorem dX11_looks_120 : decode cX11_looks 120 = .ok (.iload_n 3, 1) := by decide +kernel
theorem dX11_looks_121 : decode cX11_looks 121 = .ok (.iadd, 1) := by decide +kernel
theorem dX11_looks_122 : decode cX11_looks 122 = .ok (.dup2, 1) := by decide +kernel
theorem dX11_looks_123 : decode cX11_looks 123 = .ok (.iaload, 1) := by decide +kernel
theorem dX11_looks_124 : decode cX11_looks 124 = .ok (.aload_n 0, 1) := by decide +kernel
theorem dX11_looks_125 : decode cX11_looks 125 = .ok (.iload_n 1, 1) := by decide +kernel
theorem dX11_looks_126 : decode cX11_looks 126 = .ok (.bipush 10, 2) := by decide +kernel
theorem dX11_looks_128 : decode cX11_looks 128 = .ok (.iload_n 2, 1) := by decide +kernel
theorem dX11_looks_129 : decode cX11_looks 129 = .ok (.imul, 1) := by decide +kernel
theorem dX11_looks_130 : decode cX11_looks 130 = .ok (.iload_n 3, 1) := by decide +kernel
theorem dX11_looks_131 : decode cX11_looks 131 = .ok (.iadd, 1) := by decide +kernel
theorem dX11_looks_132 : decode cX11_looks 132 = .ok (.invokevirtual 137, 3) := by decide +kernel
theorem dX11_looks_135 : decode cX11_looks 135 = .ok (.iadd, 1) := by decide +kernel
theorem dX11_looks_136 : decode cX11_looks 136 = .ok (.iastore, 1) := by decide +kernel
theorem dX11_looks_137 : decode cX11_looks 137 = .ok (.iinc 3 1, 3) := by decide +kernel
theorem dX11_looks_140 : decode cX11_looks 140 = .ok (.goto (-36), 3) := by decide +kernel
theorem dX11_looks_143 : decode cX11_looks 143 = .ok (.iinc 2 1, 3) := by decide +kernel
theorem dX11_looks_146 : decode cX11_looks 146 = .ok (.goto (-52), 3) := by decide +kernel
theorem dX11_looks_149 : decode cX11_looks 149 = .ok (.iinc 1 1, 3) := by decide +kernel
theorem dX11_looks_152 : decode cX11_looks 152 = .ok (.goto (-122), 3) := by decide +kernel
theorem dX11_looks_155 : decode cX11_looks 155 = .ok (.aload_n 0, 1) := by decide +kernel
theorem dX11_looks_156 : decode cX11_looks 156 = .ok (.iconst 0, 1) := by decide +kernel
theorem dX11_looks_157 : decode cX11_looks 157 = .ok (.putfield 245, 3) := by decide +kernel
theorem dX11_looks_160 : decode cX11_looks 160 = .ok (.iconst 0, 1) := by decide +kernel
theorem dX11_looks_161 : decode cX11_looks 161 = .ok (.istore_n 1, 1) := by decide +kernel
theorem dX11_looks_162 : decode cX11_looks 162 = .ok (.iload_n 1, 1) := by decide +kernel
theorem dX11_looks_163 : decode cX11_looks 163 = .ok (.aload_n 0, 1) := by decide +kernel
theorem dX11_looks_164 : decode cX11_looks 164 = .ok (.getfield 144, 3) := by decide +kernel
theorem dX11_looks_167 : decode cX11_looks 167 = .ok (.if_icmp .ge 38, 3) := by decide +kernel
theorem dX11_looks_170 : decode cX11_looks 170 = .ok (.aload_n 0, 1) := by decide +kernel
theorem dX11_looks_171 : decode cX11_looks 171 = .ok (.dup, 1) := by decide +kernel
theorem dX11_looks_172 : decode cX11_looks 172 = .ok (.getfield 245, 3) := by decide +kernel
theorem dX11_looks_175 : decode cX11_looks 175 = .ok (.aload_n 0, 1) := by decide +kernel
theorem dX11_looks_176 : decode cX11_looks 176 = .ok (.aload_n 0, 1) := by decide +kernel
theorem dX11_looks_177 : decode cX11_looks 177 = .ok (.getfield 44, 3) := by decide +kernel
theorem dX11_looks_180 : decode cX11_looks 180 = .ok (.iload_n 1, 1) := by decide +kernel
theorem dX11_looks_181 : decode cX11_looks 181 = .ok (.iaload, 1) := by decide +kernel
theorem dX11_looks_182 : decode cX11_looks 182 = .ok (.aload_n 0, 1) := by decide +kernel
theorem dX11_looks_183 : decode cX11_looks 183 = .ok (.getfield 41, 3) := by decide +kernel
theorem dX11_looks_186 : decode cX11_looks 186 = .ok (.iload_n 1, 1) := by decide +kernel
theorem dX11_looks_187 : decode cX11_looks 187 = .ok (.iaload, 1) := by decide +kernel
theorem dX11_looks_188 : decode cX11_looks 188 = .ok (.aload_n 0, 1) := by decide +kernel
theorem dX11_looks_189 : decode cX11_looks 189 = .ok (.getfield 16, 3) := by decide +kernel
theorem dX11_looks_192 : decode cX11_looks 192 = .ok (.invokevirtual 248, 3) := by decide +kernel
theorem dX11_looks_195 : decode cX11_looks 195 = .ok (.iadd, 1) := by decide +kernel
theorem dX11_looks_196 : decode cX11_looks 196 = .ok (.putfield 245, 3) := by decide +kernel
theorem dX11_looks_199 : decode cX11_looks 199 = .ok (.iinc 1 1, 3) := by decide +kernel
theorem dX11_looks_202 : decode cX11_looks 202 = .ok (.goto (-40), 3) := by decide +kernel
theorem dX11_looks_205 : decode cX11_looks 205 = .ok (.return_, 1) := by decide +kernel
theorem dX11_wayLoss_0 : decode cX11_wayLoss 0 = .ok (.iload_n 1, 1) := by decide +kernel
theorem dX11_wayLoss_1 : decode cX11_wayLoss 1 = .ok (.bipush 10, 2) := by decide +kernel
theorem dX11_wayLoss_3 : decode cX11_wayLoss 3 = .ok (.idiv, 1) := by decide +kernel
theorem dX11_wayLoss_4 : decode cX11_wayLoss 4 = .ok (.istore_n 3, 1) := by decide +kernel
theorem dX11_wayLoss_5 : decode cX11_wayLoss 5 = .ok (.iload_n 1, 1) := by decide +kernel
theorem dX11_wayLoss_6 : decode cX11_wayLoss 6 = .ok (.bipush 10, 2) := by decide +kernel
theorem dX11_wayLoss_8 : decode cX11_wayLoss 8 = .ok (.irem, 1) := by decide +kernel
theorem dX11_wayLoss_9 : decode cX11_wayLoss 9 = .ok (.istore 4, 2) := by decide +kernel
theorem dX11_wayLoss_11 : decode cX11_wayLoss 11 = .ok (.iload_n 2, 1) := by decide +kernel
theorem dX11_wayLoss_12 : decode cX11_wayLoss 12 = .ok (.bipush 10, 2) := by decide +kernel
theorem dX11_wayLoss_14 : decode cX11_wayLoss 14 = .ok (.idiv, 1) := by decide +kernel
theorem dX11_wayLoss_15 : decode cX11_wayLoss 15 = .ok (.istore 5, 2) := by decide +kernel
theorem dX11_wayLoss_17 : decode cX11_wayLoss 17 = .ok (.iload_n 2, 1) := by decide +kernel
theorem dX11_wayLoss_18 : decode cX11_wayLoss 18 = .ok (.bipush 10, 2) := by decide +kernel
theorem dX11_wayLoss_20 : decode cX11_wayLoss 20 = .ok (.irem, 1) := by decide +kernel
theorem dX11_wayLoss_21 : decode cX11_wayLoss 21 = .ok (.istore 6, 2) := by decide +kernel
theorem dX11_wayLoss_23 : decode cX11_wayLoss 23 = .ok (.iconst 0, 1) := by decide +kernel
theorem dX11_wayLoss_24 : decode cX11_wayLoss 24 = .ok (.istore 7, 2) := by decide +kernel
theorem dX11_wayLoss_26 : decode cX11_wayLoss 26 = .ok (.iconst 0, 1) := by decide +kernel
theorem dX11_wayLoss_27 : decode cX11_wayLoss 27 = .ok (.istore 8, 2) := by decide +kernel
theorem dX11_wayLoss_29 : decode cX11_wayLoss 29 = .ok (.iload 4, 2) := by decide +kernel
theorem dX11_wayLoss_31 : decode cX11_wayLoss 31 = .ok (.istore 9, 2) := by decide +kernel
theorem dX11_wayLoss_33 : decode cX11_wayLoss 33 = .ok (.iload 9, 2) := by decide +kernel
theorem dX11_wayLoss_35 : decode cX11_wayLoss 35 = .ok (.iload 6, 2) := by decide +kernel
theorem dX11_wayLoss_37 : decode cX11_wayLoss 37 = .ok (.if_icmp .eq 58, 3) := by decide +kernel
theorem dX11_wayLoss_40 : decode cX11_wayLoss 40 = .ok (.iload 9, 2) := by decide +kernel
theorem dX11_wayLoss_42 : decode cX11_wayLoss 42 = .ok (.iload 6, 2) := by decide +kernel
theorem dX11_wayLoss_44 : decode cX11_wayLoss 44 = .ok (.iload 9, 2) := by decide +kernel
theorem dX11_wayLoss_46 : decode cX11_wayLoss 46 = .ok (.if_icmp .le 7, 3) := by decide +kernel
theorem dX11_wayLoss_49 : decode cX11_wayLoss 49 = .ok (.iconst 1, 1) := by decide +kernel
theorem dX11_wayLoss_50 : decode cX11_wayLoss 50 = .ok (.goto 4, 3) := by decide +kernel
theorem dX11_wayLoss_53 : decode cX11_wayLoss 53 = .ok (.iconst (-1), 1) := by decide +kernel
theorem dX11_wayLoss_54 : decode cX11_wayLoss 54 = .ok (.iadd, 1) := by decide +kernel
theorem dX11_wayLoss_55 : decode cX11_wayLoss 55 = .ok (.istore 9, 2) := by decide +kernel
theorem dX11_wayLoss_57 : decode cX11_wayLoss 57 = .ok (.iload 7, 2) := by decide +kernel
theorem dX11_wayLoss_59 : decode cX11_wayLoss 59 = .ok (.aload_n 0, 1) := by decide +kernel
theorem dX11_wayLoss_60 : decode cX11_wayLoss 60 = .ok (.getfield 96, 3) := by decide +kernel
theorem dX11_wayLoss_63 : decode cX11_wayLoss 63 = .ok (.bipush 10, 2) := by decide +kernel
theorem dX11_wayLoss_65 : decode cX11_wayLoss 65 = .ok (.iload_n 3, 1) := by decide +kernel
theorem dX11_wayLoss_66 : decode cX11_wayLoss 66 = .ok (.imul, 1) := by decide +kernel
theorem dX11_wayLoss_67 : decode cX11_wayLoss 67 = .ok (.iload 9, 2) := by decide +kernel
theorem dX11_wayLoss_69 : decode cX11_wayLoss 69 = .ok (.iadd, 1) := by decide +kernel
theorem dX11_wayLoss_70 : decode cX11_wayLoss 70 = .ok (.iaload, 1) := by decide +kernel
theorem dX11_wayLoss_71 : decode cX11_wayLoss 71 = .ok (.iadd, 1) := by decide +kernel
theorem dX11_wayLoss_72 : decode cX11_wayLoss 72 = .ok (.istore 7, 2) := by decide +kernel
theorem dX11_wayLoss_74 : decode cX11_wayLoss 74 = .ok (.iload 8, 2) := by decide +kernel
theorem dX11_wayLoss_76 : decode cX11_wayLoss 76 = .ok (.aload_n 0, 1) := by decide +kernel
theorem dX11_wayLoss_77 : decode cX11_wayLoss 77 = .ok (.getfield 96, 3) := by decide +kernel
theorem dX11_wayLoss_80 : decode cX11_wayLoss 80 = .ok (.bipush 10, 2) := by decide +kernel
theorem dX11_wayLoss_82 : decode cX11_wayLoss 82 = .ok (.iload 5, 2) := by decide +kernel
theorem dX11_wayLoss_84 : decode cX11_wayLoss 84 = .ok (.imul, 1) := by decide +kernel
theorem dX11_wayLoss_85 : decode cX11_wayLoss 85 = .ok (.iload 9, 2) := by decide +kernel
theorem dX11_wayLoss_87 : decode cX11_wayLoss 87 = .ok (.iadd, 1) := by decide +kernel
theorem dX11_wayLoss_88 : decode cX11_wayLoss 88 = .ok (.iaload, 1) := by decide +kernel
theorem dX11_wayLoss_89 : decode cX11_wayLoss 89 = .ok (.iadd, 1) := by decide +kernel
theorem dX11_wayLoss_90 : decode cX11_wayLoss 90 = .ok (.istore 8, 2) := by decide +kernel
theorem dX11_wayLoss_92 : decode cX11_wayLoss 92 = .ok (.goto (-59), 3) := by decide +kernel
theorem dX11_wayLoss_95 : decode cX11_wayLoss 95 = .ok (.iload_n 3, 1) := by decide +kernel
theorem dX11_wayLoss_96 : decode cX11_wayLoss 96 = .ok (.istore 9, 2) := by decide +kernel
theorem dX11_wayLoss_98 : decode cX11_wayLoss 98 = .ok (.iload 9, 2) := by decide +kernel
theorem dX11_wayLoss_100 : decode cX11_wayLoss 100 = .ok (.iload 5, 2) := by decide +kernel
theorem dX11_wayLoss_102 : decode cX11_wayLoss 102 = .ok (.if_icmp .eq 59, 3) := by decide +kernel
theorem dX11_wayLoss_105 : decode cX11_wayLoss 105 = .ok (.iload 9, 2) := by decide +kernel
theorem dX11_wayLoss_107 : decode cX11_wayLoss 107 = .ok (.iload 5, 2) := by decide +kernel
theorem dX11_wayLoss_109 : decode cX11_wayLoss 109 = .ok (.iload 9, 2) := by decide +kernel
theorem dX11_wayLoss_111 : decode cX11_wayLoss 111 = .ok (.if_icmp .le 7, 3) := by decide +kernel
theorem dX11_wayLoss_114 : decode cX11_wayLoss 114 = .ok (.iconst 1, 1) := by decide +kernel
theorem dX11_wayLoss_115 : decode cX11_wayLoss 115 = .ok (.goto 4, 3) := by decide +kernel
theorem dX11_wayLoss_118 : decode cX11_wayLoss 118 = .ok (.iconst (-1), 1) := by decide +kernel
theorem dX11_wayLoss_119 : decode cX11_wayLoss 119 = .ok (.iadd, 1) := by decide +kernel
theorem dX11_wayLoss_120 : decode cX11_wayLoss 120 = .ok (.istore 9, 2) := by decide +kernel
theorem dX11_wayLoss_122 : decode cX11_wayLoss 122 = .ok (.iload 7, 2) := by decide +kernel
theorem dX11_wayLoss_124 : decode cX11_wayLoss 124 = .ok (.aload_n 0, 1) := by decide +kernel
theorem dX11_wayLoss_125 : decode cX11_wayLoss 125 = .ok (.getfield 96, 3) := by decide +kernel
theorem dX11_wayLoss_128 : decode cX11_wayLoss 128 = .ok (.bipush 10, 2) := by decide +kernel
theorem dX11_wayLoss_130 : decode cX11_wayLoss 130 = .ok (.iload 9, 2) := by decide +kernel
theorem dX11_wayLoss_132 : decode cX11_wayLoss 132 = .ok (.imul, 1) := by decide +kernel
theorem dX11_wayLoss_133 : decode cX11_wayLoss 133 = .ok (.iload 6, 2) := by decide +kernel
theorem dX11_wayLoss_135 : decode cX11_wayLoss 135 = .ok (.iadd, 1) := by decide +kernel
theorem dX11_wayLoss_136 : decode cX11_wayLoss 136 = .ok (.iaload, 1) := by decide +kernel
theorem dX11_wayLoss_137 : decode cX11_wayLoss 137 = .ok (.iadd, 1) := by decide +kernel
theorem dX11_wayLoss_138 : decode cX11_wayLoss 138 = .ok (.istore 7, 2) := by decide +kernel
theorem dX11_wayLoss_140 : decode cX11_wayLoss 140 = .ok (.iload 8, 2) := by decide +kernel
theorem dX11_wayLoss_142 : decode cX11_wayLoss 142 = .ok (.aload_n 0, 1) := by decide +kernel
theorem dX11_wayLoss_143 : decode cX11_wayLoss 143 = .ok (.getfield 96, 3) := by decide +kernel
theorem dX11_wayLoss_146 : decode cX11_wayLoss 146 = .ok (.bipush 10, 2) := by decide +kernel
theorem dX11_wayLoss_148 : decode cX11_wayLoss 148 = .ok (.iload 9, 2) := by decide +kernel
theorem dX11_wayLoss_150 : decode cX11_wayLoss 150 = .ok (.imul, 1) := by decide +kernel
theorem dX11_wayLoss_151 : decode cX11_wayLoss 151 = .ok (.iload 4, 2) := by decide +kernel
theorem dX11_wayLoss_153 : decode cX11_wayLoss 153 = .ok (.iadd, 1) := by decide +kernel
theorem dX11_wayLoss_154 : decode cX11_wayLoss 154 = .ok (.iaload, 1) := by decide +kernel
theorem dX11_wayLoss_155 : decode cX11_wayLoss 155 = .ok (.iadd, 1) := by decide +kernel
theorem dX11_wayLoss_156 : decode cX11_wayLoss 156 = .ok (.istore 8, 2) := by decide +kernel
theorem dX11_wayLoss_158 : decode cX11_wayLoss 158 = .ok (.goto (-60), 3) := by decide +kernel
theorem dX11_wayLoss_161 : decode cX11_wayLoss 161 = .ok (.iload 7, 2) := by decide +kernel
theorem dX11_wayLoss_163 : decode cX11_wayLoss 163 = .ok (.iload 8, 2) := by decide +kernel
theorem dX11_wayLoss_165 : decode cX11_wayLoss 165 = .ok (.if_icmp .ge 8, 3) := by decide +kernel
theorem dX11_wayLoss_168 : decode cX11_wayLoss 168 = .ok (.iload 7, 2) := by decide +kernel
theorem dX11_wayLoss_170 : decode cX11_wayLoss 170 = .ok (.goto 5, 3) := by decide +kernel
theorem dX11_wayLoss_173 : decode cX11_wayLoss 173 = .ok (.iload 8, 2) := by decide +kernel
theorem dX11_wayLoss_175 : decode cX11_wayLoss 175 = .ok (.ireturn, 1) := by decide +kernel
theorem dX11_strength_0 : decode cX11_strength 0 = .ok (.aload_n 0, 1) := by decide +kernel
theorem dX11_strength_1 : decode cX11_strength 1 = .ok (.getfield 59, 3) := by decide +kernel
theorem dX11_strength_4 : decode cX11_strength 4 = .ok (.iload_n 1, 1) := by decide +kernel
theorem dX11_strength_5 : decode cX11_strength 5 = .ok (.iaload, 1) := by decide +kernel
theorem dX11_strength_6 : decode cX11_strength 6 = .ok (.iconst (-1), 1) := by decide +kernel
theorem dX11_strength_7 : decode cX11_strength 7 = .ok (.if_icmp .ne 5, 3) := by decide +kernel
theorem dX11_strength_10 : decode cX11_strength 10 = .ok (.iconst 0, 1) := by decide +kernel
theorem dX11_strength_11 : decode cX11_strength 11 = .ok (.ireturn, 1) := by decide +kernel
theorem dX11_strength_12 : decode cX11_strength 12 = .ok (.aload_n 0, 1) := by decide +kernel
theorem dX11_strength_13 : decode cX11_strength 13 = .ok (.getfield 13, 3) := by decide +kernel
theorem dX11_strength_16 : decode cX11_strength 16 = .ok (.iconst 2, 1) := by decide +kernel
theorem dX11_strength_17 : decode cX11_strength 17 = .ok (.aload_n 0, 1) := by decide +kernel
theorem dX11_strength_18 : decode cX11_strength 18 = .ok (.aload_n 0, 1) := by decide +kernel
theorem dX11_strength_19 : decode cX11_strength 19 = .ok (.getfield 59, 3) := by decide +kernel
theorem dX11_strength_22 : decode cX11_strength 22 = .ok (.iload_n 1, 1) := by decide +kernel
theorem dX11_strength_23 : decode cX11_strength 23 = .ok (.iaload, 1) := by decide +kernel
theorem dX11_strength_24 : decode cX11_strength 24 = .ok (.iload_n 2, 1) := by decide +kernel
theorem dX11_strength_25 : decode cX11_strength 25 = .ok (.invokevirtual 242, 3) := by decide +kernel
theorem dX11_strength_28 : decode cX11_strength 28 = .ok (.imul, 1) := by decide +kernel
theorem dX11_strength_29 : decode cX11_strength 29 = .ok (.isub, 1) := by decide +kernel
theorem dX11_strength_30 : decode cX11_strength 30 = .ok (.aload_n 0, 1) := by decide +kernel
theorem dX11_strength_31 : decode cX11_strength 31 = .ok (.aload_n 0, 1) := by decide +kernel
theorem dX11_strength_32 : decode cX11_strength 32 = .ok (.getfield 59, 3) := by decide +kernel
theorem dX11_strength_35 : decode cX11_strength 35 = .ok (.iload_n 1, 1) := by decide +kernel
theorem dX11_strength_36 : decode cX11_strength 36 = .ok (.iaload, 1) := by decide +kernel
theorem dX11_strength_37 : decode cX11_strength 37 = .ok (.iload_n 2, 1) := by decide +kernel
theorem dX11_strength_38 : decode cX11_strength 38 = .ok (.invokevirtual 251, 3) := by decide +kernel
theorem dX11_strength_41 : decode cX11_strength 41 = .ok (.isub, 1) := by decide +kernel
theorem dX11_strength_42 : decode cX11_strength 42 = .ok (.aload_n 0, 1) := by decide +kernel
theorem dX11_strength_43 : decode cX11_strength 43 = .ok (.getfield 99, 3) := by decide +kernel
theorem dX11_strength_46 : decode cX11_strength 46 = .ok (.iload_n 2, 1) := by decide +kernel
theorem dX11_strength_47 : decode cX11_strength 47 = .ok (.iaload, 1) := by decide +kernel
theorem dX11_strength_48 : decode cX11_strength 48 = .ok (.isub, 1) := by decide +kernel
theorem dX11_strength_49 : decode cX11_strength 49 = .ok (.aload_n 0, 1) := by decide +kernel
theorem dX11_strength_50 : decode cX11_strength 50 = .ok (.getfield 245, 3) := by decide +kernel
theorem dX11_strength_53 : decode cX11_strength 53 = .ok (.isub, 1) := by decide +kernel
theorem dX11_strength_54 : decode cX11_strength 54 = .ok (.istore_n 3, 1) := by decide +kernel
theorem dX11_strength_55 : decode cX11_strength 55 = .ok (.iload_n 3, 1) := by decide +kernel
theorem dX11_strength_56 : decode cX11_strength 56 = .ok (.ifCond .ge 7, 3) := by decide +kernel
theorem dX11_strength_59 : decode cX11_strength 59 = .ok (.iconst 0, 1) := by decide +kernel
theorem dX11_strength_60 : decode cX11_strength 60 = .ok (.goto 4, 3) := by decide +kernel
theorem dX11_strength_63 : decode cX11_strength 63 = .ok (.iload_n 3, 1) := by decide +kernel
theorem dX11_strength_64 : decode cX11_strength 64 = .ok (.ireturn, 1) := by decide +kernel
theorem dX11_barsAt_0 : decode cX11_barsAt 0 = .ok (.aload_n 0, 1) := by decide +kernel
theorem dX11_barsAt_1 : decode cX11_barsAt 1 = .ok (.iload_n 1, 1) := by decide +kernel
theorem dX11_barsAt_2 : decode cX11_barsAt 2 = .ok (.iload_n 2, 1) := by decide +kernel
theorem dX11_barsAt_3 : decode cX11_barsAt 3 = .ok (.invokevirtual 254, 3) := by decide +kernel
theorem dX11_barsAt_6 : decode cX11_barsAt 6 = .ok (.bipush 10, 2) := by decide +kernel
theorem dX11_barsAt_8 : decode cX11_barsAt 8 = .ok (.idiv, 1) := by decide +kernel
theorem dX11_barsAt_9 : decode cX11_barsAt 9 = .ok (.istore_n 3, 1) := by decide +kernel
theorem dX11_barsAt_10 : decode cX11_barsAt 10 = .ok (.iload_n 3, 1) := by decide +kernel
theorem dX11_barsAt_11 : decode cX11_barsAt 11 = .ok (.iconst 5, 1) := by decide +kernel
theorem dX11_barsAt_12 : decode cX11_barsAt 12 = .ok (.if_icmp .le 7, 3) := by decide +kernel
theorem dX11_barsAt_15 : decode cX11_barsAt 15 = .ok (.iconst 5, 1) := by decide +kernel
theorem dX11_barsAt_16 : decode cX11_barsAt 16 = .ok (.goto 4, 3) := by decide +kernel
theorem dX11_barsAt_19 : decode cX11_barsAt 19 = .ok (.iload_n 3, 1) := by decide +kernel
theorem dX11_barsAt_20 : decode cX11_barsAt 20 = .ok (.ireturn, 1) := by decide +kernel
theorem dX11_pace_0 : decode cX11_pace 0 = .ok (.iload_n 1, 1) := by decide +kernel
theorem dX11_pace_1 : decode cX11_pace 1 = .ok (.ifCond .ne 10, 3) := by decide +kernel
theorem dX11_pace_4 : decode cX11_pace 4 = .ok (.aload_n 0, 1) := by decide +kernel
theorem dX11_pace_5 : decode cX11_pace 5 = .ok (.iconst 0, 1) := by decide +kernel
theorem dX11_pace_6 : decode cX11_pace 6 = .ok (.iload_n 2, 1) := by decide +kernel
theorem dX11_pace_7 : decode cX11_pace 7 = .ok (.invokevirtual 257, 3) := by decide +kernel
theorem dX11_pace_10 : decode cX11_pace 10 = .ok (.ireturn, 1) := by decide +kernel
theorem dX11_pace_11 : decode cX11_pace 11 = .ok (.aload_n 0, 1) := by decide +kernel
theorem dX11_pace_12 : decode cX11_pace 12 = .ok (.getfield 59, 3) := by decide +kernel
theorem dX11_pace_15 : decode cX11_pace 15 = .ok (.iconst 1, 1) := by decide +kernel
theorem dX11_pace_16 : decode cX11_pace 16 = .ok (.iaload, 1) := by decide +kernel
theorem dX11_pace_17 : decode cX11_pace 17 = .ok (.iconst (-1), 1) := by decide +kernel
theorem dX11_pace_18 : decode cX11_pace 18 = .ok (.if_icmp .ne 5, 3) := by decide +kernel
theorem dX11_pace_21 : decode cX11_pace 21 = .ok (.iconst 0, 1) := by decide +kernel
theorem dX11_pace_22 : decode cX11_pace 22 = .ok (.ireturn, 1) := by decide +kernel
theorem dX11_pace_23 : decode cX11_pace 23 = .ok (.aload_n 0, 1) := by decide +kernel
theorem dX11_pace_24 : decode cX11_pace 24 = .ok (.iconst 1, 1) := by decide +kernel
theorem dX11_pace_25 : decode cX11_pace 25 = .ok (.iload_n 2, 1) := by decide +kernel
theorem dX11_pace_26 : decode cX11_pace 26 = .ok (.invokevirtual 257, 3) := by decide +kernel
theorem dX11_pace_29 : decode cX11_pace 29 = .ok (.iconst 2, 1) := by decide +kernel
theorem dX11_pace_30 : decode cX11_pace 30 = .ok (.idiv, 1) := by decide +kernel
theorem dX11_pace_31 : decode cX11_pace 31 = .ok (.istore_n 3, 1) := by decide +kernel
theorem dX11_pace_32 : decode cX11_pace 32 = .ok (.aload_n 0, 1) := by decide +kernel
theorem dX11_pace_33 : decode cX11_pace 33 = .ok (.iconst 0, 1) := by decide +kernel
theorem dX11_pace_34 : decode cX11_pace 34 = .ok (.aload_n 0, 1) := by decide +kernel
theorem dX11_pace_35 : decode cX11_pace 35 = .ok (.getfield 59, 3) := by decide +kernel
theorem dX11_pace_38 : decode cX11_pace 38 = .ok (.iconst 1, 1) := by decide +kernel
theorem dX11_pace_39 : decode cX11_pace 39 = .ok (.iaload, 1) := by decide +kernel
theorem dX11_pace_40 : decode cX11_pace 40 = .ok (.invokevirtual 257, 3) := by decide +kernel
theorem dX11_pace_43 : decode cX11_pace 43 = .ok (.istore 4, 2) := by decide +kernel
theorem dX11_pace_45 : decode cX11_pace 45 = .ok (.iload_n 3, 1) := by decide +kernel
theorem dX11_pace_46 : decode cX11_pace 46 = .ok (.iload 4, 2) := by decide +kernel
theorem dX11_pace_48 : decode cX11_pace 48 = .ok (.if_icmp .ge 7, 3) := by decide +kernel
theorem dX11_pace_51 : decode cX11_pace 51 = .ok (.iload_n 3, 1) := by decide +kernel
theorem dX11_pace_52 : decode cX11_pace 52 = .ok (.goto 5, 3) := by decide +kernel
theorem dX11_pace_55 : decode cX11_pace 55 = .ok (.iload 4, 2) := by decide +kernel
theorem dX11_pace_57 : decode cX11_pace 57 = .ok (.ireturn, 1) := by decide +kernel
theorem dX11_best_0 : decode cX11_best 0 = .ok (.aload_n 0, 1) := by decide +kernel
theorem dX11_best_1 : decode cX11_best 1 = .ok (.iconst 0, 1) := by decide +kernel
theorem dX11_best_2 : decode cX11_best 2 = .ok (.iload_n 1, 1) := by decide +kernel
theorem dX11_best_3 : decode cX11_best 3 = .ok (.invokevirtual 184, 3) := by decide +kernel
theorem dX11_best_6 : decode cX11_best 6 = .ok (.istore_n 2, 1) := by decide +kernel
theorem dX11_best_7 : decode cX11_best 7 = .ok (.aload_n 0, 1) := by decide +kernel
theorem dX11_best_8 : decode cX11_best 8 = .ok (.iconst 1, 1) := by decide +kernel
theorem dX11_best_9 : decode cX11_best 9 = .ok (.iload_n 1, 1) := by decide +kernel
theorem dX11_best_10 : decode cX11_best 10 = .ok (.invokevirtual 184, 3) := by decide +kernel
theorem dX11_best_13 : decode cX11_best 13 = .ok (.istore_n 3, 1) := by decide +kernel
theorem dX11_best_14 : decode cX11_best 14 = .ok (.iload_n 2, 1) := by decide +kernel
theorem dX11_best_15 : decode cX11_best 15 = .ok (.iload_n 3, 1) := by decide +kernel
theorem dX11_best_16 : decode cX11_best 16 = .ok (.if_icmp .le 7, 3) := by decide +kernel
theorem dX11_best_19 : decode cX11_best 19 = .ok (.iload_n 2, 1) := by decide +kernel
theorem dX11_best_20 : decode cX11_best 20 = .ok (.goto 4, 3) := by decide +kernel
theorem dX11_best_23 : decode cX11_best 23 = .ok (.iload_n 3, 1) := by decide +kernel
theorem dX11_best_24 : decode cX11_best 24 = .ok (.ireturn, 1) := by decide +kernel
theorem dX11_filledNow_0 : decode cX11_filledNow 0 = .ok (.iconst 0, 1) := by decide +kernel
theorem dX11_filledNow_1 : decode cX11_filledNow 1 = .ok (.istore_n 1, 1) := by decide +kernel
theorem dX11_filledNow_2 : decode cX11_filledNow 2 = .ok (.iconst 0, 1) := by decide +kernel
theorem dX11_filledNow_3 : decode cX11_filledNow 3 = .ok (.istore_n 2, 1) := by decide +kernel
theorem dX11_filledNow_4 : decode cX11_filledNow 4 = .ok (.iload_n 2, 1) := by decide +kernel
theorem dX11_filledNow_5 : decode cX11_filledNow 5 = .ok (.aload_n 0, 1) := by decide +kernel
theorem dX11_filledNow_6 : decode cX11_filledNow 6 = .ok (.getfield 147, 3) := by decide +kernel
theorem dX11_filledNow_9 : decode cX11_filledNow 9 = .ok (.if_icmp .ge 43, 3) := by decide +kernel
theorem dX11_filledNow_12 : decode cX11_filledNow 12 = .ok (.aload_n 0, 1) := by decide +kernel
theorem dX11_filledNow_13 : decode cX11_filledNow 13 = .ok (.aload_n 0, 1) := by decide +kernel
theorem dX11_filledNow_14 : decode cX11_filledNow 14 = .ok (.getfield 56, 3) := by decide +kernel
theorem dX11_filledNow_17 : decode cX11_filledNow 17 = .ok (.iload_n 2, 1) := by decide +kernel
theorem dX11_filledNow_18 : decode cX11_filledNow 18 = .ok (.iaload, 1) := by decide +kernel
theorem dX11_filledNow_19 : decode cX11_filledNow 19 = .ok (.aload_n 0, 1) := by decide +kernel
theorem dX11_filledNow_20 : decode cX11_filledNow 20 = .ok (.getfield 47, 3) := by decide +kernel
theorem dX11_filledNow_23 : decode cX11_filledNow 23 = .ok (.iload_n 2, 1) := by decide +kernel
theorem dX11_filledNow_24 : decode cX11_filledNow 24 = .ok (.iaload, 1) := by decide +kernel
theorem dX11_filledNow_25 : decode cX11_filledNow 25 = .ok (.invokevirtual 184, 3) := by decide +kernel
theorem dX11_filledNow_28 : decode cX11_filledNow 28 = .ok (.aload_n 0, 1) := by decide +kernel
theorem dX11_filledNow_29 : decode cX11_filledNow 29 = .ok (.getfield 50, 3) := by decide +kernel
theorem dX11_filledNow_32 : decode cX11_filledNow 32 = .ok (.iload_n 2, 1) := by decide +kernel
theorem dX11_filledNow_33 : decode cX11_filledNow 33 = .ok (.iaload, 1) := by decide +kernel
theorem dX11_filledNow_34 : decode cX11_filledNow 34 = .ok (.if_icmp .lt 12, 3) := by decide +kernel
theorem dX11_filledNow_37 : decode cX11_filledNow 37 = .ok (.iload_n 1, 1) := by decide +kernel
theorem dX11_filledNow_38 : decode cX11_filledNow 38 = .ok (.aload_n 0, 1) := by decide +kernel
theorem dX11_filledNow_39 : decode cX11_filledNow 39 = .ok (.getfield 53, 3) := by decide +kernel
theorem dX11_filledNow_42 : decode cX11_filledNow 42 = .ok (.iload_n 2, 1) := by decide +kernel
theorem dX11_filledNow_43 : decode cX11_filledNow 43 = .ok (.iaload, 1) := by decide +kernel
theorem dX11_filledNow_44 : decode cX11_filledNow 44 = .ok (.iadd, 1) := by decide +kernel
theorem dX11_filledNow_45 : decode cX11_filledNow 45 = .ok (.istore_n 1, 1) := by decide +kernel
theorem dX11_filledNow_46 : decode cX11_filledNow 46 = .ok (.iinc 2 1, 3) := by decide +kernel
theorem dX11_filledNow_49 : decode cX11_filledNow 49 = .ok (.goto (-45), 3) := by decide +kernel
theorem dX11_filledNow_52 : decode cX11_filledNow 52 = .ok (.iload_n 1, 1) := by decide +kernel
theorem dX11_filledNow_53 : decode cX11_filledNow 53 = .ok (.ireturn, 1) := by decide +kernel
theorem dX11_served_0 : decode cX11_served 0 = .ok (.iconst 0, 1) := by decide +kernel
theorem dX11_served_1 : decode cX11_served 1 = .ok (.istore_n 1, 1) := by decide +kernel
theorem dX11_served_2 : decode cX11_served 2 = .ok (.iconst 0, 1) := by decide +kernel
theorem dX11_served_3 : decode cX11_served 3 = .ok (.istore_n 2, 1) := by decide +kernel
theorem dX11_served_4 : decode cX11_served 4 = .ok (.iload_n 2, 1) := by decide +kernel
theorem dX11_served_5 : decode cX11_served 5 = .ok (.aload_n 0, 1) := by decide +kernel
theorem dX11_served_6 : decode cX11_served 6 = .ok (.getfield 147, 3) := by decide +kernel
theorem dX11_served_9 : decode cX11_served 9 = .ok (.if_icmp .ge 37, 3) := by decide +kernel
theorem dX11_served_12 : decode cX11_served 12 = .ok (.aload_n 0, 1) := by decide +kernel
theorem dX11_served_13 : decode cX11_served 13 = .ok (.aload_n 0, 1) := by decide +kernel
theorem dX11_served_14 : decode cX11_served 14 = .ok (.getfield 47, 3) := by decide +kernel
theorem dX11_served_17 : decode cX11_served 17 = .ok (.iload_n 2, 1) := by decide +kernel
theorem dX11_served_18 : decode cX11_served 18 = .ok (.iaload, 1) := by decide +kernel
theorem dX11_served_19 : decode cX11_served 19 = .ok (.invokevirtual 187, 3) := by decide +kernel
theorem dX11_served_22 : decode cX11_served 22 = .ok (.aload_n 0, 1) := by decide +kernel
theorem dX11_served_23 : decode cX11_served 23 = .ok (.getfield 50, 3) := by decide +kernel
theorem dX11_served_26 : decode cX11_served 26 = .ok (.iload_n 2, 1) := by decide +kernel
theorem dX11_served_27 : decode cX11_served 27 = .ok (.iaload, 1) := by decide +kernel
theorem dX11_served_28 : decode cX11_served 28 = .ok (.if_icmp .lt 12, 3) := by decide +kernel
theorem dX11_served_31 : decode cX11_served 31 = .ok (.iload_n 1, 1) := by decide +kernel
theorem dX11_served_32 : decode cX11_served 32 = .ok (.aload_n 0, 1) := by decide +kernel
theorem dX11_served_33 : decode cX11_served 33 = .ok (.getfield 53, 3) := by decide +kernel
theorem dX11_served_36 : decode cX11_served 36 = .ok (.iload_n 2, 1) := by decide +kernel
theorem dX11_served_37 : decode cX11_served 37 = .ok (.iaload, 1) := by decide +kernel
theorem dX11_served_38 : decode cX11_served 38 = .ok (.iadd, 1) := by decide +kernel
theorem dX11_served_39 : decode cX11_served 39 = .ok (.istore_n 1, 1) := by decide +kernel
theorem dX11_served_40 : decode cX11_served 40 = .ok (.iinc 2 1, 3) := by decide +kernel
theorem dX11_served_43 : decode cX11_served 43 = .ok (.goto (-39), 3) := by decide +kernel
theorem dX11_served_46 : decode cX11_served 46 = .ok (.iload_n 1, 1) := by decide +kernel
theorem dX11_served_47 : decode cX11_served 47 = .ok (.ireturn, 1) := by decide +kernel
theorem dX11_bars_0 : decode cX11_bars 0 = .ok (.iload_n 3, 1) := by decide +kernel
theorem dX11_bars_1 : decode cX11_bars 1 = .ok (.ifCond .lt 8, 3) := by decide +kernel
theorem dX11_bars_4 : decode cX11_bars 4 = .ok (.iload_n 3, 1) := by decide +kernel
theorem dX11_bars_5 : decode cX11_bars 5 = .ok (.iconst 2, 1) := by decide +kernel
theorem dX11_bars_6 : decode cX11_bars 6 = .ok (.if_icmp .le 10, 3) := by decide +kernel
theorem dX11_bars_9 : decode cX11_bars 9 = .ok (.aload_n 0, 1) := by decide +kernel
theorem dX11_bars_10 : decode cX11_bars 10 = .ok (.bipush (-5), 2) := by decide +kernel
theorem dX11_bars_12 : decode cX11_bars 12 = .ok (.invokevirtual 130, 3) := by decide +kernel
theorem dX11_bars_15 : decode cX11_bars 15 = .ok (.ireturn, 1) := by decide +kernel
theorem dX11_bars_16 : decode cX11_bars 16 = .ok (.iload_n 1, 1) := by decide +kernel
theorem dX11_bars_17 : decode cX11_bars 17 = .ok (.ifCond .lt 16, 3) := by decide +kernel
theorem dX11_bars_20 : decode cX11_bars 20 = .ok (.iload_n 1, 1) := by decide +kernel
theorem dX11_bars_21 : decode cX11_bars 21 = .ok (.iconst 1, 1) := by decide +kernel
theorem dX11_bars_22 : decode cX11_bars 22 = .ok (.if_icmp .gt 11, 3) := by decide +kernel
theorem dX11_bars_25 : decode cX11_bars 25 = .ok (.aload_n 0, 1) := by decide +kernel
theorem dX11_bars_26 : decode cX11_bars 26 = .ok (.iload_n 2, 1) := by decide +kernel
theorem dX11_bars_27 : decode cX11_bars 27 = .ok (.invokevirtual 154, 3) := by decide +kernel
theorem dX11_bars_30 : decode cX11_bars 30 = .ok (.ifCond .ne 10, 3) := by decide +kernel
theorem dX11_bars_33 : decode cX11_bars 33 = .ok (.aload_n 0, 1) := by decide +kernel
theorem dX11_bars_34 : decode cX11_bars 34 = .ok (.bipush (-6), 2) := by decide +kernel
theorem dX11_bars_36 : decode cX11_bars 36 = .ok (.invokevirtual 130, 3) := by decide +kernel
theorem dX11_bars_39 : decode cX11_bars 39 = .ok (.ireturn, 1) := by decide +kernel
theorem dX11_bars_40 : decode cX11_bars 40 = .ok (.aload_n 0, 1) := by decide +kernel
theorem dX11_bars_41 : decode cX11_bars 41 = .ok (.invokevirtual 181, 3) := by decide +kernel
theorem dX11_bars_44 : decode cX11_bars 44 = .ok (.iload_n 3, 1) := by decide +kernel
theorem dX11_bars_45 : decode cX11_bars 45 = .ok (.ifCond .ne 12, 3) := by decide +kernel
theorem dX11_bars_48 : decode cX11_bars 48 = .ok (.aload_n 0, 1) := by decide +kernel
theorem dX11_bars_49 : decode cX11_bars 49 = .ok (.iload_n 1, 1) := by decide +kernel
theorem dX11_bars_50 : decode cX11_bars 50 = .ok (.iload_n 2, 1) := by decide +kernel
theorem dX11_bars_51 : decode cX11_bars 51 = .ok (.invokevirtual 254, 3) := by decide +kernel
theorem dX11_bars_54 : decode cX11_bars 54 = .ok (.goto 23, 3) := by decide +kernel
theorem dX11_bars_57 : decode cX11_bars 57 = .ok (.iload_n 3, 1) := by decide +kernel
theorem dX11_bars_58 : decode cX11_bars 58 = .ok (.iconst 1, 1) := by decide +kernel
theorem dX11_bars_59 : decode cX11_bars 59 = .ok (.if_icmp .ne 12, 3) := by decide +kernel
theorem dX11_bars_62 : decode cX11_bars 62 = .ok (.aload_n 0, 1) := by decide +kernel
theorem dX11_bars_63 : decode cX11_bars 63 = .ok (.iload_n 1, 1) := by decide +kernel
theorem dX11_bars_64 : decode cX11_bars 64 = .ok (.iload_n 2, 1) := by decide +kernel
theorem dX11_bars_65 : decode cX11_bars 65 = .ok (.invokevirtual 257, 3) := by decide +kernel
theorem dX11_bars_68 : decode cX11_bars 68 = .ok (.goto 9, 3) := by decide +kernel
theorem dX11_bars_71 : decode cX11_bars 71 = .ok (.aload_n 0, 1) := by decide +kernel
theorem dX11_bars_72 : decode cX11_bars 72 = .ok (.iload_n 1, 1) := by decide +kernel
theorem dX11_bars_73 : decode cX11_bars 73 = .ok (.iload_n 2, 1) := by decide +kernel
theorem dX11_bars_74 : decode cX11_bars 74 = .ok (.invokevirtual 184, 3) := by decide +kernel
theorem dX11_bars_77 : decode cX11_bars 77 = .ok (.ireturn, 1) := by decide +kernel
theorem dX11_way_0 : decode cX11_way 0 = .ok (.iload_n 3, 1) := by decide +kernel
theorem dX11_way_1 : decode cX11_way 1 = .ok (.ifCond .lt 8, 3) := by decide +kernel
theorem dX11_way_4 : decode cX11_way 4 = .ok (.iload_n 3, 1) := by decide +kernel
theorem dX11_way_5 : decode cX11_way 5 = .ok (.iconst 1, 1) := by decide +kernel
theorem dX11_way_6 : decode cX11_way 6 = .ok (.if_icmp .le 10, 3) := by decide +kernel
theorem dX11_way_9 : decode cX11_way 9 = .ok (.aload_n 0, 1) := by decide +kernel
theorem dX11_way_10 : decode cX11_way 10 = .ok (.bipush (-5), 2) := by decide +kernel
theorem dX11_way_12 : decode cX11_way 12 = .ok (.invokevirtual 130, 3) := by decide +kernel
theorem dX11_way_15 : decode cX11_way 15 = .ok (.ireturn, 1) := by decide +kernel
theorem dX11_way_16 : decode cX11_way 16 = .ok (.aload_n 0, 1) := by decide +kernel
theorem dX11_way_17 : decode cX11_way 17 = .ok (.iload_n 1, 1) := by decide +kernel
theorem dX11_way_18 : decode cX11_way 18 = .ok (.invokevirtual 154, 3) := by decide +kernel
theorem dX11_way_21 : decode cX11_way 21 = .ok (.ifCond .eq 11, 3) := by decide +kernel
theorem dX11_way_24 : decode cX11_way 24 = .ok (.aload_n 0, 1) := by decide +kernel
theorem dX11_way_25 : decode cX11_way 25 = .ok (.iload_n 2, 1) := by decide +kernel
theorem dX11_way_26 : decode cX11_way 26 = .ok (.invokevirtual 154, 3) := by decide +kernel
theorem dX11_way_29 : decode cX11_way 29 = .ok (.ifCond .ne 10, 3) := by decide +kernel
theorem dX11_way_32 : decode cX11_way 32 = .ok (.aload_n 0, 1) := by decide +kernel
theorem dX11_way_33 : decode cX11_way 33 = .ok (.bipush (-6), 2) := by decide +kernel
theorem dX11_way_35 : decode cX11_way 35 = .ok (.invokevirtual 130, 3) := by decide +kernel
theorem dX11_way_38 : decode cX11_way 38 = .ok (.ireturn, 1) := by decide +kernel
theorem dX11_way_39 : decode cX11_way 39 = .ok (.aload_n 0, 1) := by decide +kernel
theorem dX11_way_40 : decode cX11_way 40 = .ok (.invokevirtual 181, 3) := by decide +kernel
theorem dX11_way_43 : decode cX11_way 43 = .ok (.iload_n 3, 1) := by decide +kernel
theorem dX11_way_44 : decode cX11_way 44 = .ok (.ifCond .ne 12, 3) := by decide +kernel
theorem dX11_way_47 : decode cX11_way 47 = .ok (.aload_n 0, 1) := by decide +kernel
theorem dX11_way_48 : decode cX11_way 48 = .ok (.iload_n 1, 1) := by decide +kernel
theorem dX11_way_49 : decode cX11_way 49 = .ok (.iload_n 2, 1) := by decide +kernel
theorem dX11_way_50 : decode cX11_way 50 = .ok (.invokevirtual 242, 3) := by decide +kernel
theorem dX11_way_53 : decode cX11_way 53 = .ok (.goto 9, 3) := by decide +kernel
theorem dX11_way_56 : decode cX11_way 56 = .ok (.aload_n 0, 1) := by decide +kernel
theorem dX11_way_57 : decode cX11_way 57 = .ok (.iload_n 1, 1) := by decide +kernel
theorem dX11_way_58 : decode cX11_way 58 = .ok (.iload_n 2, 1) := by decide +kernel
theorem dX11_way_59 : decode cX11_way 59 = .ok (.invokevirtual 251, 3) := by decide +kernel
theorem dX11_way_62 : decode cX11_way 62 = .ok (.ireturn, 1) := by decide +kernel
theorem dX11_hum_0 : decode cX11_hum 0 = .ok (.iload_n 2, 1) := by decide +kernel
theorem dX11_hum_1 : decode cX11_hum 1 = .ok (.ifCond .lt 8, 3) := by decide +kernel
theorem dX11_hum_4 : decode cX11_hum 4 = .ok (.iload_n 2, 1) := by decide +kernel
theorem dX11_hum_5 : decode cX11_hum 5 = .ok (.iconst 1, 1) := by decide +kernel
theorem dX11_hum_6 : decode cX11_hum 6 = .ok (.if_icmp .le 10, 3) := by decide +kernel
theorem dX11_hum_9 : decode cX11_hum 9 = .ok (.aload_n 0, 1) := by decide +kernel
theorem dX11_hum_10 : decode cX11_hum 10 = .ok (.bipush (-5), 2) := by decide +kernel
theorem dX11_hum_12 : decode cX11_hum 12 = .ok (.invokevirtual 130, 3) := by decide +kernel
theorem dX11_hum_15 : decode cX11_hum 15 = .ok (.ireturn, 1) := by decide +kernel
theorem dX11_hum_16 : decode cX11_hum 16 = .ok (.aload_n 0, 1) := by decide +kernel
theorem dX11_hum_17 : decode cX11_hum 17 = .ok (.iload_n 1, 1) := by decide +kernel
theorem dX11_hum_18 : decode cX11_hum 18 = .ok (.invokevirtual 154, 3) := by decide +kernel
theorem dX11_hum_21 : decode cX11_hum 21 = .ok (.ifCond .ne 10, 3) := by decide +kernel
theorem dX11_hum_24 : decode cX11_hum 24 = .ok (.aload_n 0, 1) := by decide +kernel
theorem dX11_hum_25 : decode cX11_hum 25 = .ok (.bipush (-6), 2) := by decide +kernel
theorem dX11_hum_27 : decode cX11_hum 27 = .ok (.invokevirtual 130, 3) := by decide +kernel
theorem dX11_hum_30 : decode cX11_hum 30 = .ok (.ireturn, 1) := by decide +kernel
theorem dX11_hum_31 : decode cX11_hum 31 = .ok (.aload_n 0, 1) := by decide +kernel
theorem dX11_hum_32 : decode cX11_hum 32 = .ok (.invokevirtual 181, 3) := by decide +kernel
theorem dX11_hum_35 : decode cX11_hum 35 = .ok (.iload_n 2, 1) := by decide +kernel
theorem dX11_hum_36 : decode cX11_hum 36 = .ok (.ifCond .ne 12, 3) := by decide +kernel
theorem dX11_hum_39 : decode cX11_hum 39 = .ok (.aload_n 0, 1) := by decide +kernel
theorem dX11_hum_40 : decode cX11_hum 40 = .ok (.getfield 99, 3) := by decide +kernel
theorem dX11_hum_43 : decode cX11_hum 43 = .ok (.iload_n 1, 1) := by decide +kernel
theorem dX11_hum_44 : decode cX11_hum 44 = .ok (.iaload, 1) := by decide +kernel
theorem dX11_hum_45 : decode cX11_hum 45 = .ok (.goto 7, 3) := by decide +kernel
theorem dX11_hum_48 : decode cX11_hum 48 = .ok (.aload_n 0, 1) := by decide +kernel
theorem dX11_hum_49 : decode cX11_hum 49 = .ok (.getfield 245, 3) := by decide +kernel
theorem dX11_hum_52 : decode cX11_hum 52 = .ok (.ireturn, 1) := by decide +kernel
theorem dX11_filled_0 : decode cX11_filled 0 = .ok (.iload_n 1, 1) := by decide +kernel
theorem dX11_filled_1 : decode cX11_filled 1 = .ok (.ifCond .lt 8, 3) := by decide +kernel
theorem dX11_filled_4 : decode cX11_filled 4 = .ok (.iload_n 1, 1) := by decide +kernel
theorem dX11_filled_5 : decode cX11_filled 5 = .ok (.iconst 1, 1) := by decide +kernel
theorem dX11_filled_6 : decode cX11_filled 6 = .ok (.if_icmp .le 10, 3) := by decide +kernel
theorem dX11_filled_9 : decode cX11_filled 9 = .ok (.aload_n 0, 1) := by decide +kernel
theorem dX11_filled_10 : decode cX11_filled 10 = .ok (.bipush (-5), 2) := by decide +kernel
theorem dX11_filled_12 : decode cX11_filled 12 = .ok (.invokevirtual 130, 3) := by decide +kernel
theorem dX11_filled_15 : decode cX11_filled 15 = .ok (.ireturn, 1) := by decide +kernel
theorem dX11_filled_16 : decode cX11_filled 16 = .ok (.aload_n 0, 1) := by decide +kernel
theorem dX11_filled_17 : decode cX11_filled 17 = .ok (.invokevirtual 181, 3) := by decide +kernel
theorem dX11_filled_20 : decode cX11_filled 20 = .ok (.iload_n 1, 1) := by decide +kernel
theorem dX11_filled_21 : decode cX11_filled 21 = .ok (.ifCond .ne 10, 3) := by decide +kernel
theorem dX11_filled_24 : decode cX11_filled 24 = .ok (.aload_n 0, 1) := by decide +kernel
theorem dX11_filled_25 : decode cX11_filled 25 = .ok (.invokevirtual 260, 3) := by decide +kernel
theorem dX11_filled_28 : decode cX11_filled 28 = .ok (.goto 7, 3) := by decide +kernel
theorem dX11_filled_31 : decode cX11_filled 31 = .ok (.aload_n 0, 1) := by decide +kernel
theorem dX11_filled_32 : decode cX11_filled 32 = .ok (.invokevirtual 263, 3) := by decide +kernel
theorem dX11_filled_35 : decode cX11_filled 35 = .ok (.ireturn, 1) := by decide +kernel
theorem dX11_bestPlace_0 : decode cX11_bestPlace 0 = .ok (.aload_n 0, 1) := by decide +kernel
theorem dX11_bestPlace_1 : decode cX11_bestPlace 1 = .ok (.getfield 59, 3) := by decide +kernel
theorem dX11_bestPlace_4 : decode cX11_bestPlace 4 = .ok (.iload_n 1, 1) := by decide +kernel
theorem dX11_bestPlace_5 : decode cX11_bestPlace 5 = .ok (.iaload, 1) := by decide +kernel
theorem dX11_bestPlace_6 : decode cX11_bestPlace 6 = .ok (.istore_n 2, 1) := by decide +kernel
theorem dX11_bestPlace_7 : decode cX11_bestPlace 7 = .ok (.iconst (-1), 1) := by decide +kernel
theorem dX11_bestPlace_8 : decode cX11_bestPlace 8 = .ok (.istore_n 3, 1) := by decide +kernel
theorem dX11_bestPlace_9 : decode cX11_bestPlace 9 = .ok (.iconst (-1), 1) := by decide +kernel
theorem dX11_bestPlace_10 : decode cX11_bestPlace 10 = .ok (.istore 4, 2) := by decide +kernel
theorem dX11_bestPlace_12 : decode cX11_bestPlace 12 = .ok (.iconst 0, 1) := by decide +kernel
theorem dX11_bestPlace_13 : decode cX11_bestPlace 13 = .ok (.istore 5, 2) := by decide +kernel
theorem dX11_bestPlace_15 : decode cX11_bestPlace 15 = .ok (.iload 5, 2) := by decide +kernel
theorem dX11_bestPlace_17 : decode cX11_bestPlace 17 = .ok (.aload_n 0, 1) := by decide +kernel
theorem dX11_bestPlace_18 : decode cX11_bestPlace 18 = .ok (.getfield 7, 3) := by decide +kernel
theorem dX11_bestPlace_21 : decode cX11_bestPlace 21 = .ok (.if_icmp .ge 68, 3) := by decide +kernel
theorem dX11_bestPlace_24 : decode cX11_bestPlace 24 = .ok (.iconst 0, 1) := by decide +kernel
theorem dX11_bestPlace_25 : decode cX11_bestPlace 25 = .ok (.istore 6, 2) := by decide +kernel
theorem dX11_bestPlace_27 : decode cX11_bestPlace 27 = .ok (.iload 6, 2) := by decide +kernel
theorem dX11_bestPlace_29 : decode cX11_bestPlace 29 = .ok (.aload_n 0, 1) := by decide +kernel
theorem dX11_bestPlace_30 : decode cX11_bestPlace 30 = .ok (.getfield 7, 3) := by decide +kernel
theorem dX11_bestPlace_33 : decode cX11_bestPlace 33 = .ok (.if_icmp .ge 50, 3) := by decide +kernel
theorem dX11_bestPlace_36 : decode cX11_bestPlace 36 = .ok (.aload_n 0, 1) := by decide +kernel
theorem dX11_bestPlace_37 : decode cX11_bestPlace 37 = .ok (.getfield 59, 3) := by decide +kernel
theorem dX11_bestPlace_40 : decode cX11_bestPlace 40 = .ok (.iload_n 1, 1) := by decide +kernel
theorem dX11_bestPlace_41 : decode cX11_bestPlace 41 = .ok (.bipush 10, 2) := by decide +kernel
theorem dX11_bestPlace_43 : decode cX11_bestPlace 43 = .ok (.iload 5, 2) := by decide +kernel
theorem dX11_bestPlace_45 : decode cX11_bestPlace 45 = .ok (.imul, 1) := by decide +kernel
theorem dX11_bestPlace_46 : decode cX11_bestPlace 46 = .ok (.iload 6, 2) := by decide +kernel
theorem dX11_bestPlace_48 : decode cX11_bestPlace 48 = .ok (.iadd, 1) := by decide +kernel
theorem dX11_bestPlace_49 : decode cX11_bestPlace 49 = .ok (.iastore, 1) := by decide +kernel
theorem dX11_bestPlace_50 : decode cX11_bestPlace 50 = .ok (.aload_n 0, 1) := by decide +kernel
theorem dX11_bestPlace_51 : decode cX11_bestPlace 51 = .ok (.invokevirtual 263, 3) := by decide +kernel
theorem dX11_bestPlace_54 : decode cX11_bestPlace 54 = .ok (.istore 7, 2) := by decide +kernel
theorem dX11_bestPlace_56 : decode cX11_bestPlace 56 = .ok (.iload 7, 2) := by decide +kernel
theorem dX11_bestPlace_58 : decode cX11_bestPlace 58 = .ok (.iload 4, 2) := by decide +kernel
theorem dX11_bestPlace_60 : decode cX11_bestPlace 60 = .ok (.if_icmp .gt 6, 3) := by decide +kernel
theorem dX11_bestPlace_63 : decode cX11_bestPlace 63 = .ok (.goto 14, 3) := by decide +kernel
theorem dX11_bestPlace_66 : decode cX11_bestPlace 66 = .ok (.aload_n 0, 1) := by decide +kernel
theorem dX11_bestPlace_67 : decode cX11_bestPlace 67 = .ok (.getfield 59, 3) := by decide +kernel
theorem dX11_bestPlace_70 : decode cX11_bestPlace 70 = .ok (.iload_n 1, 1) := by decide +kernel
theorem dX11_bestPlace_71 : decode cX11_bestPlace 71 = .ok (.iaload, 1) := by decide +kernel
theorem dX11_bestPlace_72 : decode cX11_bestPlace 72 = .ok (.istore_n 3, 1) := by decide +kernel
theorem dX11_bestPlace_73 : decode cX11_bestPlace 73 = .ok (.iload 7, 2) := by decide +kernel
theorem dX11_bestPlace_75 : decode cX11_bestPlace 75 = .ok (.istore 4, 2) := by decide +kernel
theorem dX11_bestPlace_77 : decode cX11_bestPlace 77 = .ok (.iinc 6 1, 3) := by decide +kernel
theorem dX11_bestPlace_80 : decode cX11_bestPlace 80 = .ok (.goto (-53), 3) := by decide +kernel
theorem dX11_bestPlace_83 : decode cX11_bestPlace 83 = .ok (.iinc 5 1, 3) := by decide +kernel
theorem dX11_bestPlace_86 : decode cX11_bestPlace 86 = .ok (.goto (-71), 3) := by decide +kernel
theorem dX11_bestPlace_89 : decode cX11_bestPlace 89 = .ok (.aload_n 0, 1) := by decide +kernel
theorem dX11_bestPlace_90 : decode cX11_bestPlace 90 = .ok (.getfield 59, 3) := by decide +kernel
theorem dX11_bestPlace_93 : decode cX11_bestPlace 93 = .ok (.iload_n 1, 1) := by decide +kernel
theorem dX11_bestPlace_94 : decode cX11_bestPlace 94 = .ok (.iload_n 2, 1) := by decide +kernel
theorem dX11_bestPlace_95 : decode cX11_bestPlace 95 = .ok (.iastore, 1) := by decide +kernel
theorem dX11_bestPlace_96 : decode cX11_bestPlace 96 = .ok (.aload_n 0, 1) := by decide +kernel
theorem dX11_bestPlace_97 : decode cX11_bestPlace 97 = .ok (.iload 4, 2) := by decide +kernel
theorem dX11_bestPlace_99 : decode cX11_bestPlace 99 = .ok (.putfield 266, 3) := by decide +kernel
theorem dX11_bestPlace_102 : decode cX11_bestPlace 102 = .ok (.iload_n 3, 1) := by decide +kernel
theorem dX11_bestPlace_103 : decode cX11_bestPlace 103 = .ok (.ireturn, 1) := by decide +kernel
theorem dX11_bestTwo_0 : decode cX11_bestTwo 0 = .ok (.aload_n 0, 1) := by decide +kernel
theorem dX11_bestTwo_1 : decode cX11_bestTwo 1 = .ok (.getfield 59, 3) := by decide +kernel
theorem dX11_bestTwo_4 : decode cX11_bestTwo 4 = .ok (.iconst 0, 1) := by decide +kernel
theorem dX11_bestTwo_5 : decode cX11_bestTwo 5 = .ok (.iaload, 1) := by decide +kernel
theorem dX11_bestTwo_6 : decode cX11_bestTwo 6 = .ok (.istore_n 1, 1) := by decide +kernel
theorem dX11_bestTwo_7 : decode cX11_bestTwo 7 = .ok (.iconst (-1), 1) := by decide +kernel
theorem dX11_bestTwo_8 : decode cX11_bestTwo 8 = .ok (.istore_n 2, 1) := by decide +kernel
theorem dX11_bestTwo_9 : decode cX11_bestTwo 9 = .ok (.iconst (-1), 1) := by decide +kernel
theorem dX11_bestTwo_10 : decode cX11_bestTwo 10 = .ok (.istore_n 3, 1) := by decide +kernel
theorem dX11_bestTwo_11 : decode cX11_bestTwo 11 = .ok (.iconst 0, 1) := by decide +kernel
theorem dX11_bestTwo_12 : decode cX11_bestTwo 12 = .ok (.istore 4, 2) := by decide +kernel
theorem dX11_bestTwo_14 : decode cX11_bestTwo 14 = .ok (.iload 4, 2) := by decide +kernel
theorem dX11_bestTwo_16 : decode cX11_bestTwo 16 = .ok (.aload_n 0, 1) := by decide +kernel
theorem dX11_bestTwo_17 : decode cX11_bestTwo 17 = .ok (.getfield 7, 3) := by decide +kernel
theorem dX11_bestTwo_20 : decode cX11_bestTwo 20 = .ok (.if_icmp .ge 77, 3) := by decide +kernel
theorem dX11_bestTwo_23 : decode cX11_bestTwo 23 = .ok (.iconst 0, 1) := by decide +kernel
theorem dX11_bestTwo_24 : decode cX11_bestTwo 24 = .ok (.istore 5, 2) := by decide +kernel
theorem dX11_bestTwo_26 : decode cX11_bestTwo 26 = .ok (.iload 5, 2) := by decide +kernel
theorem dX11_bestTwo_28 : decode cX11_bestTwo 28 = .ok (.aload_n 0, 1) := by decide +kernel
theorem dX11_bestTwo_29 : decode cX11_bestTwo 29 = .ok (.getfield 7, 3) := by decide +kernel
theorem dX11_bestTwo_32 : decode cX11_bestTwo 32 = .ok (.if_icmp .ge 59, 3) := by decide +kernel
theorem dX11_bestTwo_35 : decode cX11_bestTwo 35 = .ok (.aload_n 0, 1) := by decide +kernel
theorem dX11_bestTwo_36 : decode cX11_bestTwo 36 = .ok (.getfield 59, 3) := by decide +kernel
theorem dX11_bestTwo_39 : decode cX11_bestTwo 39 = .ok (.iconst 0, 1) := by decide +kernel
theorem dX11_bestTwo_40 : decode cX11_bestTwo 40 = .ok (.bipush 10, 2) := by decide +kernel
theorem dX11_bestTwo_42 : decode cX11_bestTwo 42 = .ok (.iload 4, 2) := by decide +kernel
theorem dX11_bestTwo_44 : decode cX11_bestTwo 44 = .ok (.imul, 1) := by decide +kernel
theorem dX11_bestTwo_45 : decode cX11_bestTwo 45 = .ok (.iload 5, 2) := by decide +kernel
theorem dX11_bestTwo_47 : decode cX11_bestTwo 47 = .ok (.iadd, 1) := by decide +kernel
theorem dX11_bestTwo_48 : decode cX11_bestTwo 48 = .ok (.iastore, 1) := by decide +kernel
theorem dX11_bestTwo_49 : decode cX11_bestTwo 49 = .ok (.aload_n 0, 1) := by decide +kernel
theorem dX11_bestTwo_50 : decode cX11_bestTwo 50 = .ok (.iconst 1, 1) := by decide +kernel
theorem dX11_bestTwo_51 : decode cX11_bestTwo 51 = .ok (.invokevirtual 269, 3) := by decide +kernel
theorem dX11_bestTwo_54 : decode cX11_bestTwo 54 = .ok (.istore 6, 2) := by decide +kernel
theorem dX11_bestTwo_56 : decode cX11_bestTwo 56 = .ok (.aload_n 0, 1) := by decide +kernel
theorem dX11_bestTwo_57 : decode cX11_bestTwo 57 = .ok (.getfield 266, 3) := by decide +kernel
theorem dX11_bestTwo_60 : decode cX11_bestTwo 60 = .ok (.iload_n 3, 1) := by decide +kernel
theorem dX11_bestTwo_61 : decode cX11_bestTwo 61 = .ok (.if_icmp .gt 6, 3) := by decide +kernel
theorem dX11_bestTwo_64 : decode cX11_bestTwo 64 = .ok (.goto 21, 3) := by decide +kernel
theorem dX11_bestTwo_67 : decode cX11_bestTwo 67 = .ok (.bipush 100, 2) := by decide +kernel
theorem dX11_bestTwo_69 : decode cX11_bestTwo 69 = .ok (.aload_n 0, 1) := by decide +kernel
theorem dX11_bestTwo_70 : decode cX11_bestTwo 70 = .ok (.getfield 59, 3) := by decide +kernel
theorem dX11_bestTwo_73 : decode cX11_bestTwo 73 = .ok (.iconst 0, 1) := by decide +kernel
theorem dX11_bestTwo_74 : decode cX11_bestTwo 74 = .ok (.iaload, 1) := by decide +kernel
theorem dX11_bestTwo_75 : decode cX11_bestTwo 75 = .ok (.imul, 1) := by decide +kernel
theorem dX11_bestTwo_76 : decode cX11_bestTwo 76 = .ok (.iload 6, 2) := by decide +kernel
theorem dX11_bestTwo_78 : decode cX11_bestTwo 78 = .ok (.iadd, 1) := by decide +kernel
theorem dX11_bestTwo_79 : decode cX11_bestTwo 79 = .ok (.istore_n 2, 1) := by decide +kernel
theorem dX11_bestTwo_80 : decode cX11_bestTwo 80 = .ok (.aload_n 0, 1) := by decide +kernel
theorem dX11_bestTwo_81 : decode cX11_bestTwo 81 = .ok (.getfield 266, 3) := by decide +kernel
theorem dX11_bestTwo_84 : decode cX11_bestTwo 84 = .ok (.istore_n 3, 1) := by decide +kernel
theorem dX11_bestTwo_85 : decode cX11_bestTwo 85 = .ok (.iinc 5 1, 3) := by decide +kernel
theorem dX11_bestTwo_88 : decode cX11_bestTwo 88 = .ok (.goto (-62), 3) := by decide +kernel
theorem dX11_bestTwo_91 : decode cX11_bestTwo 91 = .ok (.iinc 4 1, 3) := by decide +kernel
theorem dX11_bestTwo_94 : decode cX11_bestTwo 94 = .ok (.goto (-80), 3) := by decide +kernel
theorem dX11_bestTwo_97 : decode cX11_bestTwo 97 = .ok (.aload_n 0, 1) := by decide +kernel
theorem dX11_bestTwo_98 : decode cX11_bestTwo 98 = .ok (.getfield 59, 3) := by decide +kernel
theorem dX11_bestTwo_101 : decode cX11_bestTwo 101 = .ok (.iconst 0, 1) := by decide +kernel
theorem dX11_bestTwo_102 : decode cX11_bestTwo 102 = .ok (.iload_n 1, 1) := by decide +kernel
theorem dX11_bestTwo_103 : decode cX11_bestTwo 103 = .ok (.iastore, 1) := by decide +kernel
theorem dX11_bestTwo_104 : decode cX11_bestTwo 104 = .ok (.iload_n 2, 1) := by decide +kernel
theorem dX11_bestTwo_105 : decode cX11_bestTwo 105 = .ok (.ireturn, 1) := by decide +kernel
theorem dX11_put_0 : decode cX11_put 0 = .ok (.iload_n 1, 1) := by decide +kernel
theorem dX11_put_1 : decode cX11_put 1 = .ok (.ifCond .lt 8, 3) := by decide +kernel
theorem dX11_put_4 : decode cX11_put 4 = .ok (.iload_n 1, 1) := by decide +kernel
theorem dX11_put_5 : decode cX11_put 5 = .ok (.iconst 2, 1) := by decide +kernel
theorem dX11_put_6 : decode cX11_put 6 = .ok (.if_icmp .le 10, 3) := by decide +kernel
theorem dX11_put_9 : decode cX11_put 9 = .ok (.aload_n 0, 1) := by decide +kernel
theorem dX11_put_10 : decode cX11_put 10 = .ok (.bipush (-5), 2) := by decide +kernel
theorem dX11_put_12 : decode cX11_put 12 = .ok (.invokevirtual 130, 3) := by decide +kernel
theorem dX11_put_15 : decode cX11_put 15 = .ok (.ireturn, 1) := by decide +kernel
theorem dX11_put_16 : decode cX11_put 16 = .ok (.aload_n 0, 1) := by decide +kernel
theorem dX11_put_17 : decode cX11_put 17 = .ok (.invokevirtual 181, 3) := by decide +kernel
theorem dX11_put_20 : decode cX11_put 20 = .ok (.iload_n 1, 1) := by decide +kernel
theorem dX11_put_21 : decode cX11_put 21 = .ok (.iconst 2, 1) := by decide +kernel
theorem dX11_put_22 : decode cX11_put 22 = .ok (.if_icmp .ne 10, 3) := by decide +kernel
theorem dX11_put_25 : decode cX11_put 25 = .ok (.aload_n 0, 1) := by decide +kernel
theorem dX11_put_26 : decode cX11_put 26 = .ok (.invokevirtual 272, 3) := by decide +kernel
theorem dX11_put_29 : decode cX11_put 29 = .ok (.goto 8, 3) := by decide +kernel
theorem dX11_put_32 : decode cX11_put 32 = .ok (.aload_n 0, 1) := by decide +kernel
theorem dX11_put_33 : decode cX11_put 33 = .ok (.iload_n 1, 1) := by decide +kernel
theorem dX11_put_34 : decode cX11_put 34 = .ok (.invokevirtual 269, 3) := by decide +kernel
theorem dX11_put_37 : decode cX11_put 37 = .ok (.ireturn, 1) := by decide +kernel
theorem dX11_channel_0 : decode cX11_channel 0 = .ok (.iconst 0, 1) := by decide +kernel
theorem dX11_channel_1 : decode cX11_channel 1 = .ok (.istore_n 1, 1) := by decide +kernel
theorem dX11_channel_2 : decode cX11_channel 2 = .ok (.iconst 0, 1) := by decide +kernel
theorem dX11_channel_3 : decode cX11_channel 3 = .ok (.istore_n 2, 1) := by decide +kernel
theorem dX11_channel_4 : decode cX11_channel 4 = .ok (.iconst 1, 1) := by decide +kernel
theorem dX11_channel_5 : decode cX11_channel 5 = .ok (.istore_n 3, 1) := by decide +kernel
theorem dX11_channel_6 : decode cX11_channel 6 = .ok (.iload_n 3, 1) := by decide +kernel
theorem dX11_channel_7 : decode cX11_channel 7 = .ok (.bipush 13, 2) := by decide +kernel
theorem dX11_channel_9 : decode cX11_channel 9 = .ok (.if_icmp .gt 72, 3) := by decide +kernel
theorem dX11_channel_12 : decode cX11_channel 12 = .ok (.iconst 0, 1) := by decide +kernel
theorem dX11_channel_13 : decode cX11_channel 13 = .ok (.istore 4, 2) := by decide +kernel
theorem dX11_channel_15 : decode cX11_channel 15 = .ok (.iconst 0, 1) := by decide +kernel
theorem dX11_channel_16 : decode cX11_channel 16 = .ok (.istore 5, 2) := by decide +kernel
theorem dX11_channel_18 : decode cX11_channel 18 = .ok (.iload 5, 2) := by decide +kernel
theorem dX11_channel_20 : decode cX11_channel 20 = .ok (.aload_n 0, 1) := by decide +kernel
theorem dX11_channel_21 : decode cX11_channel 21 = .ok (.getfield 144, 3) := by decide +kernel
theorem dX11_channel_24 : decode cX11_channel 24 = .ok (.if_icmp .ge 33, 3) := by decide +kernel
theorem dX11_channel_27 : decode cX11_channel 27 = .ok (.iload 4, 2) := by decide +kernel
theorem dX11_channel_29 : decode cX11_channel 29 = .ok (.aload_n 0, 1) := by decide +kernel
theorem dX11_channel_30 : decode cX11_channel 30 = .ok (.aload_n 0, 1) := by decide +kernel
theorem dX11_channel_31 : decode cX11_channel 31 = .ok (.getfield 44, 3) := by decide +kernel
theorem dX11_channel_34 : decode cX11_channel 34 = .ok (.iload 5, 2) := by decide +kernel
theorem dX11_channel_36 : decode cX11_channel 36 = .ok (.iaload, 1) := by decide +kernel
theorem dX11_channel_37 : decode cX11_channel 37 = .ok (.aload_n 0, 1) := by decide +kernel
theorem dX11_channel_38 : decode cX11_channel 38 = .ok (.getfield 41, 3) := by decide +kernel
theorem dX11_channel_41 : decode cX11_channel 41 = .ok (.iload 5, 2) := by decide +kernel
theorem dX11_channel_43 : decode cX11_channel 43 = .ok (.iaload, 1) := by decide +kernel
theorem dX11_channel_44 : decode cX11_channel 44 = .ok (.iload_n 3, 1) := by decide +kernel
theorem dX11_channel_45 : decode cX11_channel 45 = .ok (.invokevirtual 248, 3) := by decide +kernel
theorem dX11_channel_48 : decode cX11_channel 48 = .ok (.iadd, 1) := by decide +kernel
theorem dX11_channel_49 : decode cX11_channel 49 = .ok (.istore 4, 2) := by decide +kernel
theorem dX11_channel_51 : decode cX11_channel 51 = .ok (.iinc 5 1, 3) := by decide +kernel
theorem dX11_channel_54 : decode cX11_channel 54 = .ok (.goto (-36), 3) := by decide +kernel
theorem dX11_channel_57 : decode cX11_channel 57 = .ok (.iload_n 1, 1) := by decide +kernel
theorem dX11_channel_58 : decode cX11_channel 58 = .ok (.ifCond .eq 12, 3) := by decide +kernel
theorem dX11_channel_61 : decode cX11_channel 61 = .ok (.iload 4, 2) := by decide +kernel
theorem dX11_channel_63 : decode cX11_channel 63 = .ok (.iload_n 2, 1) := by decide +kernel
theorem dX11_channel_64 : decode cX11_channel 64 = .ok (.if_icmp .lt 6, 3) := by decide +kernel
theorem dX11_channel_67 : decode cX11_channel 67 = .ok (.goto 8, 3) := by decide +kernel
theorem dX11_channel_70 : decode cX11_channel 70 = .ok (.iload_n 3, 1) := by decide +kernel
theorem dX11_channel_71 : decode cX11_channel 71 = .ok (.istore_n 1, 1) := by decide +kernel
theorem dX11_channel_72 : decode cX11_channel 72 = .ok (.iload 4, 2) := by decide +kernel
theorem dX11_channel_74 : decode cX11_channel 74 = .ok (.istore_n 2, 1) := by decide +kernel
theorem dX11_channel_75 : decode cX11_channel 75 = .ok (.iinc 3 1, 3) := by decide +kernel
theorem dX11_channel_78 : decode cX11_channel 78 = .ok (.goto (-72), 3) := by decide +kernel
theorem dX11_channel_81 : decode cX11_channel 81 = .ok (.iload_n 1, 1) := by decide +kernel
theorem dX11_channel_82 : decode cX11_channel 82 = .ok (.ireturn, 1) := by decide +kernel
theorem dX11_madeAt_0 : decode cX11_madeAt 0 = .ok (.aload_n 0, 1) := by decide +kernel
theorem dX11_madeAt_1 : decode cX11_madeAt 1 = .ok (.bipush 10, 2) := by decide +kernel
theorem dX11_madeAt_3 : decode cX11_madeAt 3 = .ok (.aload_n 0, 1) := by decide +kernel
theorem dX11_madeAt_4 : decode cX11_madeAt 4 = .ok (.getfield 16, 3) := by decide +kernel
theorem dX11_madeAt_7 : decode cX11_madeAt 7 = .ok (.iload_n 2, 1) := by decide +kernel
theorem dX11_madeAt_8 : decode cX11_madeAt 8 = .ok (.invokevirtual 248, 3) := by decide +kernel
theorem dX11_madeAt_11 : decode cX11_madeAt 11 = .ok (.istore_n 3, 1) := by decide +kernel
theorem dX11_madeAt_12 : decode cX11_madeAt 12 = .ok (.iconst 0, 1) := by decide +kernel
theorem dX11_madeAt_13 : decode cX11_madeAt 13 = .ok (.istore 4, 2) := by decide +kernel
theorem dX11_madeAt_15 : decode cX11_madeAt 15 = .ok (.iload 4, 2) := by decide +kernel
theorem dX11_madeAt_17 : decode cX11_madeAt 17 = .ok (.aload_n 0, 1) := by decide +kernel
theorem dX11_madeAt_18 : decode cX11_madeAt 18 = .ok (.getfield 144, 3) := by decide +kernel
theorem dX11_madeAt_21 : decode cX11_madeAt 21 = .ok (.if_icmp .ge 37, 3) := by decide +kernel
theorem dX11_madeAt_24 : decode cX11_madeAt 24 = .ok (.iload 4, 2) := by decide +kernel
theorem dX11_madeAt_26 : decode cX11_madeAt 26 = .ok (.iload_n 1, 1) := by decide +kernel
theorem dX11_madeAt_27 : decode cX11_madeAt 27 = .ok (.if_icmp .eq 25, 3) := by decide +kernel
theorem dX11_madeAt_30 : decode cX11_madeAt 30 = .ok (.iload_n 3, 1) := by decide +kernel
theorem dX11_madeAt_31 : decode cX11_madeAt 31 = .ok (.aload_n 0, 1) := by decide +kernel
theorem dX11_madeAt_32 : decode cX11_madeAt 32 = .ok (.aload_n 0, 1) := by decide +kernel
theorem dX11_madeAt_33 : decode cX11_madeAt 33 = .ok (.getfield 44, 3) := by decide +kernel
theorem dX11_madeAt_36 : decode cX11_madeAt 36 = .ok (.iload 4, 2) := by decide +kernel
theorem dX11_madeAt_38 : decode cX11_madeAt 38 = .ok (.iaload, 1) := by decide +kernel
theorem dX11_madeAt_39 : decode cX11_madeAt 39 = .ok (.aload_n 0, 1) := by decide +kernel
theorem dX11_madeAt_40 : decode cX11_madeAt 40 = .ok (.getfield 105, 3) := by decide +kernel
theorem dX11_madeAt_43 : decode cX11_madeAt 43 = .ok (.iload 4, 2) := by decide +kernel
theorem dX11_madeAt_45 : decode cX11_madeAt 45 = .ok (.iaload, 1) := by decide +kernel
theorem dX11_madeAt_46 : decode cX11_madeAt 46 = .ok (.iload_n 2, 1) := by decide +kernel
theorem dX11_madeAt_47 : decode cX11_madeAt 47 = .ok (.invokevirtual 248, 3) := by decide +kernel
theorem dX11_madeAt_50 : decode cX11_madeAt 50 = .ok (.iadd, 1) := by decide +kernel
theorem dX11_madeAt_51 : decode cX11_madeAt 51 = .ok (.istore_n 3, 1) := by decide +kernel
theorem dX11_madeAt_52 : decode cX11_madeAt 52 = .ok (.iinc 4 1, 3) := by decide +kernel
theorem dX11_madeAt_55 : decode cX11_madeAt 55 = .ok (.goto (-40), 3) := by decide +kernel
theorem dX11_madeAt_58 : decode cX11_madeAt 58 = .ok (.iload_n 3, 1) := by decide +kernel
theorem dX11_madeAt_59 : decode cX11_madeAt 59 = .ok (.ireturn, 1) := by decide +kernel
theorem dX11_doesRound_0 : decode cX11_doesRound 0 = .ok (.iconst 0, 1) := by decide +kernel
theorem dX11_doesRound_1 : decode cX11_doesRound 1 = .ok (.istore_n 1, 1) := by decide +kernel
theorem dX11_doesRound_2 : decode cX11_doesRound 2 = .ok (.iconst 0, 1) := by decide +kernel
theorem dX11_doesRound_3 : decode cX11_doesRound 3 = .ok (.istore_n 2, 1) := by decide +kernel
theorem dX11_doesRound_4 : decode cX11_doesRound 4 = .ok (.iload_n 2, 1) := by decide +kernel
theorem dX11_doesRound_5 : decode cX11_doesRound 5 = .ok (.aload_n 0, 1) := by decide +kernel
theorem dX11_doesRound_6 : decode cX11_doesRound 6 = .ok (.getfield 144, 3) := by decide +kernel
theorem dX11_doesRound_9 : decode cX11_doesRound 9 = .ok (.if_icmp .ge 99, 3) := by decide +kernel
theorem dX11_doesRound_12 : decode cX11_doesRound 12 = .ok (.aload_n 0, 1) := by decide +kernel
theorem dX11_doesRound_13 : decode cX11_doesRound 13 = .ok (.getfield 105, 3) := by decide +kernel
theorem dX11_doesRound_16 : decode cX11_doesRound 16 = .ok (.iload_n 2, 1) := by decide +kernel
theorem dX11_doesRound_17 : decode cX11_doesRound 17 = .ok (.iaload, 1) := by decide +kernel
theorem dX11_doesRound_18 : decode cX11_doesRound 18 = .ok (.istore_n 3, 1) := by decide +kernel
theorem dX11_doesRound_19 : decode cX11_doesRound 19 = .ok (.aload_n 0, 1) := by decide +kernel
theorem dX11_doesRound_20 : decode cX11_doesRound 20 = .ok (.iload_n 2, 1) := by decide +kernel
theorem dX11_doesRound_21 : decode cX11_doesRound 21 = .ok (.aload_n 0, 1) := by decide +kernel
theorem dX11_doesRound_22 : decode cX11_doesRound 22 = .ok (.getfield 105, 3) := by decide +kernel
theorem dX11_doesRound_25 : decode cX11_doesRound 25 = .ok (.iload_n 2, 1) := by decide +kernel
theorem dX11_doesRound_26 : decode cX11_doesRound 26 = .ok (.iaload, 1) := by decide +kernel
theorem dX11_doesRound_27 : decode cX11_doesRound 27 = .ok (.invokevirtual 275, 3) := by decide +kernel
theorem dX11_doesRound_30 : decode cX11_doesRound 30 = .ok (.istore 4, 2) := by decide +kernel
theorem dX11_doesRound_32 : decode cX11_doesRound 32 = .ok (.iconst 1, 1) := by decide +kernel
theorem dX11_doesRound_33 : decode cX11_doesRound 33 = .ok (.istore 5, 2) := by decide +kernel
theorem dX11_doesRound_35 : decode cX11_doesRound 35 = .ok (.iload 5, 2) := by decide +kernel
theorem dX11_doesRound_37 : decode cX11_doesRound 37 = .ok (.bipush 13, 2) := by decide +kernel
theorem dX11_doesRound_39 : decode cX11_doesRound 39 = .ok (.if_icmp .gt 36, 3) := by decide +kernel
theorem dX11_doesRound_42 : decode cX11_doesRound 42 = .ok (.aload_n 0, 1) := by decide +kernel
theorem dX11_doesRound_43 : decode cX11_doesRound 43 = .ok (.iload_n 2, 1) := by decide +kernel
theorem dX11_doesRound_44 : decode cX11_doesRound 44 = .ok (.iload 5, 2) := by decide +kernel
theorem dX11_doesRound_46 : decode cX11_doesRound 46 = .ok (.invokevirtual 275, 3) := by decide +kernel
theorem dX11_doesRound_49 : decode cX11_doesRound 49 = .ok (.iload 4, 2) := by decide +kernel
theorem dX11_doesRound_51 : decode cX11_doesRound 51 = .ok (.if_icmp .lt 6, 3) := by decide +kernel
theorem dX11_doesRound_54 : decode cX11_doesRound 54 = .ok (.goto 15, 3) := by decide +kernel
theorem dX11_doesRound_57 : decode cX11_doesRound 57 = .ok (.iload 5, 2) := by decide +kernel
theorem dX11_doesRound_59 : decode cX11_doesRound 59 = .ok (.istore_n 3, 1) := by decide +kernel
theorem dX11_doesRound_60 : decode cX11_doesRound 60 = .ok (.aload_n 0, 1) := by decide +kernel
theorem dX11_doesRound_61 : decode cX11_doesRound 61 = .ok (.iload_n 2, 1) := by decide +kernel
theorem dX11_doesRound_62 : decode cX11_doesRound 62 = .ok (.iload 5, 2) := by decide +kernel
theorem dX11_doesRound_64 : decode cX11_doesRound 64 = .ok (.invokevirtual 275, 3) := by decide +kernel
theorem dX11_doesRound_67 : decode cX11_doesRound 67 = .ok (.istore 4, 2) := by decide +kernel
theorem dX11_doesRound_69 : decode cX11_doesRound 69 = .ok (.iinc 5 1, 3) := by decide +kernel
theorem dX11_doesRound_72 : decode cX11_doesRound 72 = .ok (.goto (-37), 3) := by decide +kernel
theorem dX11_doesRound_75 : decode cX11_doesRound 75 = .ok (.iload_n 1, 1) := by decide +kernel
theorem dX11_doesRound_76 : decode cX11_doesRound 76 = .ok (.ifCond .ne 13, 3) := by decide +kernel
theorem dX11_doesRound_79 : decode cX11_doesRound 79 = .ok (.iload_n 3, 1) := by decide +kernel
theorem dX11_doesRound_80 : decode cX11_doesRound 80 = .ok (.aload_n 0, 1) := by decide +kernel
theorem dX11_doesRound_81 : decode cX11_doesRound 81 = .ok (.getfield 105, 3) := by decide +kernel
theorem dX11_doesRound_84 : decode cX11_doesRound 84 = .ok (.iload_n 2, 1) := by decide +kernel
theorem dX11_doesRound_85 : decode cX11_doesRound 85 = .ok (.iaload, 1) := by decide +kernel
theorem dX11_doesRound_86 : decode cX11_doesRound 86 = .ok (.if_icmp .eq 7, 3) := by decide +kernel
theorem dX11_doesRound_89 : decode cX11_doesRound 89 = .ok (.iconst 1, 1) := by decide +kernel
theorem dX11_doesRound_90 : decode cX11_doesRound 90 = .ok (.goto 4, 3) := by decide +kernel
theorem dX11_doesRound_93 : decode cX11_doesRound 93 = .ok (.iconst 0, 1) := by decide +kernel
theorem dX11_doesRound_94 : decode cX11_doesRound 94 = .ok (.istore_n 1, 1) := by decide +kernel
theorem dX11_doesRound_95 : decode cX11_doesRound 95 = .ok (.aload_n 0, 1) := by decide +kernel
theorem dX11_doesRound_96 : decode cX11_doesRound 96 = .ok (.getfield 105, 3) := by decide +kernel
theorem dX11_doesRound_99 : decode cX11_doesRound 99 = .ok (.iload_n 2, 1) := by decide +kernel
theorem dX11_doesRound_100 : decode cX11_doesRound 100 = .ok (.iload_n 3, 1) := by decide +kernel
theorem dX11_doesRound_101 : decode cX11_doesRound 101 = .ok (.iastore, 1) := by decide +kernel
theorem dX11_doesRound_102 : decode cX11_doesRound 102 = .ok (.iinc 2 1, 3) := by decide +kernel
theorem dX11_doesRound_105 : decode cX11_doesRound 105 = .ok (.goto (-101), 3) := by decide +kernel
theorem dX11_doesRound_108 : decode cX11_doesRound 108 = .ok (.iload_n 1, 1) := by decide +kernel
theorem dX11_doesRound_109 : decode cX11_doesRound 109 = .ok (.ireturn, 1) := by decide +kernel
theorem dX11_goes_0 : decode cX11_goes 0 = .ok (.iconst 0, 1) := by decide +kernel
theorem dX11_goes_1 : decode cX11_goes 1 = .ok (.istore_n 2, 1) := by decide +kernel
theorem dX11_goes_2 : decode cX11_goes 2 = .ok (.iload_n 2, 1) := by decide +kernel
theorem dX11_goes_3 : decode cX11_goes 3 = .ok (.aload_n 0, 1) := by decide +kernel
theorem dX11_goes_4 : decode cX11_goes 4 = .ok (.getfield 144, 3) := by decide +kernel
theorem dX11_goes_7 : decode cX11_goes 7 = .ok (.if_icmp .ge 21, 3) := by decide +kernel
theorem dX11_goes_10 : decode cX11_goes 10 = .ok (.aload_n 0, 1) := by decide +kernel
theorem dX11_goes_11 : decode cX11_goes 11 = .ok (.getfield 105, 3) := by decide +kernel
theorem dX11_goes_14 : decode cX11_goes 14 = .ok (.iload_n 2, 1) := by decide +kernel
theorem dX11_goes_15 : decode cX11_goes 15 = .ok (.aload_n 0, 1) := by decide +kernel
theorem dX11_goes_16 : decode cX11_goes 16 = .ok (.getfield 41, 3) := by decide +kernel
theorem dX11_goes_19 : decode cX11_goes 19 = .ok (.iload_n 2, 1) := by decide +kernel
theorem dX11_goes_20 : decode cX11_goes 20 = .ok (.iaload, 1) := by decide +kernel
theorem dX11_goes_21 : decode cX11_goes 21 = .ok (.iastore, 1) := by decide +kernel
theorem dX11_goes_22 : decode cX11_goes 22 = .ok (.iinc 2 1, 3) := by decide +kernel
theorem dX11_goes_25 : decode cX11_goes 25 = .ok (.goto (-23), 3) := by decide +kernel
theorem dX11_goes_28 : decode cX11_goes 28 = .ok (.iconst 0, 1) := by decide +kernel
theorem dX11_goes_29 : decode cX11_goes 29 = .ok (.istore_n 2, 1) := by decide +kernel
theorem dX11_goes_30 : decode cX11_goes 30 = .ok (.iload_n 2, 1) := by decide +kernel
theorem dX11_goes_31 : decode cX11_goes 31 = .ok (.iload_n 1, 1) := by decide +kernel
theorem dX11_goes_32 : decode cX11_goes 32 = .ok (.if_icmp .ge 18, 3) := by decide +kernel
theorem dX11_goes_35 : decode cX11_goes 35 = .ok (.aload_n 0, 1) := by decide +kernel
theorem dX11_goes_36 : decode cX11_goes 36 = .ok (.invokevirtual 278, 3) := by decide +kernel
theorem dX11_goes_39 : decode cX11_goes 39 = .ok (.ifCond .ne 5, 3) := by decide +kernel
theorem dX11_goes_42 : decode cX11_goes 42 = .ok (.iload_n 2, 1) := by decide +kernel
theorem dX11_goes_43 : decode cX11_goes 43 = .ok (.ireturn, 1) := by decide +kernel
theorem dX11_goes_44 : decode cX11_goes 44 = .ok (.iinc 2 1, 3) := by decide +kernel
theorem dX11_goes_47 : decode cX11_goes 47 = .ok (.goto (-17), 3) := by decide +kernel
theorem dX11_goes_50 : decode cX11_goes 50 = .ok (.iconst (-1), 1) := by decide +kernel
theorem dX11_goes_51 : decode cX11_goes 51 = .ok (.ireturn, 1) := by decide +kernel
theorem dX11_rests_0 : decode cX11_rests 0 = .ok (.aload_n 0, 1) := by decide +kernel
theorem dX11_rests_1 : decode cX11_rests 1 = .ok (.bipush 20, 2) := by decide +kernel
theorem dX11_rests_3 : decode cX11_rests 3 = .ok (.invokevirtual 281, 3) := by decide +kernel
theorem dX11_rests_6 : decode cX11_rests 6 = .ok (.ireturn, 1) := by decide +kernel
theorem dX11_goesTo_0 : decode cX11_goesTo 0 = .ok (.iload_n 1, 1) := by decide +kernel
theorem dX11_goesTo_1 : decode cX11_goesTo 1 = .ok (.ifCond .lt 11, 3) := by decide +kernel
theorem dX11_goesTo_4 : decode cX11_goesTo 4 = .ok (.iload_n 1, 1) := by decide +kernel
theorem dX11_goesTo_5 : decode cX11_goesTo 5 = .ok (.aload_n 0, 1) := by decide +kernel
theorem dX11_goesTo_6 : decode cX11_goesTo 6 = .ok (.getfield 144, 3) := by decide +kernel
theorem dX11_goesTo_9 : decode cX11_goesTo 9 = .ok (.if_icmp .lt 9, 3) := by decide +kernel
theorem dX11_goesTo_12 : decode cX11_goesTo 12 = .ok (.aload_n 0, 1) := by decide +kernel
theorem dX11_goesTo_13 : decode cX11_goesTo 13 = .ok (.iconst (-1), 1) := by decide +kernel
theorem dX11_goesTo_14 : decode cX11_goesTo 14 = .ok (.invokevirtual 130, 3) := by decide +kernel
theorem dX11_goesTo_17 : decode cX11_goesTo 17 = .ok (.ireturn, 1) := by decide +kernel
theorem dX11_goesTo_18 : decode cX11_goesTo 18 = .ok (.aload_n 0, 1) := by decide +kernel
theorem dX11_goesTo_19 : decode cX11_goesTo 19 = .ok (.iload_n 2, 1) := by decide +kernel
theorem dX11_goesTo_20 : decode cX11_goesTo 20 = .ok (.iconst 0, 1) := by decide +kernel
theorem dX11_goesTo_21 : decode cX11_goesTo 21 = .ok (.bipush 20, 2) := by decide +kernel
theorem dX11_goesTo_23 : decode cX11_goesTo 23 = .ok (.invokevirtual 150, 3) := by decide +kernel
theorem dX11_goesTo_26 : decode cX11_goesTo 26 = .ok (.ifCond .ne 10, 3) := by decide +kernel
theorem dX11_goesTo_29 : decode cX11_goesTo 29 = .ok (.aload_n 0, 1) := by decide +kernel
theorem dX11_goesTo_30 : decode cX11_goesTo 30 = .ok (.bipush (-6), 2) := by decide +kernel
theorem dX11_goesTo_32 : decode cX11_goesTo 32 = .ok (.invokevirtual 130, 3) := by decide +kernel
theorem dX11_goesTo_35 : decode cX11_goesTo 35 = .ok (.ireturn, 1) := by decide +kernel
theorem dX11_goesTo_36 : decode cX11_goesTo 36 = .ok (.aload_n 0, 1) := by decide +kernel
theorem dX11_goesTo_37 : decode cX11_goesTo 37 = .ok (.iload_n 2, 1) := by decide +kernel
theorem dX11_goesTo_38 : decode cX11_goesTo 38 = .ok (.invokevirtual 281, 3) := by decide +kernel
theorem dX11_goesTo_41 : decode cX11_goesTo 41 = .ok (.pop, 1) := by decide +kernel
theorem dX11_goesTo_42 : decode cX11_goesTo 42 = .ok (.aload_n 0, 1) := by decide +kernel
theorem dX11_goesTo_43 : decode cX11_goesTo 43 = .ok (.getfield 105, 3) := by decide +kernel
theorem dX11_goesTo_46 : decode cX11_goesTo 46 = .ok (.iload_n 1, 1) := by decide +kernel
theorem dX11_goesTo_47 : decode cX11_goesTo 47 = .ok (.iaload, 1) := by decide +kernel
theorem dX11_goesTo_48 : decode cX11_goesTo 48 = .ok (.ireturn, 1) := by decide +kernel
theorem dX11_moved_0 : decode cX11_moved 0 = .ok (.iconst (-1), 1) := by decide +kernel
theorem dX11_moved_1 : decode cX11_moved 1 = .ok (.istore_n 1, 1) := by decide +kernel
theorem dX11_moved_2 : decode cX11_moved 2 = .ok (.iconst 0, 1) := by decide +kernel
theorem dX11_moved_3 : decode cX11_moved 3 = .ok (.istore_n 2, 1) := by decide +kernel
theorem dX11_moved_4 : decode cX11_moved 4 = .ok (.iconst 0, 1) := by decide +kernel
theorem dX11_moved_5 : decode cX11_moved 5 = .ok (.istore_n 3, 1) := by decide +kernel
theorem dX11_moved_6 : decode cX11_moved 6 = .ok (.iload_n 3, 1) := by decide +kernel
theorem dX11_moved_7 : decode cX11_moved 7 = .ok (.aload_n 0, 1) := by decide +kernel
theorem dX11_moved_8 : decode cX11_moved 8 = .ok (.getfield 123, 3) := by decide +kernel
theorem dX11_moved_11 : decode cX11_moved 11 = .ok (.if_icmp .ge 43, 3) := by decide +kernel
theorem dX11_moved_14 : decode cX11_moved 14 = .ok (.aload_n 0, 1) := by decide +kernel
theorem dX11_moved_15 : decode cX11_moved 15 = .ok (.iload_n 3, 1) := by decide +kernel
theorem dX11_moved_16 : decode cX11_moved 16 = .ok (.putfield 102, 3) := by decide +kernel
theorem dX11_moved_19 : decode cX11_moved 19 = .ok (.aload_n 0, 1) := by decide +kernel
theorem dX11_moved_20 : decode cX11_moved 20 = .ok (.invokevirtual 181, 3) := by decide +kernel
theorem dX11_moved_23 : decode cX11_moved 23 = .ok (.aload_n 0, 1) := by decide +kernel
theorem dX11_moved_24 : decode cX11_moved 24 = .ok (.invokevirtual 263, 3) := by decide +kernel
theorem dX11_moved_27 : decode cX11_moved 27 = .ok (.istore 4, 2) := by decide +kernel
theorem dX11_moved_29 : decode cX11_moved 29 = .ok (.iload_n 1, 1) := by decide +kernel
theorem dX11_moved_30 : decode cX11_moved 30 = .ok (.iconst (-1), 1) := by decide +kernel
theorem dX11_moved_31 : decode cX11_moved 31 = .ok (.if_icmp .eq 12, 3) := by decide +kernel
theorem dX11_moved_34 : decode cX11_moved 34 = .ok (.iload 4, 2) := by decide +kernel
theorem dX11_moved_36 : decode cX11_moved 36 = .ok (.iload_n 2, 1) := by decide +kernel
theorem dX11_moved_37 : decode cX11_moved 37 = .ok (.if_icmp .gt 6, 3) := by decide +kernel
theorem dX11_moved_40 : decode cX11_moved 40 = .ok (.goto 8, 3) := by decide +kernel
theorem dX11_moved_43 : decode cX11_moved 43 = .ok (.iload_n 3, 1) := by decide +kernel
theorem dX11_moved_44 : decode cX11_moved 44 = .ok (.istore_n 1, 1) := by decide +kernel
theorem dX11_moved_45 : decode cX11_moved 45 = .ok (.iload 4, 2) := by decide +kernel
theorem dX11_moved_47 : decode cX11_moved 47 = .ok (.istore_n 2, 1) := by decide +kernel
theorem dX11_moved_48 : decode cX11_moved 48 = .ok (.iinc 3 1, 3) := by decide +kernel
theorem dX11_moved_51 : decode cX11_moved 51 = .ok (.goto (-45), 3) := by decide +kernel
theorem dX11_moved_54 : decode cX11_moved 54 = .ok (.aload_n 0, 1) := by decide +kernel
theorem dX11_moved_55 : decode cX11_moved 55 = .ok (.iconst (-1), 1) := by decide +kernel
theorem dX11_moved_56 : decode cX11_moved 56 = .ok (.putfield 102, 3) := by decide +kernel
theorem dX11_moved_59 : decode cX11_moved 59 = .ok (.iload_n 1, 1) := by decide +kernel
theorem dX11_moved_60 : decode cX11_moved 60 = .ok (.ireturn, 1) := by decide +kernel
theorem dX11_doors_0 : decode cX11_doors 0 = .ok (.iconst 0, 1) := by decide +kernel
theorem dX11_doors_1 : decode cX11_doors 1 = .ok (.istore_n 1, 1) := by decide +kernel
theorem dX11_doors_2 : decode cX11_doors 2 = .ok (.iconst 0, 1) := by decide +kernel
theorem dX11_doors_3 : decode cX11_doors 3 = .ok (.istore_n 2, 1) := by decide +kernel
theorem dX11_doors_4 : decode cX11_doors 4 = .ok (.iconst (-1), 1) := by decide +kernel
theorem dX11_doors_5 : decode cX11_doors 5 = .ok (.istore_n 3, 1) := by decide +kernel
theorem dX11_doors_6 : decode cX11_doors 6 = .ok (.iconst 0, 1) := by decide +kernel
theorem dX11_doors_7 : decode cX11_doors 7 = .ok (.istore 4, 2) := by decide +kernel
theorem dX11_doors_9 : decode cX11_doors 9 = .ok (.iload 4, 2) := by decide +kernel
theorem dX11_doors_11 : decode cX11_doors 11 = .ok (.aload_n 0, 1) := by decide +kernel
theorem dX11_doors_12 : decode cX11_doors 12 = .ok (.getfield 123, 3) := by decide +kernel
theorem dX11_doors_15 : decode cX11_doors 15 = .ok (.if_icmp .ge 48, 3) := by decide +kernel
theorem dX11_doors_18 : decode cX11_doors 18 = .ok (.iload_n 1, 1) := by decide +kernel
theorem dX11_doors_19 : decode cX11_doors 19 = .ok (.bipush 8, 2) := by decide +kernel
theorem dX11_doors_21 : decode cX11_doors 21 = .ok (.if_icmp .ge 36, 3) := by decide +kernel
theorem dX11_doors_24 : decode cX11_doors 24 = .ok (.aload_n 0, 1) := by decide +kernel
theorem dX11_doors_25 : decode cX11_doors 25 = .ok (.getfield 29, 3) := by decide +kernel
theorem dX11_doors_28 : decode cX11_doors 28 = .ok (.iload 4, 2) := by decide +kernel
theorem dX11_doors_30 : decode cX11_doors 30 = .ok (.iaload, 1) := by decide +kernel
theorem dX11_doors_31 : decode cX11_doors 31 = .ok (.iconst 2, 1) := by decide +kernel
theorem dX11_doors_32 : decode cX11_doors 32 = .ok (.if_icmp .eq 14, 3) := by decide +kernel
theorem dX11_doors_35 : decode cX11_doors 35 = .ok (.aload_n 0, 1) := by decide +kernel
theorem dX11_doors_36 : decode cX11_doors 36 = .ok (.getfield 29, 3) := by decide +kernel
theorem dX11_doors_39 : decode cX11_doors 39 = .ok (.iload 4, 2) := by decide +kernel
theorem dX11_doors_41 : decode cX11_doors 41 = .ok (.iaload, 1) := by decide +kernel
theorem dX11_doors_42 : decode cX11_doors 42 = .ok (.iconst 5, 1) := by decide +kernel
theorem dX11_doors_43 : decode cX11_doors 43 = .ok (.if_icmp .ne 14, 3) := by decide +kernel
theorem dX11_doors_46 : decode cX11_doors 46 = .ok (.aload_n 0, 1) := by decide +kernel
theorem dX11_doors_47 : decode cX11_doors 47 = .ok (.getfield 108, 3) := by decide +kernel
theorem dX11_doors_50 : decode cX11_doors 50 = .ok (.iload_n 1, 1) := by decide +kernel
theorem dX11_doors_51 : decode cX11_doors 51 = .ok (.iinc 1 1, 3) := by decide +kernel
theorem dX11_doors_54 : decode cX11_doors 54 = .ok (.iload 4, 2) := by decide +kernel
theorem dX11_doors_56 : decode cX11_doors 56 = .ok (.iastore, 1) := by decide +kernel
theorem dX11_doors_57 : decode cX11_doors 57 = .ok (.iinc 4 1, 3) := by decide +kernel
theorem dX11_doors_60 : decode cX11_doors 60 = .ok (.goto (-51), 3) := by decide +kernel
theorem dX11_doors_63 : decode cX11_doors 63 = .ok (.iconst 0, 1) := by decide +kernel
theorem dX11_doors_64 : decode cX11_doors 64 = .ok (.istore 4, 2) := by decide +kernel
theorem dX11_doors_66 : decode cX11_doors 66 = .ok (.iload 4, 2) := by decide +kernel
theorem dX11_doors_68 : decode cX11_doors 68 = .ok (.iload_n 1, 1) := by decide +kernel
theorem dX11_doors_69 : decode cX11_doors 69 = .ok (.if_icmp .ge 28, 3) := by decide +kernel
theorem dX11_doors_72 : decode cX11_doors 72 = .ok (.aload_n 0, 1) := by decide +kernel
theorem dX11_doors_73 : decode cX11_doors 73 = .ok (.getfield 111, 3) := by decide +kernel
theorem dX11_doors_76 : decode cX11_doors 76 = .ok (.iload 4, 2) := by decide +kernel
theorem dX11_doors_78 : decode cX11_doors 78 = .ok (.aload_n 0, 1) := by decide +kernel
theorem dX11_doors_79 : decode cX11_doors 79 = .ok (.getfield 38, 3) := by decide +kernel
theorem dX11_doors_82 : decode cX11_doors 82 = .ok (.aload_n 0, 1) := by decide +kernel
theorem dX11_doors_83 : decode cX11_doors 83 = .ok (.getfield 108, 3) := by decide +kernel
theorem dX11_doors_86 : decode cX11_doors 86 = .ok (.iload 4, 2) := by decide +kernel
theorem dX11_doors_88 : decode cX11_doors 88 = .ok (.iaload, 1) := by decide +kernel
theorem dX11_doors_89 : decode cX11_doors 89 = .ok (.iaload, 1) := by decide +kernel
theorem dX11_doors_90 : decode cX11_doors 90 = .ok (.iastore, 1) := by decide +kernel
theorem dX11_doors_91 : decode cX11_doors 91 = .ok (.iinc 4 1, 3) := by decide +kernel
theorem dX11_doors_94 : decode cX11_doors 94 = .ok (.goto (-28), 3) := by decide +kernel
theorem dX11_doors_97 : decode cX11_doors 97 = .ok (.iconst 0, 1) := by decide +kernel
theorem dX11_doors_98 : decode cX11_doors 98 = .ok (.istore 4, 2) := by decide +kernel
theorem dX11_doors_100 : decode cX11_doors 100 = .ok (.iload 4, 2) := by decide +kernel
theorem dX11_doors_102 : decode cX11_doors 102 = .ok (.iconst 1, 1) := by decide +kernel
theorem dX11_doors_103 : decode cX11_doors 103 = .ok (.iload_n 1, 1) := by decide +kernel
theorem dX11_doors_104 : decode cX11_doors 104 = .ok (.ishl, 1) := by decide +kernel
theorem dX11_doors_105 : decode cX11_doors 105 = .ok (.if_icmp .ge 68, 3) := by decide +kernel
theorem dX11_doors_108 : decode cX11_doors 108 = .ok (.iconst 0, 1) := by decide +kernel
theorem dX11_doors_109 : decode cX11_doors 109 = .ok (.istore 5, 2) := by decide +kernel
theorem dX11_doors_111 : decode cX11_doors 111 = .ok (.iload 5, 2) := by decide +kernel
theorem dX11_doors_113 : decode cX11_doors 113 = .ok (.iload_n 1, 1) := by decide +kernel
theorem dX11_doors_114 : decode cX11_doors 114 = .ok (.if_icmp .ge 28, 3) := by decide +kernel
theorem dX11_doors_117 : decode cX11_doors 117 = .ok (.aload_n 0, 1) := by decide +kernel
theorem dX11_doors_118 : decode cX11_doors 118 = .ok (.getfield 38, 3) := by decide +kernel
theorem dX11_doors_121 : decode cX11_doors 121 = .ok (.aload_n 0, 1) := by decide +kernel
theorem dX11_doors_122 : decode cX11_doors 122 = .ok (.getfield 108, 3) := by decide +kernel
theorem dX11_doors_125 : decode cX11_doors 125 = .ok (.iload 5, 2) := by decide +kernel
theorem dX11_doors_127 : decode cX11_doors 127 = .ok (.iaload, 1) := by decide +kernel
theorem dX11_doors_128 : decode cX11_doors 128 = .ok (.iload 4, 2) := by decide +kernel
theorem dX11_doors_130 : decode cX11_doors 130 = .ok (.iload 5, 2) := by decide +kernel
theorem dX11_doors_132 : decode cX11_doors 132 = .ok (.ishr, 1) := by decide +kernel
theorem dX11_doors_133 : decode cX11_doors 133 = .ok (.iconst 1, 1) := by decide +kernel
theorem dX11_doors_134 : decode cX11_doors 134 = .ok (.iand, 1) := by decide +kernel
theorem dX11_doors_135 : decode cX11_doors 135 = .ok (.iastore, 1) := by decide +kernel
theorem dX11_doors_136 : decode cX11_doors 136 = .ok (.iinc 5 1, 3) := by decide +kernel
theorem dX11_doors_139 : decode cX11_doors 139 = .ok (.goto (-28), 3) := by decide +kernel
theorem dX11_doors_142 : decode cX11_doors 142 = .ok (.aload_n 0, 1) := by decide +kernel
theorem dX11_doors_143 : decode cX11_doors 143 = .ok (.invokevirtual 181, 3) := by decide +kernel
theorem dX11_doors_146 : decode cX11_doors 146 = .ok (.aload_n 0, 1) := by decide +kernel
theorem dX11_doors_147 : decode cX11_doors 147 = .ok (.invokevirtual 263, 3) := by decide +kernel
theorem dX11_doors_150 : decode cX11_doors 150 = .ok (.istore 5, 2) := by decide +kernel
theorem dX11_doors_152 : decode cX11_doors 152 = .ok (.iload 5, 2) := by decide +kernel
theorem dX11_doors_154 : decode cX11_doors 154 = .ok (.iload_n 3, 1) := by decide +kernel
theorem dX11_doors_155 : decode cX11_doors 155 = .ok (.if_icmp .gt 6, 3) := by decide +kernel
theorem dX11_doors_158 : decode cX11_doors 158 = .ok (.goto 9, 3) := by decide +kernel
theorem dX11_doors_161 : decode cX11_doors 161 = .ok (.iload 4, 2) := by decide +kernel
theorem dX11_doors_163 : decode cX11_doors 163 = .ok (.istore_n 2, 1) := by decide +kernel
theorem dX11_doors_164 : decode cX11_doors 164 = .ok (.iload 5, 2) := by decide +kernel
theorem dX11_doors_166 : decode cX11_doors 166 = .ok (.istore_n 3, 1) := by decide +kernel
theorem dX11_doors_167 : decode cX11_doors 167 = .ok (.iinc 4 1, 3) := by decide +kernel
theorem dX11_doors_170 : decode cX11_doors 170 = .ok (.goto (-70), 3) := by decide +kernel
theorem dX11_doors_173 : decode cX11_doors 173 = .ok (.iconst 0, 1) := by decide +kernel
theorem dX11_doors_174 : decode cX11_doors 174 = .ok (.istore 4, 2) := by decide +kernel
theorem dX11_doors_176 : decode cX11_doors 176 = .ok (.iload 4, 2) := by decide +kernel
theorem dX11_doors_178 : decode cX11_doors 178 = .ok (.iload_n 1, 1) := by decide +kernel
theorem dX11_doors_179 : decode cX11_doors 179 = .ok (.if_icmp .ge 28, 3) := by decide +kernel
theorem dX11_doors_182 : decode cX11_doors 182 = .ok (.aload_n 0, 1) := by decide +kernel
theorem dX11_doors_183 : decode cX11_doors 183 = .ok (.getfield 38, 3) := by decide +kernel
theorem dX11_doors_186 : decode cX11_doors 186 = .ok (.aload_n 0, 1) := by decide +kernel
theorem dX11_doors_187 : decode cX11_doors 187 = .ok (.getfield 108, 3) := by decide +kernel
theorem dX11_doors_190 : decode cX11_doors 190 = .ok (.iload 4, 2) := by decide +kernel
theorem dX11_doors_192 : decode cX11_doors 192 = .ok (.iaload, 1) := by decide +kernel
theorem dX11_doors_193 : decode cX11_doors 193 = .ok (.aload_n 0, 1) := by decide +kernel
theorem dX11_doors_194 : decode cX11_doors 194 = .ok (.getfield 111, 3) := by decide +kernel
theorem dX11_doors_197 : decode cX11_doors 197 = .ok (.iload 4, 2) := by decide +kernel
theorem dX11_doors_199 : decode cX11_doors 199 = .ok (.iaload, 1) := by decide +kernel
theorem dX11_doors_200 : decode cX11_doors 200 = .ok (.iastore, 1) := by decide +kernel
theorem dX11_doors_201 : decode cX11_doors 201 = .ok (.iinc 4 1, 3) := by decide +kernel
theorem dX11_doors_204 : decode cX11_doors 204 = .ok (.goto (-28), 3) := by decide +kernel
theorem dX11_doors_207 : decode cX11_doors 207 = .ok (.iload_n 2, 1) := by decide +kernel
theorem dX11_doors_208 : decode cX11_doors 208 = .ok (.ireturn, 1) := by decide +kernel
theorem dX11_better_0 : decode cX11_better 0 = .ok (.aload_n 0, 1) := by decide +kernel
theorem dX11_better_1 : decode cX11_better 1 = .ok (.iconst 0, 1) := by decide +kernel
theorem dX11_better_2 : decode cX11_better 2 = .ok (.iload_n 1, 1) := by decide +kernel
theorem dX11_better_3 : decode cX11_better 3 = .ok (.invokevirtual 257, 3) := by decide +kernel
theorem dX11_better_6 : decode cX11_better 6 = .ok (.istore_n 2, 1) := by decide +kernel
theorem dX11_better_7 : decode cX11_better 7 = .ok (.aload_n 0, 1) := by decide +kernel
theorem dX11_better_8 : decode cX11_better 8 = .ok (.iconst 1, 1) := by decide +kernel
theorem dX11_better_9 : decode cX11_better 9 = .ok (.iload_n 1, 1) := by decide +kernel
theorem dX11_better_10 : decode cX11_better 10 = .ok (.invokevirtual 257, 3) := by decide +kernel
theorem dX11_better_13 : decode cX11_better 13 = .ok (.istore_n 3, 1) := by decide +kernel
theorem dX11_better_14 : decode cX11_better 14 = .ok (.iload_n 2, 1) := by decide +kernel
theorem dX11_better_15 : decode cX11_better 15 = .ok (.iload_n 3, 1) := by decide +kernel
theorem dX11_better_16 : decode cX11_better 16 = .ok (.if_icmp .le 7, 3) := by decide +kernel
theorem dX11_better_19 : decode cX11_better 19 = .ok (.iload_n 2, 1) := by decide +kernel
theorem dX11_better_20 : decode cX11_better 20 = .ok (.goto 4, 3) := by decide +kernel
theorem dX11_better_23 : decode cX11_better 23 = .ok (.iload_n 3, 1) := by decide +kernel
theorem dX11_better_24 : decode cX11_better 24 = .ok (.ireturn, 1) := by decide +kernel
theorem dX11_count_0 : decode cX11_count 0 = .ok (.aload_n 0, 1) := by decide +kernel
theorem dX11_count_1 : decode cX11_count 1 = .ok (.iload_n 1, 1) := by decide +kernel
theorem dX11_count_2 : decode cX11_count 2 = .ok (.iconst 0, 1) := by decide +kernel
theorem dX11_count_3 : decode cX11_count 3 = .ok (.iconst 5, 1) := by decide +kernel
theorem dX11_count_4 : decode cX11_count 4 = .ok (.invokevirtual 150, 3) := by decide +kernel
theorem dX11_count_7 : decode cX11_count 7 = .ok (.ifCond .ne 10, 3) := by decide +kernel
theorem dX11_count_10 : decode cX11_count 10 = .ok (.aload_n 0, 1) := by decide +kernel
theorem dX11_count_11 : decode cX11_count 11 = .ok (.bipush (-6), 2) := by decide +kernel
theorem dX11_count_13 : decode cX11_count 13 = .ok (.invokevirtual 130, 3) := by decide +kernel
theorem dX11_count_16 : decode cX11_count 16 = .ok (.ireturn, 1) := by decide +kernel
theorem dX11_count_17 : decode cX11_count 17 = .ok (.aload_n 0, 1) := by decide +kernel
theorem dX11_count_18 : decode cX11_count 18 = .ok (.invokevirtual 181, 3) := by decide +kernel
theorem dX11_count_21 : decode cX11_count 21 = .ok (.iconst 0, 1) := by decide +kernel
theorem dX11_count_22 : decode cX11_count 22 = .ok (.istore_n 2, 1) := by decide +kernel
theorem dX11_count_23 : decode cX11_count 23 = .ok (.iconst 0, 1) := by decide +kernel
theorem dX11_count_24 : decode cX11_count 24 = .ok (.istore_n 3, 1) := by decide +kernel
theorem dX11_count_25 : decode cX11_count 25 = .ok (.iload_n 3, 1) := by decide +kernel
theorem dX11_count_26 : decode cX11_count 26 = .ok (.aload_n 0, 1) := by decide +kernel
theorem dX11_count_27 : decode cX11_count 27 = .ok (.getfield 7, 3) := by decide +kernel
theorem dX11_count_30 : decode cX11_count 30 = .ok (.if_icmp .ge 45, 3) := by decide +kernel
theorem dX11_count_33 : decode cX11_count 33 = .ok (.iconst 0, 1) := by decide +kernel
theorem dX11_count_34 : decode cX11_count 34 = .ok (.istore 4, 2) := by decide +kernel
theorem dX11_count_36 : decode cX11_count 36 = .ok (.iload 4, 2) := by decide +kernel
theorem dX11_count_38 : decode cX11_count 38 = .ok (.aload_n 0, 1) := by decide +kernel
theorem dX11_count_39 : decode cX11_count 39 = .ok (.getfield 7, 3) := by decide +kernel
theorem dX11_count_42 : decode cX11_count 42 = .ok (.if_icmp .ge 27, 3) := by decide +kernel
theorem dX11_count_45 : decode cX11_count 45 = .ok (.aload_n 0, 1) := by decide +kernel
theorem dX11_count_46 : decode cX11_count 46 = .ok (.bipush 10, 2) := by decide +kernel
theorem dX11_count_48 : decode cX11_count 48 = .ok (.iload_n 3, 1) := by decide +kernel
theorem dX11_count_49 : decode cX11_count 49 = .ok (.imul, 1) := by decide +kernel
theorem dX11_count_50 : decode cX11_count 50 = .ok (.iload 4, 2) := by decide +kernel
theorem dX11_count_52 : decode cX11_count 52 = .ok (.iadd, 1) := by decide +kernel
theorem dX11_count_53 : decode cX11_count 53 = .ok (.invokevirtual 284, 3) := by decide +kernel
theorem dX11_count_56 : decode cX11_count 56 = .ok (.iload_n 1, 1) := by decide +kernel
theorem dX11_count_57 : decode cX11_count 57 = .ok (.if_icmp .lt 6, 3) := by decide +kernel
theorem dX11_count_60 : decode cX11_count 60 = .ok (.iinc 2 1, 3) := by decide +kernel
