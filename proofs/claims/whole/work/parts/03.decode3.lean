theorem dX11_count_63 : decode cX11_count 63 = .ok (.iinc 4 1, 3) := by decide +kernel
theorem dX11_count_66 : decode cX11_count 66 = .ok (.goto (-30), 3) := by decide +kernel
theorem dX11_count_69 : decode cX11_count 69 = .ok (.iinc 3 1, 3) := by decide +kernel
theorem dX11_count_72 : decode cX11_count 72 = .ok (.goto (-47), 3) := by decide +kernel
theorem dX11_count_75 : decode cX11_count 75 = .ok (.iload_n 2, 1) := by decide +kernel
theorem dX11_count_76 : decode cX11_count 76 = .ok (.ireturn, 1) := by decide +kernel
theorem dX11_barsOfFits_0 : decode cX11_barsOfFits 0 = .ok (.aload_n 0, 1) := by decide +kernel
theorem dX11_barsOfFits_1 : decode cX11_barsOfFits 1 = .ok (.iload_n 1, 1) := by decide +kernel
theorem dX11_barsOfFits_2 : decode cX11_barsOfFits 2 = .ok (.invokevirtual 229, 3) := by decide +kernel
theorem dX11_barsOfFits_5 : decode cX11_barsOfFits 5 = .ok (.istore_n 3, 1) := by decide +kernel
theorem dX11_barsOfFits_6 : decode cX11_barsOfFits 6 = .ok (.iload_n 3, 1) := by decide +kernel
theorem dX11_barsOfFits_7 : decode cX11_barsOfFits 7 = .ok (.ifCond .ne 42, 3) := by decide +kernel
theorem dX11_barsOfFits_10 : decode cX11_barsOfFits 10 = .ok (.iload_n 2, 1) := by decide +kernel
theorem dX11_barsOfFits_11 : decode cX11_barsOfFits 11 = .ok (.ifCond .ge 8, 3) := by decide +kernel
theorem dX11_barsOfFits_14 : decode cX11_barsOfFits 14 = .ok (.bipush (-4), 2) := by decide +kernel
theorem dX11_barsOfFits_16 : decode cX11_barsOfFits 16 = .ok (.goto 32, 3) := by decide +kernel
theorem dX11_barsOfFits_19 : decode cX11_barsOfFits 19 = .ok (.iload_n 2, 1) := by decide +kernel
theorem dX11_barsOfFits_20 : decode cX11_barsOfFits 20 = .ok (.aload_n 0, 1) := by decide +kernel
theorem dX11_barsOfFits_21 : decode cX11_barsOfFits 21 = .ok (.getfield 68, 3) := by decide +kernel
theorem dX11_barsOfFits_24 : decode cX11_barsOfFits 24 = .ok (.iload_n 1, 1) := by decide +kernel
theorem dX11_barsOfFits_25 : decode cX11_barsOfFits 25 = .ok (.iaload, 1) := by decide +kernel
theorem dX11_barsOfFits_26 : decode cX11_barsOfFits 26 = .ok (.iconst 2, 1) := by decide +kernel
theorem dX11_barsOfFits_27 : decode cX11_barsOfFits 27 = .ok (.idiv, 1) := by decide +kernel
theorem dX11_barsOfFits_28 : decode cX11_barsOfFits 28 = .ok (.if_icmp .le 8, 3) := by decide +kernel
theorem dX11_barsOfFits_31 : decode cX11_barsOfFits 31 = .ok (.bipush (-5), 2) := by decide +kernel
theorem dX11_barsOfFits_33 : decode cX11_barsOfFits 33 = .ok (.goto 15, 3) := by decide +kernel
theorem dX11_barsOfFits_36 : decode cX11_barsOfFits 36 = .ok (.iload_n 2, 1) := by decide +kernel
theorem dX11_barsOfFits_37 : decode cX11_barsOfFits 37 = .ok (.bipush 40, 2) := by decide +kernel
theorem dX11_barsOfFits_39 : decode cX11_barsOfFits 39 = .ok (.if_icmp .le 8, 3) := by decide +kernel
theorem dX11_barsOfFits_42 : decode cX11_barsOfFits 42 = .ok (.bipush (-6), 2) := by decide +kernel
theorem dX11_barsOfFits_44 : decode cX11_barsOfFits 44 = .ok (.goto 4, 3) := by decide +kernel
theorem dX11_barsOfFits_47 : decode cX11_barsOfFits 47 = .ok (.iconst 0, 1) := by decide +kernel
theorem dX11_barsOfFits_48 : decode cX11_barsOfFits 48 = .ok (.istore_n 3, 1) := by decide +kernel
theorem dX11_barsOfFits_49 : decode cX11_barsOfFits 49 = .ok (.iconst 0, 1) := by decide +kernel
theorem dX11_barsOfFits_50 : decode cX11_barsOfFits 50 = .ok (.istore 4, 2) := by decide +kernel
theorem dX11_barsOfFits_52 : decode cX11_barsOfFits 52 = .ok (.iload 4, 2) := by decide +kernel
theorem dX11_barsOfFits_54 : decode cX11_barsOfFits 54 = .ok (.iload_n 2, 1) := by decide +kernel
theorem dX11_barsOfFits_55 : decode cX11_barsOfFits 55 = .ok (.if_icmp .ge 52, 3) := by decide +kernel
theorem dX11_barsOfFits_58 : decode cX11_barsOfFits 58 = .ok (.iload_n 3, 1) := by decide +kernel
theorem dX11_barsOfFits_59 : decode cX11_barsOfFits 59 = .ok (.ifCond .ne 48, 3) := by decide +kernel
theorem dX11_barsOfFits_62 : decode cX11_barsOfFits 62 = .ok (.aload_n 0, 1) := by decide +kernel
theorem dX11_barsOfFits_63 : decode cX11_barsOfFits 63 = .ok (.aload_n 0, 1) := by decide +kernel
theorem dX11_barsOfFits_64 : decode cX11_barsOfFits 64 = .ok (.iload_n 1, 1) := by decide +kernel
theorem dX11_barsOfFits_65 : decode cX11_barsOfFits 65 = .ok (.iconst 2, 1) := by decide +kernel
theorem dX11_barsOfFits_66 : decode cX11_barsOfFits 66 = .ok (.iload 4, 2) := by decide +kernel
theorem dX11_barsOfFits_68 : decode cX11_barsOfFits 68 = .ok (.imul, 1) := by decide +kernel
theorem dX11_barsOfFits_69 : decode cX11_barsOfFits 69 = .ok (.invokevirtual 287, 3) := by decide +kernel
theorem dX11_barsOfFits_72 : decode cX11_barsOfFits 72 = .ok (.invokevirtual 154, 3) := by decide +kernel
theorem dX11_barsOfFits_75 : decode cX11_barsOfFits 75 = .ok (.ifCond .eq 23, 3) := by decide +kernel
theorem dX11_barsOfFits_78 : decode cX11_barsOfFits 78 = .ok (.aload_n 0, 1) := by decide +kernel
theorem dX11_barsOfFits_79 : decode cX11_barsOfFits 79 = .ok (.aload_n 0, 1) := by decide +kernel
theorem dX11_barsOfFits_80 : decode cX11_barsOfFits 80 = .ok (.iload_n 1, 1) := by decide +kernel
theorem dX11_barsOfFits_81 : decode cX11_barsOfFits 81 = .ok (.iconst 2, 1) := by decide +kernel
theorem dX11_barsOfFits_82 : decode cX11_barsOfFits 82 = .ok (.iload 4, 2) := by decide +kernel
theorem dX11_barsOfFits_84 : decode cX11_barsOfFits 84 = .ok (.imul, 1) := by decide +kernel
theorem dX11_barsOfFits_85 : decode cX11_barsOfFits 85 = .ok (.iconst 1, 1) := by decide +kernel
theorem dX11_barsOfFits_86 : decode cX11_barsOfFits 86 = .ok (.iadd, 1) := by decide +kernel
theorem dX11_barsOfFits_87 : decode cX11_barsOfFits 87 = .ok (.invokevirtual 287, 3) := by decide +kernel
theorem dX11_barsOfFits_90 : decode cX11_barsOfFits 90 = .ok (.iconst 0, 1) := by decide +kernel
theorem dX11_barsOfFits_91 : decode cX11_barsOfFits 91 = .ok (.iconst 5, 1) := by decide +kernel
theorem dX11_barsOfFits_92 : decode cX11_barsOfFits 92 = .ok (.invokevirtual 150, 3) := by decide +kernel
theorem dX11_barsOfFits_95 : decode cX11_barsOfFits 95 = .ok (.ifCond .ne 6, 3) := by decide +kernel
theorem dX11_barsOfFits_98 : decode cX11_barsOfFits 98 = .ok (.bipush (-6), 2) := by decide +kernel
theorem dX11_barsOfFits_100 : decode cX11_barsOfFits 100 = .ok (.istore_n 3, 1) := by decide +kernel
theorem dX11_barsOfFits_101 : decode cX11_barsOfFits 101 = .ok (.iinc 4 1, 3) := by decide +kernel
theorem dX11_barsOfFits_104 : decode cX11_barsOfFits 104 = .ok (.goto (-52), 3) := by decide +kernel
theorem dX11_barsOfFits_107 : decode cX11_barsOfFits 107 = .ok (.iload_n 3, 1) := by decide +kernel
theorem dX11_barsOfFits_108 : decode cX11_barsOfFits 108 = .ok (.ireturn, 1) := by decide +kernel
theorem dX11_findsFits_0 : decode cX11_findsFits 0 = .ok (.aload_n 0, 1) := by decide +kernel
theorem dX11_findsFits_1 : decode cX11_findsFits 1 = .ok (.getfield 59, 3) := by decide +kernel
theorem dX11_findsFits_4 : decode cX11_findsFits 4 = .ok (.iconst 0, 1) := by decide +kernel
theorem dX11_findsFits_5 : decode cX11_findsFits 5 = .ok (.iaload, 1) := by decide +kernel
theorem dX11_findsFits_6 : decode cX11_findsFits 6 = .ok (.istore_n 3, 1) := by decide +kernel
theorem dX11_findsFits_7 : decode cX11_findsFits 7 = .ok (.aload_n 0, 1) := by decide +kernel
theorem dX11_findsFits_8 : decode cX11_findsFits 8 = .ok (.invokevirtual 181, 3) := by decide +kernel
theorem dX11_findsFits_11 : decode cX11_findsFits 11 = .ok (.aload_n 0, 1) := by decide +kernel
theorem dX11_findsFits_12 : decode cX11_findsFits 12 = .ok (.iconst 0, 1) := by decide +kernel
theorem dX11_findsFits_13 : decode cX11_findsFits 13 = .ok (.putfield 290, 3) := by decide +kernel
theorem dX11_findsFits_16 : decode cX11_findsFits 16 = .ok (.iconst 0, 1) := by decide +kernel
theorem dX11_findsFits_17 : decode cX11_findsFits 17 = .ok (.istore 4, 2) := by decide +kernel
theorem dX11_findsFits_19 : decode cX11_findsFits 19 = .ok (.iload 4, 2) := by decide +kernel
theorem dX11_findsFits_21 : decode cX11_findsFits 21 = .ok (.aload_n 0, 1) := by decide +kernel
theorem dX11_findsFits_22 : decode cX11_findsFits 22 = .ok (.getfield 7, 3) := by decide +kernel
theorem dX11_findsFits_25 : decode cX11_findsFits 25 = .ok (.if_icmp .ge 126, 3) := by decide +kernel
theorem dX11_findsFits_28 : decode cX11_findsFits 28 = .ok (.iconst 0, 1) := by decide +kernel
theorem dX11_findsFits_29 : decode cX11_findsFits 29 = .ok (.istore 5, 2) := by decide +kernel
theorem dX11_findsFits_31 : decode cX11_findsFits 31 = .ok (.iload 5, 2) := by decide +kernel
theorem dX11_findsFits_33 : decode cX11_findsFits 33 = .ok (.aload_n 0, 1) := by decide +kernel
theorem dX11_findsFits_34 : decode cX11_findsFits 34 = .ok (.getfield 7, 3) := by decide +kernel
theorem dX11_findsFits_37 : decode cX11_findsFits 37 = .ok (.if_icmp .ge 108, 3) := by decide +kernel
theorem dX11_findsFits_40 : decode cX11_findsFits 40 = .ok (.aload_n 0, 1) := by decide +kernel
theorem dX11_findsFits_41 : decode cX11_findsFits 41 = .ok (.getfield 59, 3) := by decide +kernel
theorem dX11_findsFits_44 : decode cX11_findsFits 44 = .ok (.iconst 0, 1) := by decide +kernel
theorem dX11_findsFits_45 : decode cX11_findsFits 45 = .ok (.bipush 10, 2) := by decide +kernel
theorem dX11_findsFits_47 : decode cX11_findsFits 47 = .ok (.iload 4, 2) := by decide +kernel
theorem dX11_findsFits_49 : decode cX11_findsFits 49 = .ok (.imul, 1) := by decide +kernel
theorem dX11_findsFits_50 : decode cX11_findsFits 50 = .ok (.iload 5, 2) := by decide +kernel
theorem dX11_findsFits_52 : decode cX11_findsFits 52 = .ok (.iadd, 1) := by decide +kernel
theorem dX11_findsFits_53 : decode cX11_findsFits 53 = .ok (.iastore, 1) := by decide +kernel
theorem dX11_findsFits_54 : decode cX11_findsFits 54 = .ok (.iconst 1, 1) := by decide +kernel
theorem dX11_findsFits_55 : decode cX11_findsFits 55 = .ok (.istore 6, 2) := by decide +kernel
theorem dX11_findsFits_57 : decode cX11_findsFits 57 = .ok (.iconst 0, 1) := by decide +kernel
theorem dX11_findsFits_58 : decode cX11_findsFits 58 = .ok (.istore 7, 2) := by decide +kernel
theorem dX11_findsFits_60 : decode cX11_findsFits 60 = .ok (.iload 7, 2) := by decide +kernel
theorem dX11_findsFits_62 : decode cX11_findsFits 62 = .ok (.iload_n 2, 1) := by decide +kernel
theorem dX11_findsFits_63 : decode cX11_findsFits 63 = .ok (.if_icmp .ge 49, 3) := by decide +kernel
theorem dX11_findsFits_66 : decode cX11_findsFits 66 = .ok (.iload 6, 2) := by decide +kernel
theorem dX11_findsFits_68 : decode cX11_findsFits 68 = .ok (.ifCond .eq 44, 3) := by decide +kernel
theorem dX11_findsFits_71 : decode cX11_findsFits 71 = .ok (.aload_n 0, 1) := by decide +kernel
theorem dX11_findsFits_72 : decode cX11_findsFits 72 = .ok (.iconst 0, 1) := by decide +kernel
theorem dX11_findsFits_73 : decode cX11_findsFits 73 = .ok (.aload_n 0, 1) := by decide +kernel
theorem dX11_findsFits_74 : decode cX11_findsFits 74 = .ok (.iload_n 1, 1) := by decide +kernel
theorem dX11_findsFits_75 : decode cX11_findsFits 75 = .ok (.iconst 2, 1) := by decide +kernel
theorem dX11_findsFits_76 : decode cX11_findsFits 76 = .ok (.iload 7, 2) := by decide +kernel
theorem dX11_findsFits_78 : decode cX11_findsFits 78 = .ok (.imul, 1) := by decide +kernel
theorem dX11_findsFits_79 : decode cX11_findsFits 79 = .ok (.invokevirtual 287, 3) := by decide +kernel
theorem dX11_findsFits_82 : decode cX11_findsFits 82 = .ok (.invokevirtual 257, 3) := by decide +kernel
theorem dX11_findsFits_85 : decode cX11_findsFits 85 = .ok (.aload_n 0, 1) := by decide +kernel
theorem dX11_findsFits_86 : decode cX11_findsFits 86 = .ok (.iload_n 1, 1) := by decide +kernel
theorem dX11_findsFits_87 : decode cX11_findsFits 87 = .ok (.iconst 2, 1) := by decide +kernel
theorem dX11_findsFits_88 : decode cX11_findsFits 88 = .ok (.iload 7, 2) := by decide +kernel
theorem dX11_findsFits_90 : decode cX11_findsFits 90 = .ok (.imul, 1) := by decide +kernel
theorem dX11_findsFits_91 : decode cX11_findsFits 91 = .ok (.iconst 1, 1) := by decide +kernel
theorem dX11_findsFits_92 : decode cX11_findsFits 92 = .ok (.iadd, 1) := by decide +kernel
theorem dX11_findsFits_93 : decode cX11_findsFits 93 = .ok (.invokevirtual 287, 3) := by decide +kernel
theorem dX11_findsFits_96 : decode cX11_findsFits 96 = .ok (.if_icmp .ne 7, 3) := by decide +kernel
theorem dX11_findsFits_99 : decode cX11_findsFits 99 = .ok (.iconst 1, 1) := by decide +kernel
theorem dX11_findsFits_100 : decode cX11_findsFits 100 = .ok (.goto 4, 3) := by decide +kernel
theorem dX11_findsFits_103 : decode cX11_findsFits 103 = .ok (.iconst 0, 1) := by decide +kernel
theorem dX11_findsFits_104 : decode cX11_findsFits 104 = .ok (.istore 6, 2) := by decide +kernel
theorem dX11_findsFits_106 : decode cX11_findsFits 106 = .ok (.iinc 7 1, 3) := by decide +kernel
theorem dX11_findsFits_109 : decode cX11_findsFits 109 = .ok (.goto (-49), 3) := by decide +kernel
theorem dX11_findsFits_112 : decode cX11_findsFits 112 = .ok (.iload 6, 2) := by decide +kernel
theorem dX11_findsFits_114 : decode cX11_findsFits 114 = .ok (.ifCond .eq 25, 3) := by decide +kernel
theorem dX11_findsFits_117 : decode cX11_findsFits 117 = .ok (.aload_n 0, 1) := by decide +kernel
theorem dX11_findsFits_118 : decode cX11_findsFits 118 = .ok (.getfield 114, 3) := by decide +kernel
theorem dX11_findsFits_121 : decode cX11_findsFits 121 = .ok (.aload_n 0, 1) := by decide +kernel
theorem dX11_findsFits_122 : decode cX11_findsFits 122 = .ok (.dup, 1) := by decide +kernel
theorem dX11_findsFits_123 : decode cX11_findsFits 123 = .ok (.getfield 290, 3) := by decide +kernel
theorem dX11_findsFits_126 : decode cX11_findsFits 126 = .ok (.dup_x1, 1) := by decide +kernel
theorem dX11_findsFits_127 : decode cX11_findsFits 127 = .ok (.iconst 1, 1) := by decide +kernel
theorem dX11_findsFits_128 : decode cX11_findsFits 128 = .ok (.iadd, 1) := by decide +kernel
theorem dX11_findsFits_129 : decode cX11_findsFits 129 = .ok (.putfield 290, 3) := by decide +kernel
theorem dX11_findsFits_132 : decode cX11_findsFits 132 = .ok (.aload_n 0, 1) := by decide +kernel
theorem dX11_findsFits_133 : decode cX11_findsFits 133 = .ok (.getfield 59, 3) := by decide +kernel
theorem dX11_findsFits_136 : decode cX11_findsFits 136 = .ok (.iconst 0, 1) := by decide +kernel
theorem dX11_findsFits_137 : decode cX11_findsFits 137 = .ok (.iaload, 1) := by decide +kernel
theorem dX11_findsFits_138 : decode cX11_findsFits 138 = .ok (.iastore, 1) := by decide +kernel
theorem dX11_findsFits_139 : decode cX11_findsFits 139 = .ok (.iinc 5 1, 3) := by decide +kernel
theorem dX11_findsFits_142 : decode cX11_findsFits 142 = .ok (.goto (-111), 3) := by decide +kernel
theorem dX11_findsFits_145 : decode cX11_findsFits 145 = .ok (.iinc 4 1, 3) := by decide +kernel
theorem dX11_findsFits_148 : decode cX11_findsFits 148 = .ok (.goto (-129), 3) := by decide +kernel
theorem dX11_findsFits_151 : decode cX11_findsFits 151 = .ok (.aload_n 0, 1) := by decide +kernel
theorem dX11_findsFits_152 : decode cX11_findsFits 152 = .ok (.getfield 59, 3) := by decide +kernel
theorem dX11_findsFits_155 : decode cX11_findsFits 155 = .ok (.iconst 0, 1) := by decide +kernel
theorem dX11_findsFits_156 : decode cX11_findsFits 156 = .ok (.iload_n 3, 1) := by decide +kernel
theorem dX11_findsFits_157 : decode cX11_findsFits 157 = .ok (.iastore, 1) := by decide +kernel
theorem dX11_findsFits_158 : decode cX11_findsFits 158 = .ok (.return_, 1) := by decide +kernel
theorem dX11_fits_0 : decode cX11_fits 0 = .ok (.aload_n 0, 1) := by decide +kernel
theorem dX11_fits_1 : decode cX11_fits 1 = .ok (.iload_n 1, 1) := by decide +kernel
theorem dX11_fits_2 : decode cX11_fits 2 = .ok (.iload_n 2, 1) := by decide +kernel
theorem dX11_fits_3 : decode cX11_fits 3 = .ok (.invokevirtual 293, 3) := by decide +kernel
theorem dX11_fits_6 : decode cX11_fits 6 = .ok (.istore 4, 2) := by decide +kernel
theorem dX11_fits_8 : decode cX11_fits 8 = .ok (.iload 4, 2) := by decide +kernel
theorem dX11_fits_10 : decode cX11_fits 10 = .ok (.ifCond .eq 10, 3) := by decide +kernel
theorem dX11_fits_13 : decode cX11_fits 13 = .ok (.aload_n 0, 1) := by decide +kernel
theorem dX11_fits_14 : decode cX11_fits 14 = .ok (.iload 4, 2) := by decide +kernel
theorem dX11_fits_16 : decode cX11_fits 16 = .ok (.invokevirtual 130, 3) := by decide +kernel
theorem dX11_fits_19 : decode cX11_fits 19 = .ok (.ireturn, 1) := by decide +kernel
theorem dX11_fits_20 : decode cX11_fits 20 = .ok (.aload_n 0, 1) := by decide +kernel
theorem dX11_fits_21 : decode cX11_fits 21 = .ok (.iload_n 1, 1) := by decide +kernel
theorem dX11_fits_22 : decode cX11_fits 22 = .ok (.iload_n 2, 1) := by decide +kernel
theorem dX11_fits_23 : decode cX11_fits 23 = .ok (.invokevirtual 296, 3) := by decide +kernel
theorem dX11_fits_26 : decode cX11_fits 26 = .ok (.iload_n 3, 1) := by decide +kernel
theorem dX11_fits_27 : decode cX11_fits 27 = .ok (.iconst (-1), 1) := by decide +kernel
theorem dX11_fits_28 : decode cX11_fits 28 = .ok (.if_icmp .ne 8, 3) := by decide +kernel
theorem dX11_fits_31 : decode cX11_fits 31 = .ok (.aload_n 0, 1) := by decide +kernel
theorem dX11_fits_32 : decode cX11_fits 32 = .ok (.getfield 290, 3) := by decide +kernel
theorem dX11_fits_35 : decode cX11_fits 35 = .ok (.ireturn, 1) := by decide +kernel
theorem dX11_fits_36 : decode cX11_fits 36 = .ok (.iload_n 3, 1) := by decide +kernel
theorem dX11_fits_37 : decode cX11_fits 37 = .ok (.ifCond .lt 11, 3) := by decide +kernel
theorem dX11_fits_40 : decode cX11_fits 40 = .ok (.iload_n 3, 1) := by decide +kernel
theorem dX11_fits_41 : decode cX11_fits 41 = .ok (.aload_n 0, 1) := by decide +kernel
theorem dX11_fits_42 : decode cX11_fits 42 = .ok (.getfield 290, 3) := by decide +kernel
theorem dX11_fits_45 : decode cX11_fits 45 = .ok (.if_icmp .lt 12, 3) := by decide +kernel
theorem dX11_fits_48 : decode cX11_fits 48 = .ok (.aload_n 0, 1) := by decide +kernel
theorem dX11_fits_49 : decode cX11_fits 49 = .ok (.bipush (-5), 2) := by decide +kernel
theorem dX11_fits_51 : decode cX11_fits 51 = .ok (.invokevirtual 130, 3) := by decide +kernel
theorem dX11_fits_54 : decode cX11_fits 54 = .ok (.goto 9, 3) := by decide +kernel
theorem dX11_fits_57 : decode cX11_fits 57 = .ok (.aload_n 0, 1) := by decide +kernel
theorem dX11_fits_58 : decode cX11_fits 58 = .ok (.getfield 114, 3) := by decide +kernel
theorem dX11_fits_61 : decode cX11_fits 61 = .ok (.iload_n 3, 1) := by decide +kernel
theorem dX11_fits_62 : decode cX11_fits 62 = .ok (.iaload, 1) := by decide +kernel
theorem dX11_fits_63 : decode cX11_fits 63 = .ok (.ireturn, 1) := by decide +kernel
theorem dX11_worstAt_0 : decode cX11_worstAt 0 = .ok (.iconst 0, 1) := by decide +kernel
theorem dX11_worstAt_1 : decode cX11_worstAt 1 = .ok (.istore_n 2, 1) := by decide +kernel
theorem dX11_worstAt_2 : decode cX11_worstAt 2 = .ok (.iconst 0, 1) := by decide +kernel
theorem dX11_worstAt_3 : decode cX11_worstAt 3 = .ok (.istore_n 3, 1) := by decide +kernel
theorem dX11_worstAt_4 : decode cX11_worstAt 4 = .ok (.iload_n 3, 1) := by decide +kernel
theorem dX11_worstAt_5 : decode cX11_worstAt 5 = .ok (.bipush 6, 2) := by decide +kernel
theorem dX11_worstAt_7 : decode cX11_worstAt 7 = .ok (.if_icmp .ge 16, 3) := by decide +kernel
theorem dX11_worstAt_10 : decode cX11_worstAt 10 = .ok (.aload_n 0, 1) := by decide +kernel
theorem dX11_worstAt_11 : decode cX11_worstAt 11 = .ok (.getfield 117, 3) := by decide +kernel
theorem dX11_worstAt_14 : decode cX11_worstAt 14 = .ok (.iload_n 3, 1) := by decide +kernel
theorem dX11_worstAt_15 : decode cX11_worstAt 15 = .ok (.iconst 0, 1) := by decide +kernel
theorem dX11_worstAt_16 : decode cX11_worstAt 16 = .ok (.iastore, 1) := by decide +kernel
theorem dX11_worstAt_17 : decode cX11_worstAt 17 = .ok (.iinc 3 1, 3) := by decide +kernel
theorem dX11_worstAt_20 : decode cX11_worstAt 20 = .ok (.goto (-16), 3) := by decide +kernel
theorem dX11_worstAt_23 : decode cX11_worstAt 23 = .ok (.iconst 0, 1) := by decide +kernel
theorem dX11_worstAt_24 : decode cX11_worstAt 24 = .ok (.istore_n 3, 1) := by decide +kernel
theorem dX11_worstAt_25 : decode cX11_worstAt 25 = .ok (.iload_n 3, 1) := by decide +kernel
theorem dX11_worstAt_26 : decode cX11_worstAt 26 = .ok (.aload_n 0, 1) := by decide +kernel
theorem dX11_worstAt_27 : decode cX11_worstAt 27 = .ok (.getfield 290, 3) := by decide +kernel
theorem dX11_worstAt_30 : decode cX11_worstAt 30 = .ok (.if_icmp .ge 63, 3) := by decide +kernel
theorem dX11_worstAt_33 : decode cX11_worstAt 33 = .ok (.aload_n 0, 1) := by decide +kernel
theorem dX11_worstAt_34 : decode cX11_worstAt 34 = .ok (.getfield 59, 3) := by decide +kernel
theorem dX11_worstAt_37 : decode cX11_worstAt 37 = .ok (.iconst 0, 1) := by decide +kernel
theorem dX11_worstAt_38 : decode cX11_worstAt 38 = .ok (.aload_n 0, 1) := by decide +kernel
theorem dX11_worstAt_39 : decode cX11_worstAt 39 = .ok (.getfield 114, 3) := by decide +kernel
theorem dX11_worstAt_42 : decode cX11_worstAt 42 = .ok (.iload_n 3, 1) := by decide +kernel
theorem dX11_worstAt_43 : decode cX11_worstAt 43 = .ok (.iaload, 1) := by decide +kernel
theorem dX11_worstAt_44 : decode cX11_worstAt 44 = .ok (.iastore, 1) := by decide +kernel
theorem dX11_worstAt_45 : decode cX11_worstAt 45 = .ok (.aload_n 0, 1) := by decide +kernel
theorem dX11_worstAt_46 : decode cX11_worstAt 46 = .ok (.iconst 0, 1) := by decide +kernel
theorem dX11_worstAt_47 : decode cX11_worstAt 47 = .ok (.iload_n 1, 1) := by decide +kernel
theorem dX11_worstAt_48 : decode cX11_worstAt 48 = .ok (.invokevirtual 257, 3) := by decide +kernel
theorem dX11_worstAt_51 : decode cX11_worstAt 51 = .ok (.istore 4, 2) := by decide +kernel
theorem dX11_worstAt_53 : decode cX11_worstAt 53 = .ok (.aload_n 0, 1) := by decide +kernel
theorem dX11_worstAt_54 : decode cX11_worstAt 54 = .ok (.getfield 117, 3) := by decide +kernel
theorem dX11_worstAt_57 : decode cX11_worstAt 57 = .ok (.iload 4, 2) := by decide +kernel
theorem dX11_worstAt_59 : decode cX11_worstAt 59 = .ok (.dup2, 1) := by decide +kernel
theorem dX11_worstAt_60 : decode cX11_worstAt 60 = .ok (.iaload, 1) := by decide +kernel
theorem dX11_worstAt_61 : decode cX11_worstAt 61 = .ok (.iconst 1, 1) := by decide +kernel
theorem dX11_worstAt_62 : decode cX11_worstAt 62 = .ok (.iadd, 1) := by decide +kernel
theorem dX11_worstAt_63 : decode cX11_worstAt 63 = .ok (.iastore, 1) := by decide +kernel
theorem dX11_worstAt_64 : decode cX11_worstAt 64 = .ok (.aload_n 0, 1) := by decide +kernel
theorem dX11_worstAt_65 : decode cX11_worstAt 65 = .ok (.getfield 117, 3) := by decide +kernel
theorem dX11_worstAt_68 : decode cX11_worstAt 68 = .ok (.iload 4, 2) := by decide +kernel
theorem dX11_worstAt_70 : decode cX11_worstAt 70 = .ok (.iaload, 1) := by decide +kernel
theorem dX11_worstAt_71 : decode cX11_worstAt 71 = .ok (.iload_n 2, 1) := by decide +kernel
theorem dX11_worstAt_72 : decode cX11_worstAt 72 = .ok (.if_icmp .le 13, 3) := by decide +kernel
theorem dX11_worstAt_75 : decode cX11_worstAt 75 = .ok (.aload_n 0, 1) := by decide +kernel
theorem dX11_worstAt_76 : decode cX11_worstAt 76 = .ok (.getfield 117, 3) := by decide +kernel
theorem dX11_worstAt_79 : decode cX11_worstAt 79 = .ok (.iload 4, 2) := by decide +kernel
theorem dX11_worstAt_81 : decode cX11_worstAt 81 = .ok (.iaload, 1) := by decide +kernel
theorem dX11_worstAt_82 : decode cX11_worstAt 82 = .ok (.goto 4, 3) := by decide +kernel
theorem dX11_worstAt_85 : decode cX11_worstAt 85 = .ok (.iload_n 2, 1) := by decide +kernel
theorem dX11_worstAt_86 : decode cX11_worstAt 86 = .ok (.istore_n 2, 1) := by decide +kernel
theorem dX11_worstAt_87 : decode cX11_worstAt 87 = .ok (.iinc 3 1, 3) := by decide +kernel
theorem dX11_worstAt_90 : decode cX11_worstAt 90 = .ok (.goto (-65), 3) := by decide +kernel
theorem dX11_worstAt_93 : decode cX11_worstAt 93 = .ok (.iload_n 2, 1) := by decide +kernel
theorem dX11_worstAt_94 : decode cX11_worstAt 94 = .ok (.ireturn, 1) := by decide +kernel
theorem dX11_next_0 : decode cX11_next 0 = .ok (.aload_n 0, 1) := by decide +kernel
theorem dX11_next_1 : decode cX11_next 1 = .ok (.iload_n 1, 1) := by decide +kernel
theorem dX11_next_2 : decode cX11_next 2 = .ok (.iload_n 2, 1) := by decide +kernel
theorem dX11_next_3 : decode cX11_next 3 = .ok (.invokevirtual 293, 3) := by decide +kernel
theorem dX11_next_6 : decode cX11_next 6 = .ok (.istore_n 3, 1) := by decide +kernel
theorem dX11_next_7 : decode cX11_next 7 = .ok (.iload_n 3, 1) := by decide +kernel
theorem dX11_next_8 : decode cX11_next 8 = .ok (.ifCond .eq 9, 3) := by decide +kernel
theorem dX11_next_11 : decode cX11_next 11 = .ok (.aload_n 0, 1) := by decide +kernel
theorem dX11_next_12 : decode cX11_next 12 = .ok (.iload_n 3, 1) := by decide +kernel
theorem dX11_next_13 : decode cX11_next 13 = .ok (.invokevirtual 167, 3) := by decide +kernel
theorem dX11_next_16 : decode cX11_next 16 = .ok (.ireturn, 1) := by decide +kernel
theorem dX11_next_17 : decode cX11_next 17 = .ok (.aload_n 0, 1) := by decide +kernel
theorem dX11_next_18 : decode cX11_next 18 = .ok (.iload_n 1, 1) := by decide +kernel
theorem dX11_next_19 : decode cX11_next 19 = .ok (.iload_n 2, 1) := by decide +kernel
theorem dX11_next_20 : decode cX11_next 20 = .ok (.invokevirtual 296, 3) := by decide +kernel
theorem dX11_next_23 : decode cX11_next 23 = .ok (.aload_n 0, 1) := by decide +kernel
theorem dX11_next_24 : decode cX11_next 24 = .ok (.getfield 290, 3) := by decide +kernel
theorem dX11_next_27 : decode cX11_next 27 = .ok (.iconst 2, 1) := by decide +kernel
theorem dX11_next_28 : decode cX11_next 28 = .ok (.if_icmp .ge 5, 3) := by decide +kernel
theorem dX11_next_31 : decode cX11_next 31 = .ok (.iconst (-1), 1) := by decide +kernel
theorem dX11_next_32 : decode cX11_next 32 = .ok (.ireturn, 1) := by decide +kernel
theorem dX11_next_33 : decode cX11_next 33 = .ok (.aload_n 0, 1) := by decide +kernel
theorem dX11_next_34 : decode cX11_next 34 = .ok (.getfield 59, 3) := by decide +kernel
theorem dX11_next_37 : decode cX11_next 37 = .ok (.iconst 0, 1) := by decide +kernel
theorem dX11_next_38 : decode cX11_next 38 = .ok (.iaload, 1) := by decide +kernel
theorem dX11_next_39 : decode cX11_next 39 = .ok (.istore 4, 2) := by decide +kernel
theorem dX11_next_41 : decode cX11_next 41 = .ok (.iconst (-1), 1) := by decide +kernel
theorem dX11_next_42 : decode cX11_next 42 = .ok (.istore 5, 2) := by decide +kernel
theorem dX11_next_44 : decode cX11_next 44 = .ok (.iconst 0, 1) := by decide +kernel
theorem dX11_next_45 : decode cX11_next 45 = .ok (.istore 6, 2) := by decide +kernel
theorem dX11_next_47 : decode cX11_next 47 = .ok (.iconst 0, 1) := by decide +kernel
theorem dX11_next_48 : decode cX11_next 48 = .ok (.istore 7, 2) := by decide +kernel
theorem dX11_next_50 : decode cX11_next 50 = .ok (.iload 7, 2) := by decide +kernel
theorem dX11_next_52 : decode cX11_next 52 = .ok (.aload_n 0, 1) := by decide +kernel
theorem dX11_next_53 : decode cX11_next 53 = .ok (.getfield 7, 3) := by decide +kernel
theorem dX11_next_56 : decode cX11_next 56 = .ok (.if_icmp .ge 71, 3) := by decide +kernel
theorem dX11_next_59 : decode cX11_next 59 = .ok (.iconst 0, 1) := by decide +kernel
theorem dX11_next_60 : decode cX11_next 60 = .ok (.istore 8, 2) := by decide +kernel
theorem dX11_next_62 : decode cX11_next 62 = .ok (.iload 8, 2) := by decide +kernel
theorem dX11_next_64 : decode cX11_next 64 = .ok (.aload_n 0, 1) := by decide +kernel
theorem dX11_next_65 : decode cX11_next 65 = .ok (.getfield 7, 3) := by decide +kernel
theorem dX11_next_68 : decode cX11_next 68 = .ok (.if_icmp .ge 53, 3) := by decide +kernel
theorem dX11_next_71 : decode cX11_next 71 = .ok (.aload_n 0, 1) := by decide +kernel
theorem dX11_next_72 : decode cX11_next 72 = .ok (.bipush 10, 2) := by decide +kernel
theorem dX11_next_74 : decode cX11_next 74 = .ok (.iload 7, 2) := by decide +kernel
theorem dX11_next_76 : decode cX11_next 76 = .ok (.imul, 1) := by decide +kernel
theorem dX11_next_77 : decode cX11_next 77 = .ok (.iload 8, 2) := by decide +kernel
theorem dX11_next_79 : decode cX11_next 79 = .ok (.iadd, 1) := by decide +kernel
theorem dX11_next_80 : decode cX11_next 80 = .ok (.invokevirtual 299, 3) := by decide +kernel
theorem dX11_next_83 : decode cX11_next 83 = .ok (.istore 9, 2) := by decide +kernel
theorem dX11_next_85 : decode cX11_next 85 = .ok (.iload 5, 2) := by decide +kernel
theorem dX11_next_87 : decode cX11_next 87 = .ok (.iconst (-1), 1) := by decide +kernel
theorem dX11_next_88 : decode cX11_next 88 = .ok (.if_icmp .eq 13, 3) := by decide +kernel
theorem dX11_next_91 : decode cX11_next 91 = .ok (.iload 9, 2) := by decide +kernel
theorem dX11_next_93 : decode cX11_next 93 = .ok (.iload 6, 2) := by decide +kernel
theorem dX11_next_95 : decode cX11_next 95 = .ok (.if_icmp .lt 6, 3) := by decide +kernel
theorem dX11_next_98 : decode cX11_next 98 = .ok (.goto 17, 3) := by decide +kernel
theorem dX11_next_101 : decode cX11_next 101 = .ok (.bipush 10, 2) := by decide +kernel
theorem dX11_next_103 : decode cX11_next 103 = .ok (.iload 7, 2) := by decide +kernel
theorem dX11_next_105 : decode cX11_next 105 = .ok (.imul, 1) := by decide +kernel
theorem dX11_next_106 : decode cX11_next 106 = .ok (.iload 8, 2) := by decide +kernel
theorem dX11_next_108 : decode cX11_next 108 = .ok (.iadd, 1) := by decide +kernel
theorem dX11_next_109 : decode cX11_next 109 = .ok (.istore 5, 2) := by decide +kernel
theorem dX11_next_111 : decode cX11_next 111 = .ok (.iload 9, 2) := by decide +kernel
theorem dX11_next_113 : decode cX11_next 113 = .ok (.istore 6, 2) := by decide +kernel
theorem dX11_next_115 : decode cX11_next 115 = .ok (.iinc 8 1, 3) := by decide +kernel
theorem dX11_next_118 : decode cX11_next 118 = .ok (.goto (-56), 3) := by decide +kernel
theorem dX11_next_121 : decode cX11_next 121 = .ok (.iinc 7 1, 3) := by decide +kernel
theorem dX11_next_124 : decode cX11_next 124 = .ok (.goto (-74), 3) := by decide +kernel
theorem dX11_next_127 : decode cX11_next 127 = .ok (.aload_n 0, 1) := by decide +kernel
theorem dX11_next_128 : decode cX11_next 128 = .ok (.getfield 59, 3) := by decide +kernel
theorem dX11_next_131 : decode cX11_next 131 = .ok (.iconst 0, 1) := by decide +kernel
theorem dX11_next_132 : decode cX11_next 132 = .ok (.iload 4, 2) := by decide +kernel
theorem dX11_next_134 : decode cX11_next 134 = .ok (.iastore, 1) := by decide +kernel
theorem dX11_next_135 : decode cX11_next 135 = .ok (.iload 5, 2) := by decide +kernel
theorem dX11_next_137 : decode cX11_next 137 = .ok (.ireturn, 1) := by decide +kernel
theorem dX11_near_0 : decode cX11_near 0 = .ok (.aload_n 0, 1) := by decide +kernel
theorem dX11_near_1 : decode cX11_near 1 = .ok (.iload_n 1, 1) := by decide +kernel
theorem dX11_near_2 : decode cX11_near 2 = .ok (.invokevirtual 154, 3) := by decide +kernel
theorem dX11_near_5 : decode cX11_near 5 = .ok (.ifCond .eq 13, 3) := by decide +kernel
theorem dX11_near_8 : decode cX11_near 8 = .ok (.aload_n 0, 1) := by decide +kernel
theorem dX11_near_9 : decode cX11_near 9 = .ok (.iload_n 2, 1) := by decide +kernel
theorem dX11_near_10 : decode cX11_near 10 = .ok (.iconst 0, 1) := by decide +kernel
theorem dX11_near_11 : decode cX11_near 11 = .ok (.iconst 5, 1) := by decide +kernel
theorem dX11_near_12 : decode cX11_near 12 = .ok (.invokevirtual 150, 3) := by decide +kernel
theorem dX11_near_15 : decode cX11_near 15 = .ok (.ifCond .ne 10, 3) := by decide +kernel
theorem dX11_near_18 : decode cX11_near 18 = .ok (.aload_n 0, 1) := by decide +kernel
theorem dX11_near_19 : decode cX11_near 19 = .ok (.bipush (-6), 2) := by decide +kernel
theorem dX11_near_21 : decode cX11_near 21 = .ok (.invokevirtual 167, 3) := by decide +kernel
theorem dX11_near_24 : decode cX11_near 24 = .ok (.ireturn, 1) := by decide +kernel
theorem dX11_near_25 : decode cX11_near 25 = .ok (.aload_n 0, 1) := by decide +kernel
theorem dX11_near_26 : decode cX11_near 26 = .ok (.invokevirtual 181, 3) := by decide +kernel
theorem dX11_near_29 : decode cX11_near 29 = .ok (.iconst (-1), 1) := by decide +kernel
theorem dX11_near_30 : decode cX11_near 30 = .ok (.istore_n 3, 1) := by decide +kernel
theorem dX11_near_31 : decode cX11_near 31 = .ok (.iconst 0, 1) := by decide +kernel
theorem dX11_near_32 : decode cX11_near 32 = .ok (.istore 4, 2) := by decide +kernel
theorem dX11_near_34 : decode cX11_near 34 = .ok (.iload 4, 2) := by decide +kernel
theorem dX11_near_36 : decode cX11_near 36 = .ok (.aload_n 0, 1) := by decide +kernel
theorem dX11_near_37 : decode cX11_near 37 = .ok (.getfield 7, 3) := by decide +kernel
theorem dX11_near_40 : decode cX11_near 40 = .ok (.if_icmp .ge 71, 3) := by decide +kernel
theorem dX11_near_43 : decode cX11_near 43 = .ok (.iconst 0, 1) := by decide +kernel
theorem dX11_near_44 : decode cX11_near 44 = .ok (.istore 5, 2) := by decide +kernel
theorem dX11_near_46 : decode cX11_near 46 = .ok (.iload 5, 2) := by decide +kernel
theorem dX11_near_48 : decode cX11_near 48 = .ok (.aload_n 0, 1) := by decide +kernel
theorem dX11_near_49 : decode cX11_near 49 = .ok (.getfield 7, 3) := by decide +kernel
theorem dX11_near_52 : decode cX11_near 52 = .ok (.if_icmp .ge 53, 3) := by decide +kernel
theorem dX11_near_55 : decode cX11_near 55 = .ok (.bipush 10, 2) := by decide +kernel
theorem dX11_near_57 : decode cX11_near 57 = .ok (.iload 4, 2) := by decide +kernel
theorem dX11_near_59 : decode cX11_near 59 = .ok (.imul, 1) := by decide +kernel
theorem dX11_near_60 : decode cX11_near 60 = .ok (.iload 5, 2) := by decide +kernel
theorem dX11_near_62 : decode cX11_near 62 = .ok (.iadd, 1) := by decide +kernel
theorem dX11_near_63 : decode cX11_near 63 = .ok (.istore 6, 2) := by decide +kernel
theorem dX11_near_65 : decode cX11_near 65 = .ok (.aload_n 0, 1) := by decide +kernel
theorem dX11_near_66 : decode cX11_near 66 = .ok (.iload 6, 2) := by decide +kernel
theorem dX11_near_68 : decode cX11_near 68 = .ok (.invokevirtual 284, 3) := by decide +kernel
theorem dX11_near_71 : decode cX11_near 71 = .ok (.iload_n 2, 1) := by decide +kernel
theorem dX11_near_72 : decode cX11_near 72 = .ok (.if_icmp .lt 27, 3) := by decide +kernel
theorem dX11_near_75 : decode cX11_near 75 = .ok (.iload_n 3, 1) := by decide +kernel
theorem dX11_near_76 : decode cX11_near 76 = .ok (.iconst (-1), 1) := by decide +kernel
theorem dX11_near_77 : decode cX11_near 77 = .ok (.if_icmp .eq 14, 3) := by decide +kernel
theorem dX11_near_80 : decode cX11_near 80 = .ok (.aload_n 0, 1) := by decide +kernel
theorem dX11_near_81 : decode cX11_near 81 = .ok (.iload_n 1, 1) := by decide +kernel
theorem dX11_near_82 : decode cX11_near 82 = .ok (.iload 6, 2) := by decide +kernel
theorem dX11_near_84 : decode cX11_near 84 = .ok (.invokevirtual 242, 3) := by decide +kernel
theorem dX11_near_87 : decode cX11_near 87 = .ok (.iload_n 3, 1) := by decide +kernel
theorem dX11_near_88 : decode cX11_near 88 = .ok (.if_icmp .ge 11, 3) := by decide +kernel
theorem dX11_near_91 : decode cX11_near 91 = .ok (.aload_n 0, 1) := by decide +kernel
theorem dX11_near_92 : decode cX11_near 92 = .ok (.iload_n 1, 1) := by decide +kernel
theorem dX11_near_93 : decode cX11_near 93 = .ok (.iload 6, 2) := by decide +kernel
theorem dX11_near_95 : decode cX11_near 95 = .ok (.invokevirtual 242, 3) := by decide +kernel
theorem dX11_near_98 : decode cX11_near 98 = .ok (.istore_n 3, 1) := by decide +kernel
theorem dX11_near_99 : decode cX11_near 99 = .ok (.iinc 5 1, 3) := by decide +kernel
theorem dX11_near_102 : decode cX11_near 102 = .ok (.goto (-56), 3) := by decide +kernel
theorem dX11_near_105 : decode cX11_near 105 = .ok (.iinc 4 1, 3) := by decide +kernel
theorem dX11_near_108 : decode cX11_near 108 = .ok (.goto (-74), 3) := by decide +kernel
theorem dX11_near_111 : decode cX11_near 111 = .ok (.iload_n 3, 1) := by decide +kernel
theorem dX11_near_112 : decode cX11_near 112 = .ok (.ireturn, 1) := by decide +kernel
theorem dX11_minute_0 : decode cX11_minute 0 = .ok (.aload_n 0, 1) := by decide +kernel
theorem dX11_minute_1 : decode cX11_minute 1 = .ok (.getfield 170, 3) := by decide +kernel
theorem dX11_minute_4 : decode cX11_minute 4 = .ok (.istore_n 1, 1) := by decide +kernel
theorem dX11_minute_5 : decode cX11_minute 5 = .ok (.iconst (-1), 1) := by decide +kernel
theorem dX11_minute_6 : decode cX11_minute 6 = .ok (.istore_n 2, 1) := by decide +kernel
theorem dX11_minute_7 : decode cX11_minute 7 = .ok (.iconst (-1), 1) := by decide +kernel
theorem dX11_minute_8 : decode cX11_minute 8 = .ok (.istore_n 3, 1) := by decide +kernel
theorem dX11_minute_9 : decode cX11_minute 9 = .ok (.iconst 0, 1) := by decide +kernel
theorem dX11_minute_10 : decode cX11_minute 10 = .ok (.istore 4, 2) := by decide +kernel
theorem dX11_minute_12 : decode cX11_minute 12 = .ok (.iload 4, 2) := by decide +kernel
theorem dX11_minute_14 : decode cX11_minute 14 = .ok (.bipush 60, 2) := by decide +kernel
theorem dX11_minute_16 : decode cX11_minute 16 = .ok (.if_icmp .ge 47, 3) := by decide +kernel
theorem dX11_minute_19 : decode cX11_minute 19 = .ok (.aload_n 0, 1) := by decide +kernel
theorem dX11_minute_20 : decode cX11_minute 20 = .ok (.iload_n 1, 1) := by decide +kernel
theorem dX11_minute_21 : decode cX11_minute 21 = .ok (.iload 4, 2) := by decide +kernel
theorem dX11_minute_23 : decode cX11_minute 23 = .ok (.iadd, 1) := by decide +kernel
theorem dX11_minute_24 : decode cX11_minute 24 = .ok (.bipush 60, 2) := by decide +kernel
theorem dX11_minute_26 : decode cX11_minute 26 = .ok (.irem, 1) := by decide +kernel
theorem dX11_minute_27 : decode cX11_minute 27 = .ok (.putfield 170, 3) := by decide +kernel
theorem dX11_minute_30 : decode cX11_minute 30 = .ok (.aload_n 0, 1) := by decide +kernel
theorem dX11_minute_31 : decode cX11_minute 31 = .ok (.invokevirtual 181, 3) := by decide +kernel
theorem dX11_minute_34 : decode cX11_minute 34 = .ok (.aload_n 0, 1) := by decide +kernel
theorem dX11_minute_35 : decode cX11_minute 35 = .ok (.invokevirtual 263, 3) := by decide +kernel
theorem dX11_minute_38 : decode cX11_minute 38 = .ok (.istore 5, 2) := by decide +kernel
theorem dX11_minute_40 : decode cX11_minute 40 = .ok (.iload 5, 2) := by decide +kernel
theorem dX11_minute_42 : decode cX11_minute 42 = .ok (.iload_n 3, 1) := by decide +kernel
theorem dX11_minute_43 : decode cX11_minute 43 = .ok (.if_icmp .gt 6, 3) := by decide +kernel
theorem dX11_minute_46 : decode cX11_minute 46 = .ok (.goto 11, 3) := by decide +kernel
theorem dX11_minute_49 : decode cX11_minute 49 = .ok (.aload_n 0, 1) := by decide +kernel
theorem dX11_minute_50 : decode cX11_minute 50 = .ok (.getfield 170, 3) := by decide +kernel
theorem dX11_minute_53 : decode cX11_minute 53 = .ok (.istore_n 2, 1) := by decide +kernel
theorem dX11_minute_54 : decode cX11_minute 54 = .ok (.iload 5, 2) := by decide +kernel
theorem dX11_minute_56 : decode cX11_minute 56 = .ok (.istore_n 3, 1) := by decide +kernel
theorem dX11_minute_57 : decode cX11_minute 57 = .ok (.iinc 4 1, 3) := by decide +kernel
theorem dX11_minute_60 : decode cX11_minute 60 = .ok (.goto (-48), 3) := by decide +kernel
theorem dX11_minute_63 : decode cX11_minute 63 = .ok (.aload_n 0, 1) := by decide +kernel
theorem dX11_minute_64 : decode cX11_minute 64 = .ok (.iload_n 1, 1) := by decide +kernel
theorem dX11_minute_65 : decode cX11_minute 65 = .ok (.putfield 170, 3) := by decide +kernel
theorem dX11_minute_68 : decode cX11_minute 68 = .ok (.iload_n 2, 1) := by decide +kernel
theorem dX11_minute_69 : decode cX11_minute 69 = .ok (.ireturn, 1) := by decide +kernel
theorem dX11_blame_0 : decode cX11_blame 0 = .ok (.aload_n 0, 1) := by decide +kernel
theorem dX11_blame_1 : decode cX11_blame 1 = .ok (.iload_n 1, 1) := by decide +kernel
theorem dX11_blame_2 : decode cX11_blame 2 = .ok (.invokevirtual 154, 3) := by decide +kernel
theorem dX11_blame_5 : decode cX11_blame 5 = .ok (.ifCond .ne 10, 3) := by decide +kernel
theorem dX11_blame_8 : decode cX11_blame 8 = .ok (.aload_n 0, 1) := by decide +kernel
theorem dX11_blame_9 : decode cX11_blame 9 = .ok (.bipush (-6), 2) := by decide +kernel
theorem dX11_blame_11 : decode cX11_blame 11 = .ok (.invokevirtual 130, 3) := by decide +kernel
theorem dX11_blame_14 : decode cX11_blame 14 = .ok (.ireturn, 1) := by decide +kernel
theorem dX11_blame_15 : decode cX11_blame 15 = .ok (.aload_n 0, 1) := by decide +kernel
theorem dX11_blame_16 : decode cX11_blame 16 = .ok (.invokevirtual 181, 3) := by decide +kernel
theorem dX11_blame_19 : decode cX11_blame 19 = .ok (.iconst 0, 1) := by decide +kernel
theorem dX11_blame_20 : decode cX11_blame 20 = .ok (.istore_n 2, 1) := by decide +kernel
theorem dX11_blame_21 : decode cX11_blame 21 = .ok (.iconst 2, 1) := by decide +kernel
theorem dX11_blame_22 : decode cX11_blame 22 = .ok (.aload_n 0, 1) := by decide +kernel
theorem dX11_blame_23 : decode cX11_blame 23 = .ok (.aload_n 0, 1) := by decide +kernel
theorem dX11_blame_24 : decode cX11_blame 24 = .ok (.getfield 59, 3) := by decide +kernel
theorem dX11_blame_27 : decode cX11_blame 27 = .ok (.iconst 0, 1) := by decide +kernel
theorem dX11_blame_28 : decode cX11_blame 28 = .ok (.iaload, 1) := by decide +kernel
theorem dX11_blame_29 : decode cX11_blame 29 = .ok (.iload_n 1, 1) := by decide +kernel
theorem dX11_blame_30 : decode cX11_blame 30 = .ok (.invokevirtual 242, 3) := by decide +kernel
theorem dX11_blame_33 : decode cX11_blame 33 = .ok (.imul, 1) := by decide +kernel
theorem dX11_blame_34 : decode cX11_blame 34 = .ok (.istore_n 3, 1) := by decide +kernel
theorem dX11_blame_35 : decode cX11_blame 35 = .ok (.aload_n 0, 1) := by decide +kernel
theorem dX11_blame_36 : decode cX11_blame 36 = .ok (.aload_n 0, 1) := by decide +kernel
theorem dX11_blame_37 : decode cX11_blame 37 = .ok (.getfield 59, 3) := by decide +kernel
theorem dX11_blame_40 : decode cX11_blame 40 = .ok (.iconst 0, 1) := by decide +kernel
theorem dX11_blame_41 : decode cX11_blame 41 = .ok (.iaload, 1) := by decide +kernel
theorem dX11_blame_42 : decode cX11_blame 42 = .ok (.iload_n 1, 1) := by decide +kernel
theorem dX11_blame_43 : decode cX11_blame 43 = .ok (.invokevirtual 251, 3) := by decide +kernel
theorem dX11_blame_46 : decode cX11_blame 46 = .ok (.iload_n 3, 1) := by decide +kernel
theorem dX11_blame_47 : decode cX11_blame 47 = .ok (.if_icmp .le 17, 3) := by decide +kernel
theorem dX11_blame_50 : decode cX11_blame 50 = .ok (.iconst 1, 1) := by decide +kernel
theorem dX11_blame_51 : decode cX11_blame 51 = .ok (.istore_n 2, 1) := by decide +kernel
theorem dX11_blame_52 : decode cX11_blame 52 = .ok (.aload_n 0, 1) := by decide +kernel
theorem dX11_blame_53 : decode cX11_blame 53 = .ok (.aload_n 0, 1) := by decide +kernel
theorem dX11_blame_54 : decode cX11_blame 54 = .ok (.getfield 59, 3) := by decide +kernel
theorem dX11_blame_57 : decode cX11_blame 57 = .ok (.iconst 0, 1) := by decide +kernel
theorem dX11_blame_58 : decode cX11_blame 58 = .ok (.iaload, 1) := by decide +kernel
theorem dX11_blame_59 : decode cX11_blame 59 = .ok (.iload_n 1, 1) := by decide +kernel
theorem dX11_blame_60 : decode cX11_blame 60 = .ok (.invokevirtual 251, 3) := by decide +kernel
theorem dX11_blame_63 : decode cX11_blame 63 = .ok (.istore_n 3, 1) := by decide +kernel
theorem dX11_blame_64 : decode cX11_blame 64 = .ok (.aload_n 0, 1) := by decide +kernel
theorem dX11_blame_65 : decode cX11_blame 65 = .ok (.getfield 99, 3) := by decide +kernel
theorem dX11_blame_68 : decode cX11_blame 68 = .ok (.iload_n 1, 1) := by decide +kernel
theorem dX11_blame_69 : decode cX11_blame 69 = .ok (.iaload, 1) := by decide +kernel
theorem dX11_blame_70 : decode cX11_blame 70 = .ok (.iload_n 3, 1) := by decide +kernel
theorem dX11_blame_71 : decode cX11_blame 71 = .ok (.if_icmp .le 12, 3) := by decide +kernel
theorem dX11_blame_74 : decode cX11_blame 74 = .ok (.iconst 2, 1) := by decide +kernel
theorem dX11_blame_75 : decode cX11_blame 75 = .ok (.istore_n 2, 1) := by decide +kernel
theorem dX11_blame_76 : decode cX11_blame 76 = .ok (.aload_n 0, 1) := by decide +kernel
theorem dX11_blame_77 : decode cX11_blame 77 = .ok (.getfield 99, 3) := by decide +kernel
theorem dX11_blame_80 : decode cX11_blame 80 = .ok (.iload_n 1, 1) := by decide +kernel
theorem dX11_blame_81 : decode cX11_blame 81 = .ok (.iaload, 1) := by decide +kernel
theorem dX11_blame_82 : decode cX11_blame 82 = .ok (.istore_n 3, 1) := by decide +kernel
theorem dX11_blame_83 : decode cX11_blame 83 = .ok (.aload_n 0, 1) := by decide +kernel
theorem dX11_blame_84 : decode cX11_blame 84 = .ok (.getfield 245, 3) := by decide +kernel
theorem dX11_blame_87 : decode cX11_blame 87 = .ok (.iload_n 3, 1) := by decide +kernel
theorem dX11_blame_88 : decode cX11_blame 88 = .ok (.if_icmp .le 7, 3) := by decide +kernel
theorem dX11_blame_91 : decode cX11_blame 91 = .ok (.iconst 3, 1) := by decide +kernel
theorem dX11_blame_92 : decode cX11_blame 92 = .ok (.goto 4, 3) := by decide +kernel
theorem dX11_blame_95 : decode cX11_blame 95 = .ok (.iload_n 2, 1) := by decide +kernel
theorem dX11_blame_96 : decode cX11_blame 96 = .ok (.ireturn, 1) := by decide +kernel
theorem dX11_wrongIn_0 : decode cX11_wrongIn 0 = .ok (.iconst 0, 1) := by decide +kernel
theorem dX11_wrongIn_1 : decode cX11_wrongIn 1 = .ok (.istore_n 3, 1) := by decide +kernel
theorem dX11_wrongIn_2 : decode cX11_wrongIn 2 = .ok (.iload_n 3, 1) := by decide +kernel
theorem dX11_wrongIn_3 : decode cX11_wrongIn 3 = .ok (.iload_n 2, 1) := by decide +kernel
theorem dX11_wrongIn_4 : decode cX11_wrongIn 4 = .ok (.if_icmp .ge 50, 3) := by decide +kernel
theorem dX11_wrongIn_7 : decode cX11_wrongIn 7 = .ok (.aload_n 0, 1) := by decide +kernel
theorem dX11_wrongIn_8 : decode cX11_wrongIn 8 = .ok (.aload_n 0, 1) := by decide +kernel
theorem dX11_wrongIn_9 : decode cX11_wrongIn 9 = .ok (.iload_n 1, 1) := by decide +kernel
theorem dX11_wrongIn_10 : decode cX11_wrongIn 10 = .ok (.iload_n 3, 1) := by decide +kernel
theorem dX11_wrongIn_11 : decode cX11_wrongIn 11 = .ok (.invokevirtual 287, 3) := by decide +kernel
theorem dX11_wrongIn_14 : decode cX11_wrongIn 14 = .ok (.invokevirtual 154, 3) := by decide +kernel
theorem dX11_wrongIn_17 : decode cX11_wrongIn 17 = .ok (.ifCond .eq 29, 3) := by decide +kernel
theorem dX11_wrongIn_20 : decode cX11_wrongIn 20 = .ok (.iload_n 3, 1) := by decide +kernel
theorem dX11_wrongIn_21 : decode cX11_wrongIn 21 = .ok (.ifCond .le 27, 3) := by decide +kernel
theorem dX11_wrongIn_24 : decode cX11_wrongIn 24 = .ok (.aload_n 0, 1) := by decide +kernel
theorem dX11_wrongIn_25 : decode cX11_wrongIn 25 = .ok (.aload_n 0, 1) := by decide +kernel
theorem dX11_wrongIn_26 : decode cX11_wrongIn 26 = .ok (.iload_n 1, 1) := by decide +kernel
theorem dX11_wrongIn_27 : decode cX11_wrongIn 27 = .ok (.iload_n 3, 1) := by decide +kernel
theorem dX11_wrongIn_28 : decode cX11_wrongIn 28 = .ok (.iconst 1, 1) := by decide +kernel
theorem dX11_wrongIn_29 : decode cX11_wrongIn 29 = .ok (.isub, 1) := by decide +kernel
theorem dX11_wrongIn_30 : decode cX11_wrongIn 30 = .ok (.invokevirtual 287, 3) := by decide +kernel
theorem dX11_wrongIn_33 : decode cX11_wrongIn 33 = .ok (.aload_n 0, 1) := by decide +kernel
theorem dX11_wrongIn_34 : decode cX11_wrongIn 34 = .ok (.iload_n 1, 1) := by decide +kernel
theorem dX11_wrongIn_35 : decode cX11_wrongIn 35 = .ok (.iload_n 3, 1) := by decide +kernel
theorem dX11_wrongIn_36 : decode cX11_wrongIn 36 = .ok (.invokevirtual 287, 3) := by decide +kernel
theorem dX11_wrongIn_39 : decode cX11_wrongIn 39 = .ok (.invokevirtual 242, 3) := by decide +kernel
theorem dX11_wrongIn_42 : decode cX11_wrongIn 42 = .ok (.iconst 1, 1) := by decide +kernel
theorem dX11_wrongIn_43 : decode cX11_wrongIn 43 = .ok (.if_icmp .le 5, 3) := by decide +kernel
theorem dX11_wrongIn_46 : decode cX11_wrongIn 46 = .ok (.iload_n 3, 1) := by decide +kernel
theorem dX11_wrongIn_47 : decode cX11_wrongIn 47 = .ok (.ireturn, 1) := by decide +kernel
theorem dX11_wrongIn_48 : decode cX11_wrongIn 48 = .ok (.iinc 3 1, 3) := by decide +kernel
theorem dX11_wrongIn_51 : decode cX11_wrongIn 51 = .ok (.goto (-49), 3) := by decide +kernel
theorem dX11_wrongIn_54 : decode cX11_wrongIn 54 = .ok (.iconst (-1), 1) := by decide +kernel
theorem dX11_wrongIn_55 : decode cX11_wrongIn 55 = .ok (.ireturn, 1) := by decide +kernel
theorem dX11_judge_0 : decode cX11_judge 0 = .ok (.aload_n 0, 1) := by decide +kernel
theorem dX11_judge_1 : decode cX11_judge 1 = .ok (.iload_n 1, 1) := by decide +kernel
theorem dX11_judge_2 : decode cX11_judge 2 = .ok (.invokevirtual 229, 3) := by decide +kernel
theorem dX11_judge_5 : decode cX11_judge 5 = .ok (.istore_n 3, 1) := by decide +kernel
theorem dX11_judge_6 : decode cX11_judge 6 = .ok (.iload_n 3, 1) := by decide +kernel
theorem dX11_judge_7 : decode cX11_judge 7 = .ok (.ifCond .ne 40, 3) := by decide +kernel
theorem dX11_judge_10 : decode cX11_judge 10 = .ok (.iload_n 2, 1) := by decide +kernel
theorem dX11_judge_11 : decode cX11_judge 11 = .ok (.ifCond .ge 8, 3) := by decide +kernel
theorem dX11_judge_14 : decode cX11_judge 14 = .ok (.bipush (-4), 2) := by decide +kernel
theorem dX11_judge_16 : decode cX11_judge 16 = .ok (.goto 30, 3) := by decide +kernel
theorem dX11_judge_19 : decode cX11_judge 19 = .ok (.iload_n 2, 1) := by decide +kernel
theorem dX11_judge_20 : decode cX11_judge 20 = .ok (.aload_n 0, 1) := by decide +kernel
theorem dX11_judge_21 : decode cX11_judge 21 = .ok (.getfield 68, 3) := by decide +kernel
theorem dX11_judge_24 : decode cX11_judge 24 = .ok (.iload_n 1, 1) := by decide +kernel
theorem dX11_judge_25 : decode cX11_judge 25 = .ok (.iaload, 1) := by decide +kernel
theorem dX11_judge_26 : decode cX11_judge 26 = .ok (.if_icmp .le 8, 3) := by decide +kernel
theorem dX11_judge_29 : decode cX11_judge 29 = .ok (.bipush (-5), 2) := by decide +kernel
theorem dX11_judge_31 : decode cX11_judge 31 = .ok (.goto 15, 3) := by decide +kernel
theorem dX11_judge_34 : decode cX11_judge 34 = .ok (.iload_n 2, 1) := by decide +kernel
theorem dX11_judge_35 : decode cX11_judge 35 = .ok (.bipush 40, 2) := by decide +kernel
theorem dX11_judge_37 : decode cX11_judge 37 = .ok (.if_icmp .le 8, 3) := by decide +kernel
theorem dX11_judge_40 : decode cX11_judge 40 = .ok (.bipush (-6), 2) := by decide +kernel
theorem dX11_judge_42 : decode cX11_judge 42 = .ok (.goto 4, 3) := by decide +kernel
theorem dX11_judge_45 : decode cX11_judge 45 = .ok (.iconst 0, 1) := by decide +kernel
theorem dX11_judge_46 : decode cX11_judge 46 = .ok (.istore_n 3, 1) := by decide +kernel
theorem dX11_judge_47 : decode cX11_judge 47 = .ok (.iload_n 3, 1) := by decide +kernel
theorem dX11_judge_48 : decode cX11_judge 48 = .ok (.ifCond .eq 11, 3) := by decide +kernel
theorem dX11_judge_51 : decode cX11_judge 51 = .ok (.aload_n 0, 1) := by decide +kernel
theorem dX11_judge_52 : decode cX11_judge 52 = .ok (.iload_n 3, 1) := by decide +kernel
theorem dX11_judge_53 : decode cX11_judge 53 = .ok (.invokevirtual 167, 3) := by decide +kernel
theorem dX11_judge_56 : decode cX11_judge 56 = .ok (.goto 9, 3) := by decide +kernel
theorem dX11_judge_59 : decode cX11_judge 59 = .ok (.aload_n 0, 1) := by decide +kernel
theorem dX11_judge_60 : decode cX11_judge 60 = .ok (.iload_n 1, 1) := by decide +kernel
theorem dX11_judge_61 : decode cX11_judge 61 = .ok (.iload_n 2, 1) := by decide +kernel
theorem dX11_judge_62 : decode cX11_judge 62 = .ok (.invokevirtual 302, 3) := by decide +kernel
theorem dX11_judge_65 : decode cX11_judge 65 = .ok (.ireturn, 1) := by decide +kernel
theorem dX11_letsGo_0 : decode cX11_letsGo 0 = .ok (.aload_n 0, 1) := by decide +kernel
theorem dX11_letsGo_1 : decode cX11_letsGo 1 = .ok (.iload_n 1, 1) := by decide +kernel
theorem dX11_letsGo_2 : decode cX11_letsGo 2 = .ok (.iload_n 2, 1) := by decide +kernel
theorem dX11_letsGo_3 : decode cX11_letsGo 3 = .ok (.invokevirtual 257, 3) := by decide +kernel
theorem dX11_letsGo_6 : decode cX11_letsGo 6 = .ok (.iload_n 3, 1) := by decide +kernel
theorem dX11_letsGo_7 : decode cX11_letsGo 7 = .ok (.if_icmp .gt 24, 3) := by decide +kernel
theorem dX11_letsGo_10 : decode cX11_letsGo 10 = .ok (.aload_n 0, 1) := by decide +kernel
theorem dX11_letsGo_11 : decode cX11_letsGo 11 = .ok (.iconst 1, 1) := by decide +kernel
theorem dX11_letsGo_12 : decode cX11_letsGo 12 = .ok (.iload_n 1, 1) := by decide +kernel
theorem dX11_letsGo_13 : decode cX11_letsGo 13 = .ok (.isub, 1) := by decide +kernel
theorem dX11_letsGo_14 : decode cX11_letsGo 14 = .ok (.iload_n 2, 1) := by decide +kernel
theorem dX11_letsGo_15 : decode cX11_letsGo 15 = .ok (.invokevirtual 257, 3) := by decide +kernel
theorem dX11_letsGo_18 : decode cX11_letsGo 18 = .ok (.aload_n 0, 1) := by decide +kernel
theorem dX11_letsGo_19 : decode cX11_letsGo 19 = .ok (.iload_n 1, 1) := by decide +kernel
theorem dX11_letsGo_20 : decode cX11_letsGo 20 = .ok (.iload_n 2, 1) := by decide +kernel
theorem dX11_letsGo_21 : decode cX11_letsGo 21 = .ok (.invokevirtual 257, 3) := by decide +kernel
theorem dX11_letsGo_24 : decode cX11_letsGo 24 = .ok (.if_icmp .le 7, 3) := by decide +kernel
theorem dX11_letsGo_27 : decode cX11_letsGo 27 = .ok (.iconst 1, 1) := by decide +kernel
theorem dX11_letsGo_28 : decode cX11_letsGo 28 = .ok (.goto 4, 3) := by decide +kernel
theorem dX11_letsGo_31 : decode cX11_letsGo 31 = .ok (.iconst 0, 1) := by decide +kernel
theorem dX11_letsGo_32 : decode cX11_letsGo 32 = .ok (.ireturn, 1) := by decide +kernel
theorem dX11_hopsBy_0 : decode cX11_hopsBy 0 = .ok (.iconst 0, 1) := by decide +kernel
theorem dX11_hopsBy_1 : decode cX11_hopsBy 1 = .ok (.istore 4, 2) := by decide +kernel
theorem dX11_hopsBy_3 : decode cX11_hopsBy 3 = .ok (.iconst 0, 1) := by decide +kernel
theorem dX11_hopsBy_4 : decode cX11_hopsBy 4 = .ok (.istore 5, 2) := by decide +kernel
theorem dX11_hopsBy_6 : decode cX11_hopsBy 6 = .ok (.iconst 0, 1) := by decide +kernel
theorem dX11_hopsBy_7 : decode cX11_hopsBy 7 = .ok (.istore 6, 2) := by decide +kernel
theorem dX11_hopsBy_9 : decode cX11_hopsBy 9 = .ok (.iload 6, 2) := by decide +kernel
theorem dX11_hopsBy_11 : decode cX11_hopsBy 11 = .ok (.iload_n 2, 1) := by decide +kernel
theorem dX11_hopsBy_12 : decode cX11_hopsBy 12 = .ok (.if_icmp .ge 38, 3) := by decide +kernel
theorem dX11_hopsBy_15 : decode cX11_hopsBy 15 = .ok (.aload_n 0, 1) := by decide +kernel
theorem dX11_hopsBy_16 : decode cX11_hopsBy 16 = .ok (.iload 4, 2) := by decide +kernel
theorem dX11_hopsBy_18 : decode cX11_hopsBy 18 = .ok (.aload_n 0, 1) := by decide +kernel
theorem dX11_hopsBy_19 : decode cX11_hopsBy 19 = .ok (.iload_n 1, 1) := by decide +kernel
theorem dX11_hopsBy_20 : decode cX11_hopsBy 20 = .ok (.iload 6, 2) := by decide +kernel
theorem dX11_hopsBy_22 : decode cX11_hopsBy 22 = .ok (.invokevirtual 287, 3) := by decide +kernel
theorem dX11_hopsBy_25 : decode cX11_hopsBy 25 = .ok (.iload_n 3, 1) := by decide +kernel
theorem dX11_hopsBy_26 : decode cX11_hopsBy 26 = .ok (.invokevirtual 305, 3) := by decide +kernel
theorem dX11_hopsBy_29 : decode cX11_hopsBy 29 = .ok (.ifCond .ne 6, 3) := by decide +kernel
theorem dX11_hopsBy_32 : decode cX11_hopsBy 32 = .ok (.goto 12, 3) := by decide +kernel
theorem dX11_hopsBy_35 : decode cX11_hopsBy 35 = .ok (.iconst 1, 1) := by decide +kernel
theorem dX11_hopsBy_36 : decode cX11_hopsBy 36 = .ok (.iload 4, 2) := by decide +kernel
theorem dX11_hopsBy_38 : decode cX11_hopsBy 38 = .ok (.isub, 1) := by decide +kernel
theorem dX11_hopsBy_39 : decode cX11_hopsBy 39 = .ok (.istore 4, 2) := by decide +kernel
theorem dX11_hopsBy_41 : decode cX11_hopsBy 41 = .ok (.iinc 5 1, 3) := by decide +kernel
theorem dX11_hopsBy_44 : decode cX11_hopsBy 44 = .ok (.iinc 6 1, 3) := by decide +kernel
theorem dX11_hopsBy_47 : decode cX11_hopsBy 47 = .ok (.goto (-38), 3) := by decide +kernel
theorem dX11_hopsBy_50 : decode cX11_hopsBy 50 = .ok (.iload 5, 2) := by decide +kernel
theorem dX11_hopsBy_52 : decode cX11_hopsBy 52 = .ok (.ireturn, 1) := by decide +kernel
theorem dX11_hops_0 : decode cX11_hops 0 = .ok (.aload_n 0, 1) := by decide +kernel
theorem dX11_hops_1 : decode cX11_hops 1 = .ok (.iload_n 1, 1) := by decide +kernel
theorem dX11_hops_2 : decode cX11_hops 2 = .ok (.invokevirtual 229, 3) := by decide +kernel
theorem dX11_hops_5 : decode cX11_hops 5 = .ok (.istore 4, 2) := by decide +kernel
theorem dX11_hops_7 : decode cX11_hops 7 = .ok (.iload 4, 2) := by decide +kernel
theorem dX11_hops_9 : decode cX11_hops 9 = .ok (.ifCond .ne 61, 3) := by decide +kernel
theorem dX11_hops_12 : decode cX11_hops 12 = .ok (.iload_n 2, 1) := by decide +kernel
theorem dX11_hops_13 : decode cX11_hops 13 = .ok (.ifCond .ge 8, 3) := by decide +kernel
theorem dX11_hops_16 : decode cX11_hops 16 = .ok (.bipush (-4), 2) := by decide +kernel
theorem dX11_hops_18 : decode cX11_hops 18 = .ok (.goto 50, 3) := by decide +kernel
theorem dX11_hops_21 : decode cX11_hops 21 = .ok (.iload_n 2, 1) := by decide +kernel
theorem dX11_hops_22 : decode cX11_hops 22 = .ok (.aload_n 0, 1) := by decide +kernel
theorem dX11_hops_23 : decode cX11_hops 23 = .ok (.getfield 68, 3) := by decide +kernel
theorem dX11_hops_26 : decode cX11_hops 26 = .ok (.iload_n 1, 1) := by decide +kernel
theorem dX11_hops_27 : decode cX11_hops 27 = .ok (.iaload, 1) := by decide +kernel
theorem dX11_hops_28 : decode cX11_hops 28 = .ok (.if_icmp .le 8, 3) := by decide +kernel
theorem dX11_hops_31 : decode cX11_hops 31 = .ok (.bipush (-5), 2) := by decide +kernel
theorem dX11_hops_33 : decode cX11_hops 33 = .ok (.goto 35, 3) := by decide +kernel
theorem dX11_hops_36 : decode cX11_hops 36 = .ok (.iload_n 2, 1) := by decide +kernel
theorem dX11_hops_37 : decode cX11_hops 37 = .ok (.bipush 40, 2) := by decide +kernel
theorem dX11_hops_39 : decode cX11_hops 39 = .ok (.if_icmp .gt 23, 3) := by decide +kernel
theorem dX11_hops_42 : decode cX11_hops 42 = .ok (.aload_n 0, 1) := by decide +kernel
theorem dX11_hops_43 : decode cX11_hops 43 = .ok (.iload_n 3, 1) := by decide +kernel
theorem dX11_hops_44 : decode cX11_hops 44 = .ok (.iconst (-1), 1) := by decide +kernel
theorem dX11_hops_45 : decode cX11_hops 45 = .ok (.iconst 4, 1) := by decide +kernel
theorem dX11_hops_46 : decode cX11_hops 46 = .ok (.invokevirtual 150, 3) := by decide +kernel
theorem dX11_hops_49 : decode cX11_hops 49 = .ok (.ifCond .eq 13, 3) := by decide +kernel
theorem dX11_hops_52 : decode cX11_hops 52 = .ok (.aload_n 0, 1) := by decide +kernel
theorem dX11_hops_53 : decode cX11_hops 53 = .ok (.iload_n 1, 1) := by decide +kernel
theorem dX11_hops_54 : decode cX11_hops 54 = .ok (.iload_n 2, 1) := by decide +kernel
theorem dX11_hops_55 : decode cX11_hops 55 = .ok (.invokevirtual 302, 3) := by decide +kernel
theorem dX11_hops_58 : decode cX11_hops 58 = .ok (.iconst (-1), 1) := by decide +kernel
theorem dX11_hops_59 : decode cX11_hops 59 = .ok (.if_icmp .eq 8, 3) := by decide +kernel
theorem dX11_hops_62 : decode cX11_hops 62 = .ok (.bipush (-6), 2) := by decide +kernel
theorem dX11_hops_64 : decode cX11_hops 64 = .ok (.goto 4, 3) := by decide +kernel
theorem dX11_hops_67 : decode cX11_hops 67 = .ok (.iconst 0, 1) := by decide +kernel
theorem dX11_hops_68 : decode cX11_hops 68 = .ok (.istore 4, 2) := by decide +kernel
theorem dX11_hops_70 : decode cX11_hops 70 = .ok (.iload 4, 2) := by decide +kernel
theorem dX11_hops_72 : decode cX11_hops 72 = .ok (.ifCond .eq 10, 3) := by decide +kernel
theorem dX11_hops_75 : decode cX11_hops 75 = .ok (.aload_n 0, 1) := by decide +kernel
theorem dX11_hops_76 : decode cX11_hops 76 = .ok (.iload 4, 2) := by decide +kernel
theorem dX11_hops_78 : decode cX11_hops 78 = .ok (.invokevirtual 130, 3) := by decide +kernel
theorem dX11_hops_81 : decode cX11_hops 81 = .ok (.ireturn, 1) := by decide +kernel
theorem dX11_hops_82 : decode cX11_hops 82 = .ok (.aload_n 0, 1) := by decide +kernel
theorem dX11_hops_83 : decode cX11_hops 83 = .ok (.invokevirtual 181, 3) := by decide +kernel
theorem dX11_hops_86 : decode cX11_hops 86 = .ok (.iload_n 3, 1) := by decide +kernel
theorem dX11_hops_87 : decode cX11_hops 87 = .ok (.iconst (-1), 1) := by decide +kernel
theorem dX11_hops_88 : decode cX11_hops 88 = .ok (.if_icmp .eq 11, 3) := by decide +kernel
theorem dX11_hops_91 : decode cX11_hops 91 = .ok (.aload_n 0, 1) := by decide +kernel
theorem dX11_hops_92 : decode cX11_hops 92 = .ok (.iload_n 1, 1) := by decide +kernel
theorem dX11_hops_93 : decode cX11_hops 93 = .ok (.iload_n 2, 1) := by decide +kernel
theorem dX11_hops_94 : decode cX11_hops 94 = .ok (.iload_n 3, 1) := by decide +kernel
theorem dX11_hops_95 : decode cX11_hops 95 = .ok (.invokevirtual 308, 3) := by decide +kernel
theorem dX11_hops_98 : decode cX11_hops 98 = .ok (.ireturn, 1) := by decide +kernel
theorem dX11_hops_99 : decode cX11_hops 99 = .ok (.iconst 4, 1) := by decide +kernel
theorem dX11_hops_100 : decode cX11_hops 100 = .ok (.istore 5, 2) := by decide +kernel
theorem dX11_hops_102 : decode cX11_hops 102 = .ok (.iconst 3, 1) := by decide +kernel
theorem dX11_hops_103 : decode cX11_hops 103 = .ok (.istore 6, 2) := by decide +kernel
theorem dX11_hops_105 : decode cX11_hops 105 = .ok (.iload 6, 2) := by decide +kernel
theorem dX11_hops_107 : decode cX11_hops 107 = .ok (.ifCond .lt 32, 3) := by decide +kernel
theorem dX11_hops_110 : decode cX11_hops 110 = .ok (.aload_n 0, 1) := by decide +kernel
theorem dX11_hops_111 : decode cX11_hops 111 = .ok (.iload_n 1, 1) := by decide +kernel
theorem dX11_hops_112 : decode cX11_hops 112 = .ok (.iload_n 2, 1) := by decide +kernel
theorem dX11_hops_113 : decode cX11_hops 113 = .ok (.iload 6, 2) := by decide +kernel
theorem dX11_hops_115 : decode cX11_hops 115 = .ok (.invokevirtual 308, 3) := by decide +kernel
theorem dX11_hops_118 : decode cX11_hops 118 = .ok (.aload_n 0, 1) := by decide +kernel
theorem dX11_hops_119 : decode cX11_hops 119 = .ok (.iload_n 1, 1) := by decide +kernel
theorem dX11_hops_120 : decode cX11_hops 120 = .ok (.iload_n 2, 1) := by decide +kernel
theorem dX11_hops_121 : decode cX11_hops 121 = .ok (.iload 5, 2) := by decide +kernel
theorem dX11_hops_123 : decode cX11_hops 123 = .ok (.invokevirtual 308, 3) := by decide +kernel
theorem dX11_hops_126 : decode cX11_hops 126 = .ok (.if_icmp .ge 7, 3) := by decide +kernel
theorem dX11_hops_129 : decode cX11_hops 129 = .ok (.iload 6, 2) := by decide +kernel
theorem dX11_hops_131 : decode cX11_hops 131 = .ok (.istore 5, 2) := by decide +kernel
theorem dX11_hops_133 : decode cX11_hops 133 = .ok (.iinc 6 (-1), 3) := by decide +kernel
theorem dX11_hops_136 : decode cX11_hops 136 = .ok (.goto (-31), 3) := by decide +kernel
theorem dX11_hops_139 : decode cX11_hops 139 = .ok (.iload 5, 2) := by decide +kernel
theorem dX11_hops_141 : decode cX11_hops 141 = .ok (.ireturn, 1) := by decide +kernel
theorem dX11_passes_0 : decode cX11_passes 0 = .ok (.aload_n 0, 1) := by decide +kernel
theorem dX11_passes_1 : decode cX11_passes 1 = .ok (.aload_n 0, 1) := by decide +kernel
theorem dX11_passes_2 : decode cX11_passes 2 = .ok (.getfield 170, 3) := by decide +kernel
theorem dX11_passes_5 : decode cX11_passes 5 = .ok (.iconst 1, 1) := by decide +kernel
theorem dX11_passes_6 : decode cX11_passes 6 = .ok (.iadd, 1) := by decide +kernel
theorem dX11_passes_7 : decode cX11_passes 7 = .ok (.bipush 60, 2) := by decide +kernel
theorem dX11_passes_9 : decode cX11_passes 9 = .ok (.irem, 1) := by decide +kernel
theorem dX11_passes_10 : decode cX11_passes 10 = .ok (.putfield 170, 3) := by decide +kernel
theorem dX11_passes_13 : decode cX11_passes 13 = .ok (.aload_n 0, 1) := by decide +kernel
theorem dX11_passes_14 : decode cX11_passes 14 = .ok (.invokevirtual 181, 3) := by decide +kernel
theorem dX11_passes_17 : decode cX11_passes 17 = .ok (.iconst 0, 1) := by decide +kernel
theorem dX11_passes_18 : decode cX11_passes 18 = .ok (.istore_n 2, 1) := by decide +kernel
theorem dX11_passes_19 : decode cX11_passes 19 = .ok (.iload_n 2, 1) := by decide +kernel
theorem dX11_passes_20 : decode cX11_passes 20 = .ok (.aload_n 0, 1) := by decide +kernel
theorem dX11_passes_21 : decode cX11_passes 21 = .ok (.getfield 147, 3) := by decide +kernel
theorem dX11_passes_24 : decode cX11_passes 24 = .ok (.if_icmp .ge 43, 3) := by decide +kernel
theorem dX11_passes_27 : decode cX11_passes 27 = .ok (.aload_n 0, 1) := by decide +kernel
theorem dX11_passes_28 : decode cX11_passes 28 = .ok (.aload_n 0, 1) := by decide +kernel
theorem dX11_passes_29 : decode cX11_passes 29 = .ok (.getfield 56, 3) := by decide +kernel
theorem dX11_passes_32 : decode cX11_passes 32 = .ok (.iload_n 2, 1) := by decide +kernel
theorem dX11_passes_33 : decode cX11_passes 33 = .ok (.iaload, 1) := by decide +kernel
theorem dX11_passes_34 : decode cX11_passes 34 = .ok (.aload_n 0, 1) := by decide +kernel
theorem dX11_passes_35 : decode cX11_passes 35 = .ok (.getfield 47, 3) := by decide +kernel
theorem dX11_passes_38 : decode cX11_passes 38 = .ok (.iload_n 2, 1) := by decide +kernel
theorem dX11_passes_39 : decode cX11_passes 39 = .ok (.iaload, 1) := by decide +kernel
theorem dX11_passes_40 : decode cX11_passes 40 = .ok (.iload_n 1, 1) := by decide +kernel
theorem dX11_passes_41 : decode cX11_passes 41 = .ok (.invokevirtual 305, 3) := by decide +kernel
theorem dX11_passes_44 : decode cX11_passes 44 = .ok (.ifCond .eq 17, 3) := by decide +kernel
theorem dX11_passes_47 : decode cX11_passes 47 = .ok (.aload_n 0, 1) := by decide +kernel
theorem dX11_passes_48 : decode cX11_passes 48 = .ok (.getfield 56, 3) := by decide +kernel
theorem dX11_passes_51 : decode cX11_passes 51 = .ok (.iload_n 2, 1) := by decide +kernel
theorem dX11_passes_52 : decode cX11_passes 52 = .ok (.iconst 1, 1) := by decide +kernel
theorem dX11_passes_53 : decode cX11_passes 53 = .ok (.aload_n 0, 1) := by decide +kernel
theorem dX11_passes_54 : decode cX11_passes 54 = .ok (.getfield 56, 3) := by decide +kernel
theorem dX11_passes_57 : decode cX11_passes 57 = .ok (.iload_n 2, 1) := by decide +kernel
theorem dX11_passes_58 : decode cX11_passes 58 = .ok (.iaload, 1) := by decide +kernel
theorem dX11_passes_59 : decode cX11_passes 59 = .ok (.isub, 1) := by decide +kernel
theorem dX11_passes_60 : decode cX11_passes 60 = .ok (.iastore, 1) := by decide +kernel
theorem dX11_passes_61 : decode cX11_passes 61 = .ok (.iinc 2 1, 3) := by decide +kernel
theorem dX11_passes_64 : decode cX11_passes 64 = .ok (.goto (-45), 3) := by decide +kernel
theorem dX11_passes_67 : decode cX11_passes 67 = .ok (.aload_n 0, 1) := by decide +kernel
theorem dX11_passes_68 : decode cX11_passes 68 = .ok (.invokevirtual 260, 3) := by decide +kernel
theorem dX11_passes_71 : decode cX11_passes 71 = .ok (.ireturn, 1) := by decide +kernel
theorem dX11_evening_0 : decode cX11_evening 0 = .ok (.aload_n 0, 1) := by decide +kernel
theorem dX11_evening_1 : decode cX11_evening 1 = .ok (.iload_n 1, 1) := by decide +kernel
theorem dX11_evening_2 : decode cX11_evening 2 = .ok (.iconst 1, 1) := by decide +kernel
theorem dX11_evening_3 : decode cX11_evening 3 = .ok (.bipush 60, 2) := by decide +kernel
theorem dX11_evening_5 : decode cX11_evening 5 = .ok (.invokevirtual 150, 3) := by decide +kernel
theorem dX11_evening_8 : decode cX11_evening 8 = .ok (.ifCond .eq 13, 3) := by decide +kernel
theorem dX11_evening_11 : decode cX11_evening 11 = .ok (.aload_n 0, 1) := by decide +kernel
theorem dX11_evening_12 : decode cX11_evening 12 = .ok (.iload_n 2, 1) := by decide +kernel
theorem dX11_evening_13 : decode cX11_evening 13 = .ok (.iconst 0, 1) := by decide +kernel
theorem dX11_evening_14 : decode cX11_evening 14 = .ok (.iconst 4, 1) := by decide +kernel
theorem dX11_evening_15 : decode cX11_evening 15 = .ok (.invokevirtual 150, 3) := by decide +kernel
theorem dX11_evening_18 : decode cX11_evening 18 = .ok (.ifCond .ne 10, 3) := by decide +kernel
theorem dX11_evening_21 : decode cX11_evening 21 = .ok (.aload_n 0, 1) := by decide +kernel
theorem dX11_evening_22 : decode cX11_evening 22 = .ok (.bipush (-6), 2) := by decide +kernel
theorem dX11_evening_24 : decode cX11_evening 24 = .ok (.invokevirtual 130, 3) := by decide +kernel
theorem dX11_evening_27 : decode cX11_evening 27 = .ok (.ireturn, 1) := by decide +kernel
theorem dX11_evening_28 : decode cX11_evening 28 = .ok (.iconst 0, 1) := by decide +kernel
theorem dX11_evening_29 : decode cX11_evening 29 = .ok (.istore_n 3, 1) := by decide +kernel
theorem dX11_evening_30 : decode cX11_evening 30 = .ok (.iconst 0, 1) := by decide +kernel
theorem dX11_evening_31 : decode cX11_evening 31 = .ok (.istore 4, 2) := by decide +kernel
theorem dX11_evening_33 : decode cX11_evening 33 = .ok (.iload 4, 2) := by decide +kernel
theorem dX11_evening_35 : decode cX11_evening 35 = .ok (.iload_n 1, 1) := by decide +kernel
theorem dX11_evening_36 : decode cX11_evening 36 = .ok (.if_icmp .ge 15, 3) := by decide +kernel
theorem dX11_evening_39 : decode cX11_evening 39 = .ok (.aload_n 0, 1) := by decide +kernel
theorem dX11_evening_40 : decode cX11_evening 40 = .ok (.iload_n 2, 1) := by decide +kernel
theorem dX11_evening_41 : decode cX11_evening 41 = .ok (.invokevirtual 311, 3) := by decide +kernel
theorem dX11_evening_44 : decode cX11_evening 44 = .ok (.istore_n 3, 1) := by decide +kernel
theorem dX11_evening_45 : decode cX11_evening 45 = .ok (.iinc 4 1, 3) := by decide +kernel
theorem dX11_evening_48 : decode cX11_evening 48 = .ok (.goto (-15), 3) := by decide +kernel
theorem dX11_evening_51 : decode cX11_evening 51 = .ok (.iload_n 3, 1) := by decide +kernel
theorem dX11_evening_52 : decode cX11_evening 52 = .ok (.ireturn, 1) := by decide +kernel
theorem dX11_draw_0 : decode cX11_draw 0 = .ok (.aload_n 0, 1) := by decide +kernel
theorem dX11_draw_1 : decode cX11_draw 1 = .ok (.aload_n 0, 1) := by decide +kernel
theorem dX11_draw_2 : decode cX11_draw 2 = .ok (.getfield 19, 3) := by decide +kernel
theorem dX11_draw_5 : decode cX11_draw 5 = .ok (.ldc_w 314, 3) := by decide +kernel
theorem dX11_draw_8 : decode cX11_draw 8 = .ok (.imul, 1) := by decide +kernel
theorem dX11_draw_9 : decode cX11_draw 9 = .ok (.sipush 12345, 3) := by decide +kernel
theorem dX11_draw_12 : decode cX11_draw 12 = .ok (.iadd, 1) := by decide +kernel
theorem dX11_draw_13 : decode cX11_draw 13 = .ok (.putfield 19, 3) := by decide +kernel
theorem dX11_draw_16 : decode cX11_draw 16 = .ok (.aload_n 0, 1) := by decide +kernel
theorem dX11_draw_17 : decode cX11_draw 17 = .ok (.getfield 19, 3) := by decide +kernel
theorem dX11_draw_20 : decode cX11_draw 20 = .ok (.bipush 16, 2) := by decide +kernel
theorem dX11_draw_22 : decode cX11_draw 22 = .ok (.iushr, 1) := by decide +kernel
theorem dX11_draw_23 : decode cX11_draw 23 = .ok (.iload_n 1, 1) := by decide +kernel
theorem dX11_draw_24 : decode cX11_draw 24 = .ok (.irem, 1) := by decide +kernel
theorem dX11_draw_25 : decode cX11_draw 25 = .ok (.ireturn, 1) := by decide +kernel
theorem dX11_weeks_0 : decode cX11_weeks 0 = .ok (.aload_n 0, 1) := by decide +kernel
theorem dX11_weeks_1 : decode cX11_weeks 1 = .ok (.iload_n 1, 1) := by decide +kernel
theorem dX11_weeks_2 : decode cX11_weeks 2 = .ok (.iconst 1, 1) := by decide +kernel
theorem dX11_weeks_3 : decode cX11_weeks 3 = .ok (.bipush 60, 2) := by decide +kernel
theorem dX11_weeks_5 : decode cX11_weeks 5 = .ok (.invokevirtual 150, 3) := by decide +kernel
theorem dX11_weeks_8 : decode cX11_weeks 8 = .ok (.ifCond .ne 10, 3) := by decide +kernel
theorem dX11_weeks_11 : decode cX11_weeks 11 = .ok (.aload_n 0, 1) := by decide +kernel
theorem dX11_weeks_12 : decode cX11_weeks 12 = .ok (.bipush (-6), 2) := by decide +kernel
theorem dX11_weeks_14 : decode cX11_weeks 14 = .ok (.invokevirtual 130, 3) := by decide +kernel
theorem dX11_weeks_17 : decode cX11_weeks 17 = .ok (.ireturn, 1) := by decide +kernel
theorem dX11_weeks_18 : decode cX11_weeks 18 = .ok (.iconst 0, 1) := by decide +kernel
theorem dX11_weeks_19 : decode cX11_weeks 19 = .ok (.istore_n 2, 1) := by decide +kernel
theorem dX11_weeks_20 : decode cX11_weeks 20 = .ok (.iconst 0, 1) := by decide +kernel
theorem dX11_weeks_21 : decode cX11_weeks 21 = .ok (.istore_n 3, 1) := by decide +kernel
theorem dX11_weeks_22 : decode cX11_weeks 22 = .ok (.iload_n 3, 1) := by decide +kernel
theorem dX11_weeks_23 : decode cX11_weeks 23 = .ok (.iload_n 1, 1) := by decide +kernel
theorem dX11_weeks_24 : decode cX11_weeks 24 = .ok (.if_icmp .ge 160, 3) := by decide +kernel
theorem dX11_weeks_27 : decode cX11_weeks 27 = .ok (.aload_n 0, 1) := by decide +kernel
theorem dX11_weeks_28 : decode cX11_weeks 28 = .ok (.iconst 4, 1) := by decide +kernel
theorem dX11_weeks_29 : decode cX11_weeks 29 = .ok (.invokevirtual 315, 3) := by decide +kernel
theorem dX11_weeks_32 : decode cX11_weeks 32 = .ok (.istore 4, 2) := by decide +kernel
theorem dX11_weeks_34 : decode cX11_weeks 34 = .ok (.iload 4, 2) := by decide +kernel
theorem dX11_weeks_36 : decode cX11_weeks 36 = .ok (.ifCond .ne 54, 3) := by decide +kernel
theorem dX11_weeks_39 : decode cX11_weeks 39 = .ok (.aload_n 0, 1) := by decide +kernel
theorem dX11_weeks_40 : decode cX11_weeks 40 = .ok (.getfield 147, 3) := by decide +kernel
theorem dX11_weeks_43 : decode cX11_weeks 43 = .ok (.ifCond .le 47, 3) := by decide +kernel
theorem dX11_weeks_46 : decode cX11_weeks 46 = .ok (.aload_n 0, 1) := by decide +kernel
theorem dX11_weeks_47 : decode cX11_weeks 47 = .ok (.aload_n 0, 1) := by decide +kernel
theorem dX11_weeks_48 : decode cX11_weeks 48 = .ok (.getfield 147, 3) := by decide +kernel
theorem dX11_weeks_51 : decode cX11_weeks 51 = .ok (.invokevirtual 315, 3) := by decide +kernel
theorem dX11_weeks_54 : decode cX11_weeks 54 = .ok (.istore 5, 2) := by decide +kernel
theorem dX11_weeks_56 : decode cX11_weeks 56 = .ok (.aload_n 0, 1) := by decide +kernel
theorem dX11_weeks_57 : decode cX11_weeks 57 = .ok (.aload_n 0, 1) := by decide +kernel
theorem dX11_weeks_58 : decode cX11_weeks 58 = .ok (.getfield 7, 3) := by decide +kernel
theorem dX11_weeks_61 : decode cX11_weeks 61 = .ok (.invokevirtual 315, 3) := by decide +kernel
theorem dX11_weeks_64 : decode cX11_weeks 64 = .ok (.istore 6, 2) := by decide +kernel
theorem dX11_weeks_66 : decode cX11_weeks 66 = .ok (.aload_n 0, 1) := by decide +kernel
theorem dX11_weeks_67 : decode cX11_weeks 67 = .ok (.getfield 47, 3) := by decide +kernel
theorem dX11_weeks_70 : decode cX11_weeks 70 = .ok (.iload 5, 2) := by decide +kernel
theorem dX11_weeks_72 : decode cX11_weeks 72 = .ok (.bipush 10, 2) := by decide +kernel
theorem dX11_weeks_74 : decode cX11_weeks 74 = .ok (.iload 6, 2) := by decide +kernel
theorem dX11_weeks_76 : decode cX11_weeks 76 = .ok (.imul, 1) := by decide +kernel
theorem dX11_weeks_77 : decode cX11_weeks 77 = .ok (.aload_n 0, 1) := by decide +kernel
theorem dX11_weeks_78 : decode cX11_weeks 78 = .ok (.aload_n 0, 1) := by decide +kernel
theorem dX11_weeks_79 : decode cX11_weeks 79 = .ok (.getfield 7, 3) := by decide +kernel
theorem dX11_weeks_82 : decode cX11_weeks 82 = .ok (.invokevirtual 315, 3) := by decide +kernel
theorem dX11_weeks_85 : decode cX11_weeks 85 = .ok (.iadd, 1) := by decide +kernel
theorem dX11_weeks_86 : decode cX11_weeks 86 = .ok (.iastore, 1) := by decide +kernel
theorem dX11_weeks_87 : decode cX11_weeks 87 = .ok (.goto 83, 3) := by decide +kernel
theorem dX11_weeks_90 : decode cX11_weeks 90 = .ok (.iload 4, 2) := by decide +kernel
theorem dX11_weeks_92 : decode cX11_weeks 92 = .ok (.iconst 1, 1) := by decide +kernel
theorem dX11_weeks_93 : decode cX11_weeks 93 = .ok (.if_icmp .ne 39, 3) := by decide +kernel
theorem dX11_weeks_96 : decode cX11_weeks 96 = .ok (.aload_n 0, 1) := by decide +kernel
theorem dX11_weeks_97 : decode cX11_weeks 97 = .ok (.getfield 123, 3) := by decide +kernel
theorem dX11_weeks_100 : decode cX11_weeks 100 = .ok (.ifCond .le 32, 3) := by decide +kernel
theorem dX11_weeks_103 : decode cX11_weeks 103 = .ok (.aload_n 0, 1) := by decide +kernel
theorem dX11_weeks_104 : decode cX11_weeks 104 = .ok (.aload_n 0, 1) := by decide +kernel
theorem dX11_weeks_105 : decode cX11_weeks 105 = .ok (.getfield 123, 3) := by decide +kernel
theorem dX11_weeks_108 : decode cX11_weeks 108 = .ok (.invokevirtual 315, 3) := by decide +kernel
theorem dX11_weeks_111 : decode cX11_weeks 111 = .ok (.istore 5, 2) := by decide +kernel
theorem dX11_weeks_113 : decode cX11_weeks 113 = .ok (.aload_n 0, 1) := by decide +kernel
theorem dX11_weeks_114 : decode cX11_weeks 114 = .ok (.getfield 38, 3) := by decide +kernel
theorem dX11_weeks_117 : decode cX11_weeks 117 = .ok (.iload 5, 2) := by decide +kernel
theorem dX11_weeks_119 : decode cX11_weeks 119 = .ok (.iconst 1, 1) := by decide +kernel
theorem dX11_weeks_120 : decode cX11_weeks 120 = .ok (.aload_n 0, 1) := by decide +kernel
theorem dX11_weeks_121 : decode cX11_weeks 121 = .ok (.getfield 38, 3) := by decide +kernel
theorem dX11_weeks_124 : decode cX11_weeks 124 = .ok (.iload 5, 2) := by decide +kernel
theorem dX11_weeks_126 : decode cX11_weeks 126 = .ok (.iaload, 1) := by decide +kernel
theorem dX11_weeks_127 : decode cX11_weeks 127 = .ok (.isub, 1) := by decide +kernel
theorem dX11_weeks_128 : decode cX11_weeks 128 = .ok (.iastore, 1) := by decide +kernel
theorem dX11_weeks_129 : decode cX11_weeks 129 = .ok (.goto 41, 3) := by decide +kernel
theorem dX11_weeks_132 : decode cX11_weeks 132 = .ok (.iload 4, 2) := by decide +kernel
theorem dX11_weeks_134 : decode cX11_weeks 134 = .ok (.iconst 2, 1) := by decide +kernel
theorem dX11_weeks_135 : decode cX11_weeks 135 = .ok (.if_icmp .ne 35, 3) := by decide +kernel
theorem dX11_weeks_138 : decode cX11_weeks 138 = .ok (.aload_n 0, 1) := by decide +kernel
theorem dX11_weeks_139 : decode cX11_weeks 139 = .ok (.getfield 144, 3) := by decide +kernel
theorem dX11_weeks_142 : decode cX11_weeks 142 = .ok (.ifCond .le 28, 3) := by decide +kernel
theorem dX11_weeks_145 : decode cX11_weeks 145 = .ok (.aload_n 0, 1) := by decide +kernel
theorem dX11_weeks_146 : decode cX11_weeks 146 = .ok (.aload_n 0, 1) := by decide +kernel
theorem dX11_weeks_147 : decode cX11_weeks 147 = .ok (.getfield 144, 3) := by decide +kernel
theorem dX11_weeks_150 : decode cX11_weeks 150 = .ok (.invokevirtual 315, 3) := by decide +kernel
theorem dX11_weeks_153 : decode cX11_weeks 153 = .ok (.istore 5, 2) := by decide +kernel
theorem dX11_weeks_155 : decode cX11_weeks 155 = .ok (.aload_n 0, 1) := by decide +kernel
theorem dX11_weeks_156 : decode cX11_weeks 156 = .ok (.getfield 41, 3) := by decide +kernel
theorem dX11_weeks_159 : decode cX11_weeks 159 = .ok (.iload 5, 2) := by decide +kernel
theorem dX11_weeks_161 : decode cX11_weeks 161 = .ok (.iconst 1, 1) := by decide +kernel
theorem dX11_weeks_162 : decode cX11_weeks 162 = .ok (.aload_n 0, 1) := by decide +kernel
theorem dX11_weeks_163 : decode cX11_weeks 163 = .ok (.bipush 13, 2) := by decide +kernel
theorem dX11_weeks_165 : decode cX11_weeks 165 = .ok (.invokevirtual 315, 3) := by decide +kernel
theorem dX11_weeks_168 : decode cX11_weeks 168 = .ok (.iadd, 1) := by decide +kernel
theorem dX11_weeks_169 : decode cX11_weeks 169 = .ok (.iastore, 1) := by decide +kernel
theorem dX11_weeks_170 : decode cX11_weeks 170 = .ok (.iload_n 2, 1) := by decide +kernel
theorem dX11_weeks_171 : decode cX11_weeks 171 = .ok (.aload_n 0, 1) := by decide +kernel
theorem dX11_weeks_172 : decode cX11_weeks 172 = .ok (.iconst 1, 1) := by decide +kernel
theorem dX11_weeks_173 : decode cX11_weeks 173 = .ok (.invokevirtual 311, 3) := by decide +kernel
theorem dX11_weeks_176 : decode cX11_weeks 176 = .ok (.iadd, 1) := by decide +kernel
theorem dX11_weeks_177 : decode cX11_weeks 177 = .ok (.istore_n 2, 1) := by decide +kernel
theorem dX11_weeks_178 : decode cX11_weeks 178 = .ok (.iinc 3 1, 3) := by decide +kernel
theorem dX11_weeks_181 : decode cX11_weeks 181 = .ok (.goto (-159), 3) := by decide +kernel
theorem dX11_weeks_184 : decode cX11_weeks 184 = .ok (.iload_n 2, 1) := by decide +kernel
theorem dX11_weeks_185 : decode cX11_weeks 185 = .ok (.ireturn, 1) := by decide +kernel
theorem dX11_seed_0 : decode cX11_seed 0 = .ok (.aload_n 0, 1) := by decide +kernel
theorem dX11_seed_1 : decode cX11_seed 1 = .ok (.getfield 19, 3) := by decide +kernel
theorem dX11_seed_4 : decode cX11_seed 4 = .ok (.istore_n 2, 1) := by decide +kernel
theorem dX11_seed_5 : decode cX11_seed 5 = .ok (.aload_n 0, 1) := by decide +kernel
theorem dX11_seed_6 : decode cX11_seed 6 = .ok (.iload_n 1, 1) := by decide +kernel
theorem dX11_seed_7 : decode cX11_seed 7 = .ok (.putfield 19, 3) := by decide +kernel
theorem dX11_seed_10 : decode cX11_seed 10 = .ok (.iload_n 2, 1) := by decide +kernel
theorem dX11_seed_11 : decode cX11_seed 11 = .ok (.ireturn, 1) := by decide +kernel
theorem dX11_body_0 : decode cX11_body 0 = .ok (.aload_n 0, 1) := by decide +kernel
theorem dX11_body_1 : decode cX11_body 1 = .ok (.getfield 318, 3) := by decide +kernel
theorem dX11_body_4 : decode cX11_body 4 = .ok (.bipush 20, 2) := by decide +kernel
theorem dX11_body_6 : decode cX11_body 6 = .ok (.if_icmp .ge 13, 3) := by decide +kernel
theorem dX11_body_9 : decode cX11_body 9 = .ok (.aload_n 0, 1) := by decide +kernel
theorem dX11_body_10 : decode cX11_body 10 = .ok (.getfield 120, 3) := by decide +kernel
theorem dX11_body_13 : decode cX11_body 13 = .ok (.aload_n 0, 1) := by decide +kernel
theorem dX11_body_14 : decode cX11_body 14 = .ok (.getfield 318, 3) := by decide +kernel
theorem dX11_body_17 : decode cX11_body 17 = .ok (.iload_n 1, 1) := by decide +kernel
theorem dX11_body_18 : decode cX11_body 18 = .ok (.iastore, 1) := by decide +kernel
theorem dX11_body_19 : decode cX11_body 19 = .ok (.aload_n 0, 1) := by decide +kernel
theorem dX11_body_20 : decode cX11_body 20 = .ok (.dup, 1) := by decide +kernel
theorem dX11_body_21 : decode cX11_body 21 = .ok (.getfield 318, 3) := by decide +kernel
theorem dX11_body_24 : decode cX11_body 24 = .ok (.iconst 1, 1) := by decide +kernel
theorem dX11_body_25 : decode cX11_body 25 = .ok (.iadd, 1) := by decide +kernel
theorem dX11_body_26 : decode cX11_body 26 = .ok (.putfield 318, 3) := by decide +kernel
theorem dX11_body_29 : decode cX11_body 29 = .ok (.return_, 1) := by decide +kernel
theorem dX11_standing_0 : decode cX11_standing 0 = .ok (.aload_n 0, 1) := by decide +kernel
theorem dX11_standing_1 : decode cX11_standing 1 = .ok (.getfield 29, 3) := by decide +kernel
theorem dX11_standing_4 : decode cX11_standing 4 = .ok (.iload_n 1, 1) := by decide +kernel
theorem dX11_standing_5 : decode cX11_standing 5 = .ok (.iaload, 1) := by decide +kernel
theorem dX11_standing_6 : decode cX11_standing 6 = .ok (.istore_n 3, 1) := by decide +kernel
theorem dX11_standing_7 : decode cX11_standing 7 = .ok (.iload_n 3, 1) := by decide +kernel
theorem dX11_standing_8 : decode cX11_standing 8 = .ok (.bipush 6, 2) := by decide +kernel
theorem dX11_standing_10 : decode cX11_standing 10 = .ok (.if_icmp .ne 9, 3) := by decide +kernel
theorem dX11_standing_13 : decode cX11_standing 13 = .ok (.aload_n 0, 1) := by decide +kernel
theorem dX11_standing_14 : decode cX11_standing 14 = .ok (.bipush 70, 2) := by decide +kernel
theorem dX11_standing_16 : decode cX11_standing 16 = .ok (.invokevirtual 321, 3) := by decide +kernel
theorem dX11_standing_19 : decode cX11_standing 19 = .ok (.iload_n 3, 1) := by decide +kernel
theorem dX11_standing_20 : decode cX11_standing 20 = .ok (.iconst 4, 1) := by decide +kernel
theorem dX11_standing_21 : decode cX11_standing 21 = .ok (.if_icmp .eq 9, 3) := by decide +kernel
theorem dX11_standing_24 : decode cX11_standing 24 = .ok (.iload_n 3, 1) := by decide +kernel
theorem dX11_standing_25 : decode cX11_standing 25 = .ok (.bipush 6, 2) := by decide +kernel
theorem dX11_standing_27 : decode cX11_standing 27 = .ok (.if_icmp .ne 9, 3) := by decide +kernel
theorem dX11_standing_30 : decode cX11_standing 30 = .ok (.aload_n 0, 1) := by decide +kernel
theorem dX11_standing_31 : decode cX11_standing 31 = .ok (.bipush 51, 2) := by decide +kernel
theorem dX11_standing_33 : decode cX11_standing 33 = .ok (.invokevirtual 321, 3) := by decide +kernel
theorem dX11_standing_36 : decode cX11_standing 36 = .ok (.iload_n 3, 1) := by decide +kernel
theorem dX11_standing_37 : decode cX11_standing 37 = .ok (.iconst 1, 1) := by decide +kernel
theorem dX11_standing_38 : decode cX11_standing 38 = .ok (.if_icmp .eq 8, 3) := by decide +kernel
theorem dX11_standing_41 : decode cX11_standing 41 = .ok (.iload_n 3, 1) := by decide +kernel
theorem dX11_standing_42 : decode cX11_standing 42 = .ok (.iconst 3, 1) := by decide +kernel
theorem dX11_standing_43 : decode cX11_standing 43 = .ok (.if_icmp .ne 9, 3) := by decide +kernel
theorem dX11_standing_46 : decode cX11_standing 46 = .ok (.aload_n 0, 1) := by decide +kernel
theorem dX11_standing_47 : decode cX11_standing 47 = .ok (.bipush 20, 2) := by decide +kernel
theorem dX11_standing_49 : decode cX11_standing 49 = .ok (.invokevirtual 321, 3) := by decide +kernel
theorem dX11_standing_52 : decode cX11_standing 52 = .ok (.aload_n 0, 1) := by decide +kernel
theorem dX11_standing_53 : decode cX11_standing 53 = .ok (.bipush 10, 2) := by decide +kernel
theorem dX11_standing_55 : decode cX11_standing 55 = .ok (.invokevirtual 321, 3) := by decide +kernel
theorem dX11_standing_58 : decode cX11_standing 58 = .ok (.iload_n 2, 1) := by decide +kernel
theorem dX11_standing_59 : decode cX11_standing 59 = .ok (.iload_n 1, 1) := by decide +kernel
theorem dX11_standing_60 : decode cX11_standing 60 = .ok (.iadd, 1) := by decide +kernel
theorem dX11_standing_61 : decode cX11_standing 61 = .ok (.istore 4, 2) := by decide +kernel
theorem dX11_standing_63 : decode cX11_standing 63 = .ok (.iload_n 3, 1) := by decide +kernel
theorem dX11_standing_64 : decode cX11_standing 64 = .ok (.iconst 1, 1) := by decide +kernel
theorem dX11_standing_65 : decode cX11_standing 65 = .ok (.if_icmp .eq 8, 3) := by decide +kernel
theorem dX11_standing_68 : decode cX11_standing 68 = .ok (.iload_n 3, 1) := by decide +kernel
theorem dX11_standing_69 : decode cX11_standing 69 = .ok (.iconst 3, 1) := by decide +kernel
theorem dX11_standing_70 : decode cX11_standing 70 = .ok (.if_icmp .ne 14, 3) := by decide +kernel
theorem dX11_standing_73 : decode cX11_standing 73 = .ok (.iload 4, 2) := by decide +kernel
theorem dX11_standing_75 : decode cX11_standing 75 = .ok (.aload_n 0, 1) := by decide +kernel
theorem dX11_standing_76 : decode cX11_standing 76 = .ok (.getfield 32, 3) := by decide +kernel
theorem dX11_standing_79 : decode cX11_standing 79 = .ok (.iload_n 1, 1) := by decide +kernel
theorem dX11_standing_80 : decode cX11_standing 80 = .ok (.iaload, 1) := by decide +kernel
theorem dX11_standing_81 : decode cX11_standing 81 = .ok (.iadd, 1) := by decide +kernel
theorem dX11_standing_82 : decode cX11_standing 82 = .ok (.istore 4, 2) := by decide +kernel
theorem dX11_standing_84 : decode cX11_standing 84 = .ok (.iload_n 3, 1) := by decide +kernel
theorem dX11_standing_85 : decode cX11_standing 85 = .ok (.iconst 4, 1) := by decide +kernel
theorem dX11_standing_86 : decode cX11_standing 86 = .ok (.if_icmp .eq 9, 3) := by decide +kernel
theorem dX11_standing_89 : decode cX11_standing 89 = .ok (.iload_n 3, 1) := by decide +kernel
theorem dX11_standing_90 : decode cX11_standing 90 = .ok (.bipush 6, 2) := by decide +kernel
theorem dX11_standing_92 : decode cX11_standing 92 = .ok (.if_icmp .ne 9, 3) := by decide +kernel
theorem dX11_standing_95 : decode cX11_standing 95 = .ok (.iload 4, 2) := by decide +kernel
theorem dX11_standing_97 : decode cX11_standing 97 = .ok (.iload_n 1, 1) := by decide +kernel
theorem dX11_standing_98 : decode cX11_standing 98 = .ok (.isub, 1) := by decide +kernel
theorem dX11_standing_99 : decode cX11_standing 99 = .ok (.istore 4, 2) := by decide +kernel
theorem dX11_standing_101 : decode cX11_standing 101 = .ok (.iload_n 3, 1) := by decide +kernel
theorem dX11_standing_102 : decode cX11_standing 102 = .ok (.bipush 6, 2) := by decide +kernel
theorem dX11_standing_104 : decode cX11_standing 104 = .ok (.if_icmp .ne 10, 3) := by decide +kernel
theorem dX11_standing_107 : decode cX11_standing 107 = .ok (.iload 4, 2) := by decide +kernel
theorem dX11_standing_109 : decode cX11_standing 109 = .ok (.iconst 2, 1) := by decide +kernel
theorem dX11_standing_110 : decode cX11_standing 110 = .ok (.imul, 1) := by decide +kernel
theorem dX11_standing_111 : decode cX11_standing 111 = .ok (.goto 5, 3) := by decide +kernel
theorem dX11_standing_114 : decode cX11_standing 114 = .ok (.iload 4, 2) := by decide +kernel
theorem dX11_standing_116 : decode cX11_standing 116 = .ok (.ireturn, 1) := by decide +kernel
theorem dX11_taking_0 : decode cX11_taking 0 = .ok (.aload_n 0, 1) := by decide +kernel
theorem dX11_taking_1 : decode cX11_taking 1 = .ok (.getfield 29, 3) := by decide +kernel
theorem dX11_taking_4 : decode cX11_taking 4 = .ok (.iload_n 1, 1) := by decide +kernel
theorem dX11_taking_5 : decode cX11_taking 5 = .ok (.iaload, 1) := by decide +kernel
theorem dX11_taking_6 : decode cX11_taking 6 = .ok (.istore_n 3, 1) := by decide +kernel
theorem dX11_taking_7 : decode cX11_taking 7 = .ok (.iload_n 2, 1) := by decide +kernel
theorem dX11_taking_8 : decode cX11_taking 8 = .ok (.istore 4, 2) := by decide +kernel
theorem dX11_taking_10 : decode cX11_taking 10 = .ok (.iload_n 3, 1) := by decide +kernel
theorem dX11_taking_11 : decode cX11_taking 11 = .ok (.bipush 6, 2) := by decide +kernel
theorem dX11_taking_13 : decode cX11_taking 13 = .ok (.if_icmp .ne 19, 3) := by decide +kernel
theorem dX11_taking_16 : decode cX11_taking 16 = .ok (.aload_n 0, 1) := by decide +kernel
theorem dX11_taking_17 : decode cX11_taking 17 = .ok (.bipush 71, 2) := by decide +kernel
theorem dX11_taking_19 : decode cX11_taking 19 = .ok (.invokevirtual 321, 3) := by decide +kernel
theorem dX11_taking_22 : decode cX11_taking 22 = .ok (.iload_n 2, 1) := by decide +kernel
theorem dX11_taking_23 : decode cX11_taking 23 = .ok (.aload_n 0, 1) := by decide +kernel
theorem dX11_taking_24 : decode cX11_taking 24 = .ok (.getfield 32, 3) := by decide +kernel
theorem dX11_taking_27 : decode cX11_taking 27 = .ok (.iload_n 1, 1) := by decide +kernel
theorem dX11_taking_28 : decode cX11_taking 28 = .ok (.iaload, 1) := by decide +kernel
theorem dX11_taking_29 : decode cX11_taking 29 = .ok (.isub, 1) := by decide +kernel
theorem dX11_taking_30 : decode cX11_taking 30 = .ok (.istore 4, 2) := by decide +kernel
theorem dX11_taking_32 : decode cX11_taking 32 = .ok (.iload_n 3, 1) := by decide +kernel
theorem dX11_taking_33 : decode cX11_taking 33 = .ok (.iconst 3, 1) := by decide +kernel
theorem dX11_taking_34 : decode cX11_taking 34 = .ok (.if_icmp .ne 14, 3) := by decide +kernel
theorem dX11_taking_37 : decode cX11_taking 37 = .ok (.aload_n 0, 1) := by decide +kernel
theorem dX11_taking_38 : decode cX11_taking 38 = .ok (.bipush 40, 2) := by decide +kernel
theorem dX11_taking_40 : decode cX11_taking 40 = .ok (.invokevirtual 321, 3) := by decide +kernel
theorem dX11_taking_43 : decode cX11_taking 43 = .ok (.iload_n 2, 1) := by decide +kernel
theorem dX11_taking_44 : decode cX11_taking 44 = .ok (.iconst 1, 1) := by decide +kernel
theorem dX11_taking_45 : decode cX11_taking 45 = .ok (.iadd, 1) := by decide +kernel
theorem dX11_taking_46 : decode cX11_taking 46 = .ok (.istore 4, 2) := by decide +kernel
theorem dX11_taking_48 : decode cX11_taking 48 = .ok (.iload_n 3, 1) := by decide +kernel
theorem dX11_taking_49 : decode cX11_taking 49 = .ok (.iconst 2, 1) := by decide +kernel
theorem dX11_taking_50 : decode cX11_taking 50 = .ok (.if_icmp .eq 8, 3) := by decide +kernel
theorem dX11_taking_53 : decode cX11_taking 53 = .ok (.iload_n 3, 1) := by decide +kernel
theorem dX11_taking_54 : decode cX11_taking 54 = .ok (.iconst 5, 1) := by decide +kernel
theorem dX11_taking_55 : decode cX11_taking 55 = .ok (.if_icmp .ne 7, 3) := by decide +kernel
theorem dX11_taking_58 : decode cX11_taking 58 = .ok (.iconst 1, 1) := by decide +kernel
theorem dX11_taking_59 : decode cX11_taking 59 = .ok (.goto 4, 3) := by decide +kernel
theorem dX11_taking_62 : decode cX11_taking 62 = .ok (.iconst 0, 1) := by decide +kernel
theorem dX11_taking_63 : decode cX11_taking 63 = .ok (.istore 5, 2) := by decide +kernel
theorem dX11_taking_65 : decode cX11_taking 65 = .ok (.iload 5, 2) := by decide +kernel
theorem dX11_taking_67 : decode cX11_taking 67 = .ok (.ifCond .eq 9, 3) := by decide +kernel
theorem dX11_taking_70 : decode cX11_taking 70 = .ok (.aload_n 0, 1) := by decide +kernel
theorem dX11_taking_71 : decode cX11_taking 71 = .ok (.bipush 30, 2) := by decide +kernel
theorem dX11_taking_73 : decode cX11_taking 73 = .ok (.invokevirtual 321, 3) := by decide +kernel
theorem dX11_taking_76 : decode cX11_taking 76 = .ok (.aload_n 0, 1) := by decide +kernel
theorem dX11_taking_77 : decode cX11_taking 77 = .ok (.bipush 11, 2) := by decide +kernel
theorem dX11_taking_79 : decode cX11_taking 79 = .ok (.invokevirtual 321, 3) := by decide +kernel
theorem dX11_taking_82 : decode cX11_taking 82 = .ok (.aload_n 0, 1) := by decide +kernel
theorem dX11_taking_83 : decode cX11_taking 83 = .ok (.iload_n 1, 1) := by decide +kernel
theorem dX11_taking_84 : decode cX11_taking 84 = .ok (.iload 4, 2) := by decide +kernel
theorem dX11_taking_86 : decode cX11_taking 86 = .ok (.invokevirtual 325, 3) := by decide +kernel
theorem dX11_taking_89 : decode cX11_taking 89 = .ok (.iconst 2, 1) := by decide +kernel
theorem dX11_taking_90 : decode cX11_taking 90 = .ok (.imul, 1) := by decide +kernel
theorem dX11_taking_91 : decode cX11_taking 91 = .ok (.istore 6, 2) := by decide +kernel
theorem dX11_taking_93 : decode cX11_taking 93 = .ok (.iload 5, 2) := by decide +kernel
theorem dX11_taking_95 : decode cX11_taking 95 = .ok (.ifCond .eq 10, 3) := by decide +kernel
theorem dX11_taking_98 : decode cX11_taking 98 = .ok (.iload 6, 2) := by decide +kernel
theorem dX11_taking_100 : decode cX11_taking 100 = .ok (.iconst 3, 1) := by decide +kernel
theorem dX11_taking_101 : decode cX11_taking 101 = .ok (.imul, 1) := by decide +kernel
theorem dX11_taking_102 : decode cX11_taking 102 = .ok (.goto 5, 3) := by decide +kernel
theorem dX11_taking_105 : decode cX11_taking 105 = .ok (.iload 6, 2) := by decide +kernel
theorem dX11_taking_107 : decode cX11_taking 107 = .ok (.ireturn, 1) := by decide +kernel
theorem dX11_humsTo_0 : decode cX11_humsTo 0 = .ok (.aload_n 0, 1) := by decide +kernel
theorem dX11_humsTo_1 : decode cX11_humsTo 1 = .ok (.getfield 29, 3) := by decide +kernel
theorem dX11_humsTo_4 : decode cX11_humsTo 4 = .ok (.iload_n 1, 1) := by decide +kernel
theorem dX11_humsTo_5 : decode cX11_humsTo 5 = .ok (.iaload, 1) := by decide +kernel
theorem dX11_humsTo_6 : decode cX11_humsTo 6 = .ok (.istore_n 3, 1) := by decide +kernel
theorem dX11_humsTo_7 : decode cX11_humsTo 7 = .ok (.iload_n 3, 1) := by decide +kernel
theorem dX11_humsTo_8 : decode cX11_humsTo 8 = .ok (.iconst 4, 1) := by decide +kernel
theorem dX11_humsTo_9 : decode cX11_humsTo 9 = .ok (.if_icmp .eq 9, 3) := by decide +kernel
theorem dX11_humsTo_12 : decode cX11_humsTo 12 = .ok (.iload_n 3, 1) := by decide +kernel
theorem dX11_humsTo_13 : decode cX11_humsTo 13 = .ok (.bipush 6, 2) := by decide +kernel
theorem dX11_humsTo_15 : decode cX11_humsTo 15 = .ok (.if_icmp .ne 9, 3) := by decide +kernel
theorem dX11_humsTo_18 : decode cX11_humsTo 18 = .ok (.aload_n 0, 1) := by decide +kernel
theorem dX11_humsTo_19 : decode cX11_humsTo 19 = .ok (.bipush 50, 2) := by decide +kernel
theorem dX11_humsTo_21 : decode cX11_humsTo 21 = .ok (.invokevirtual 321, 3) := by decide +kernel
theorem dX11_humsTo_24 : decode cX11_humsTo 24 = .ok (.iload_n 3, 1) := by decide +kernel
theorem dX11_humsTo_25 : decode cX11_humsTo 25 = .ok (.iconst 5, 1) := by decide +kernel
theorem dX11_humsTo_26 : decode cX11_humsTo 26 = .ok (.if_icmp .ne 9, 3) := by decide +kernel
theorem dX11_humsTo_29 : decode cX11_humsTo 29 = .ok (.aload_n 0, 1) := by decide +kernel
theorem dX11_humsTo_30 : decode cX11_humsTo 30 = .ok (.bipush 60, 2) := by decide +kernel
theorem dX11_humsTo_32 : decode cX11_humsTo 32 = .ok (.invokevirtual 321, 3) := by decide +kernel
theorem dX11_humsTo_35 : decode cX11_humsTo 35 = .ok (.aload_n 0, 1) := by decide +kernel
theorem dX11_humsTo_36 : decode cX11_humsTo 36 = .ok (.bipush 12, 2) := by decide +kernel
theorem dX11_humsTo_38 : decode cX11_humsTo 38 = .ok (.invokevirtual 321, 3) := by decide +kernel
theorem dX11_humsTo_41 : decode cX11_humsTo 41 = .ok (.aload_n 0, 1) := by decide +kernel
theorem dX11_humsTo_42 : decode cX11_humsTo 42 = .ok (.iload_n 1, 1) := by decide +kernel
theorem dX11_humsTo_43 : decode cX11_humsTo 43 = .ok (.iload_n 2, 1) := by decide +kernel
theorem dX11_humsTo_44 : decode cX11_humsTo 44 = .ok (.invokevirtual 328, 3) := by decide +kernel
theorem dX11_humsTo_47 : decode cX11_humsTo 47 = .ok (.istore 4, 2) := by decide +kernel
theorem dX11_humsTo_49 : decode cX11_humsTo 49 = .ok (.iload 4, 2) := by decide +kernel
theorem dX11_humsTo_51 : decode cX11_humsTo 51 = .ok (.aload_n 0, 1) := by decide +kernel
theorem dX11_humsTo_52 : decode cX11_humsTo 52 = .ok (.iload_n 1, 1) := by decide +kernel
theorem dX11_humsTo_53 : decode cX11_humsTo 53 = .ok (.iload_n 2, 1) := by decide +kernel
theorem dX11_humsTo_54 : decode cX11_humsTo 54 = .ok (.aload_n 0, 1) := by decide +kernel
theorem dX11_humsTo_55 : decode cX11_humsTo 55 = .ok (.getfield 32, 3) := by decide +kernel
theorem dX11_humsTo_58 : decode cX11_humsTo 58 = .ok (.iload_n 1, 1) := by decide +kernel
theorem dX11_humsTo_59 : decode cX11_humsTo 59 = .ok (.iaload, 1) := by decide +kernel
theorem dX11_humsTo_60 : decode cX11_humsTo 60 = .ok (.isub, 1) := by decide +kernel
theorem dX11_humsTo_61 : decode cX11_humsTo 61 = .ok (.invokevirtual 325, 3) := by decide +kernel
theorem dX11_humsTo_64 : decode cX11_humsTo 64 = .ok (.ixor, 1) := by decide +kernel
theorem dX11_humsTo_65 : decode cX11_humsTo 65 = .ok (.istore 4, 2) := by decide +kernel
theorem dX11_humsTo_67 : decode cX11_humsTo 67 = .ok (.iload_n 3, 1) := by decide +kernel
theorem dX11_humsTo_68 : decode cX11_humsTo 68 = .ok (.iconst 4, 1) := by decide +kernel
theorem dX11_humsTo_69 : decode cX11_humsTo 69 = .ok (.if_icmp .eq 9, 3) := by decide +kernel
theorem dX11_humsTo_72 : decode cX11_humsTo 72 = .ok (.iload_n 3, 1) := by decide +kernel
theorem dX11_humsTo_73 : decode cX11_humsTo 73 = .ok (.bipush 6, 2) := by decide +kernel
theorem dX11_humsTo_75 : decode cX11_humsTo 75 = .ok (.if_icmp .ne 9, 3) := by decide +kernel
theorem dX11_humsTo_78 : decode cX11_humsTo 78 = .ok (.iload 4, 2) := by decide +kernel
theorem dX11_humsTo_80 : decode cX11_humsTo 80 = .ok (.ineg, 1) := by decide +kernel
theorem dX11_humsTo_81 : decode cX11_humsTo 81 = .ok (.goto 17, 3) := by decide +kernel
theorem dX11_humsTo_84 : decode cX11_humsTo 84 = .ok (.iload_n 3, 1) := by decide +kernel
theorem dX11_humsTo_85 : decode cX11_humsTo 85 = .ok (.iconst 5, 1) := by decide +kernel
theorem dX11_humsTo_86 : decode cX11_humsTo 86 = .ok (.if_icmp .ne 10, 3) := by decide +kernel
theorem dX11_humsTo_89 : decode cX11_humsTo 89 = .ok (.iload 4, 2) := by decide +kernel
theorem dX11_humsTo_91 : decode cX11_humsTo 91 = .ok (.iconst 5, 1) := by decide +kernel
theorem dX11_humsTo_92 : decode cX11_humsTo 92 = .ok (.ixor, 1) := by decide +kernel
theorem dX11_humsTo_93 : decode cX11_humsTo 93 = .ok (.goto 5, 3) := by decide +kernel
theorem dX11_humsTo_96 : decode cX11_humsTo 96 = .ok (.iload 4, 2) := by decide +kernel
theorem dX11_humsTo_98 : decode cX11_humsTo 98 = .ok (.ireturn, 1) := by decide +kernel
theorem dX11_act_0 : decode cX11_act 0 = .ok (.aload_n 0, 1) := by decide +kernel
theorem dX11_act_1 : decode cX11_act 1 = .ok (.iconst 0, 1) := by decide +kernel
theorem dX11_act_2 : decode cX11_act 2 = .ok (.putfield 318, 3) := by decide +kernel
theorem dX11_act_5 : decode cX11_act 5 = .ok (.aload_n 0, 1) := by decide +kernel
theorem dX11_act_6 : decode cX11_act 6 = .ok (.iload_n 1, 1) := by decide +kernel
theorem dX11_act_7 : decode cX11_act 7 = .ok (.invokevirtual 134, 3) := by decide +kernel
theorem dX11_act_10 : decode cX11_act 10 = .ok (.ifCond .eq 12, 3) := by decide +kernel
theorem dX11_act_13 : decode cX11_act 13 = .ok (.iload_n 2, 1) := by decide +kernel
theorem dX11_act_14 : decode cX11_act 14 = .ok (.ifCond .lt 8, 3) := by decide +kernel
theorem dX11_act_17 : decode cX11_act 17 = .ok (.iload_n 2, 1) := by decide +kernel
theorem dX11_act_18 : decode cX11_act 18 = .ok (.iconst 2, 1) := by decide +kernel
theorem dX11_act_19 : decode cX11_act 19 = .ok (.if_icmp .le 5, 3) := by decide +kernel
theorem dX11_act_22 : decode cX11_act 22 = .ok (.iconst 0, 1) := by decide +kernel
theorem dX11_act_23 : decode cX11_act 23 = .ok (.ireturn, 1) := by decide +kernel
theorem dX11_act_24 : decode cX11_act 24 = .ok (.iload_n 2, 1) := by decide +kernel
theorem dX11_act_25 : decode cX11_act 25 = .ok (.ifCond .ne 12, 3) := by decide +kernel
theorem dX11_act_28 : decode cX11_act 28 = .ok (.aload_n 0, 1) := by decide +kernel
theorem dX11_act_29 : decode cX11_act 29 = .ok (.iload_n 1, 1) := by decide +kernel
theorem dX11_act_30 : decode cX11_act 30 = .ok (.iload_n 3, 1) := by decide +kernel
theorem dX11_act_31 : decode cX11_act 31 = .ok (.invokevirtual 325, 3) := by decide +kernel
theorem dX11_act_34 : decode cX11_act 34 = .ok (.goto 23, 3) := by decide +kernel
theorem dX11_act_37 : decode cX11_act 37 = .ok (.iload_n 2, 1) := by decide +kernel
theorem dX11_act_38 : decode cX11_act 38 = .ok (.iconst 1, 1) := by decide +kernel
theorem dX11_act_39 : decode cX11_act 39 = .ok (.if_icmp .ne 12, 3) := by decide +kernel
theorem dX11_act_42 : decode cX11_act 42 = .ok (.aload_n 0, 1) := by decide +kernel
theorem dX11_act_43 : decode cX11_act 43 = .ok (.iload_n 1, 1) := by decide +kernel
theorem dX11_act_44 : decode cX11_act 44 = .ok (.iload_n 3, 1) := by decide +kernel
theorem dX11_act_45 : decode cX11_act 45 = .ok (.invokevirtual 328, 3) := by decide +kernel
theorem dX11_act_48 : decode cX11_act 48 = .ok (.goto 9, 3) := by decide +kernel
theorem dX11_act_51 : decode cX11_act 51 = .ok (.aload_n 0, 1) := by decide +kernel
theorem dX11_act_52 : decode cX11_act 52 = .ok (.iload_n 1, 1) := by decide +kernel
theorem dX11_act_53 : decode cX11_act 53 = .ok (.iload_n 3, 1) := by decide +kernel
theorem dX11_act_54 : decode cX11_act 54 = .ok (.invokevirtual 331, 3) := by decide +kernel
theorem dX11_act_57 : decode cX11_act 57 = .ok (.ireturn, 1) := by decide +kernel
theorem dX11_trace_0 : decode cX11_trace 0 = .ok (.iload_n 1, 1) := by decide +kernel
theorem dX11_trace_1 : decode cX11_trace 1 = .ok (.ifCond .lt 26, 3) := by decide +kernel
theorem dX11_trace_4 : decode cX11_trace 4 = .ok (.iload_n 1, 1) := by decide +kernel
theorem dX11_trace_5 : decode cX11_trace 5 = .ok (.bipush 20, 2) := by decide +kernel
theorem dX11_trace_7 : decode cX11_trace 7 = .ok (.if_icmp .ge 20, 3) := by decide +kernel
theorem dX11_trace_10 : decode cX11_trace 10 = .ok (.iload_n 1, 1) := by decide +kernel
theorem dX11_trace_11 : decode cX11_trace 11 = .ok (.aload_n 0, 1) := by decide +kernel
theorem dX11_trace_12 : decode cX11_trace 12 = .ok (.getfield 318, 3) := by decide +kernel
theorem dX11_trace_15 : decode cX11_trace 15 = .ok (.if_icmp .ge 12, 3) := by decide +kernel
theorem dX11_trace_18 : decode cX11_trace 18 = .ok (.aload_n 0, 1) := by decide +kernel
theorem dX11_trace_19 : decode cX11_trace 19 = .ok (.getfield 120, 3) := by decide +kernel
theorem dX11_trace_22 : decode cX11_trace 22 = .ok (.iload_n 1, 1) := by decide +kernel
theorem dX11_trace_23 : decode cX11_trace 23 = .ok (.iaload, 1) := by decide +kernel
theorem dX11_trace_24 : decode cX11_trace 24 = .ok (.goto 4, 3) := by decide +kernel
theorem dX11_trace_27 : decode cX11_trace 27 = .ok (.iconst (-1), 1) := by decide +kernel
theorem dX11_trace_28 : decode cX11_trace 28 = .ok (.ireturn, 1) := by decide +kernel
theorem dX11_image_0 : decode cX11_image 0 = .ok (.aload_n 0, 1) := by decide +kernel
theorem dX11_image_1 : decode cX11_image 1 = .ok (.iconst 1, 1) := by decide +kernel
theorem dX11_image_2 : decode cX11_image 2 = .ok (.putfield 334, 3) := by decide +kernel
theorem dX11_image_5 : decode cX11_image 5 = .ok (.aload_n 0, 1) := by decide +kernel
theorem dX11_image_6 : decode cX11_image 6 = .ok (.aload_n 0, 1) := by decide +kernel
theorem dX11_image_7 : decode cX11_image 7 = .ok (.getfield 93, 3) := by decide +kernel
theorem dX11_image_10 : decode cX11_image 10 = .ok (.iconst 0, 1) := by decide +kernel
theorem dX11_image_11 : decode cX11_image 11 = .ok (.invokevirtual 232, 3) := by decide +kernel
theorem dX11_image_14 : decode cX11_image 14 = .ok (.aload_n 0, 1) := by decide +kernel
theorem dX11_image_15 : decode cX11_image 15 = .ok (.getfield 123, 3) := by decide +kernel
theorem dX11_image_18 : decode cX11_image 18 = .ok (.ireturn, 1) := by decide +kernel
theorem dX11_restore_0 : decode cX11_restore 0 = .ok (.aload_n 0, 1) := by decide +kernel
theorem dX11_restore_1 : decode cX11_restore 1 = .ok (.getfield 334, 3) := by decide +kernel
theorem dX11_restore_4 : decode cX11_restore 4 = .ok (.ifCond .ne 10, 3) := by decide +kernel
theorem dX11_restore_7 : decode cX11_restore 7 = .ok (.aload_n 0, 1) := by decide +kernel
theorem dX11_restore_8 : decode cX11_restore 8 = .ok (.bipush (-6), 2) := by decide +kernel
theorem dX11_restore_10 : decode cX11_restore 10 = .ok (.invokevirtual 130, 3) := by decide +kernel
theorem dX11_restore_13 : decode cX11_restore 13 = .ok (.ireturn, 1) := by decide +kernel
theorem dX11_restore_14 : decode cX11_restore 14 = .ok (.aload_n 0, 1) := by decide +kernel
theorem dX11_restore_15 : decode cX11_restore 15 = .ok (.aload_n 0, 1) := by decide +kernel
theorem dX11_restore_16 : decode cX11_restore 16 = .ok (.getfield 93, 3) := by decide +kernel
theorem dX11_restore_19 : decode cX11_restore 19 = .ok (.iconst 1, 1) := by decide +kernel
theorem dX11_restore_20 : decode cX11_restore 20 = .ok (.invokevirtual 232, 3) := by decide +kernel
theorem dX11_restore_23 : decode cX11_restore 23 = .ok (.iconst 0, 1) := by decide +kernel
theorem dX11_restore_24 : decode cX11_restore 24 = .ok (.istore_n 1, 1) := by decide +kernel
theorem dX11_restore_25 : decode cX11_restore 25 = .ok (.iload_n 1, 1) := by decide +kernel
theorem dX11_restore_26 : decode cX11_restore 26 = .ok (.bipush 8, 2) := by decide +kernel
theorem dX11_restore_28 : decode cX11_restore 28 = .ok (.if_icmp .ge 39, 3) := by decide +kernel
theorem dX11_restore_31 : decode cX11_restore 31 = .ok (.aload_n 0, 1) := by decide +kernel
theorem dX11_restore_32 : decode cX11_restore 32 = .ok (.getfield 62, 3) := by decide +kernel
theorem dX11_restore_35 : decode cX11_restore 35 = .ok (.iload_n 1, 1) := by decide +kernel
theorem dX11_restore_36 : decode cX11_restore 36 = .ok (.iaload, 1) := by decide +kernel
theorem dX11_restore_37 : decode cX11_restore 37 = .ok (.iconst 2, 1) := by decide +kernel
theorem dX11_restore_38 : decode cX11_restore 38 = .ok (.if_icmp .ne 23, 3) := by decide +kernel
theorem dX11_restore_41 : decode cX11_restore 41 = .ok (.aload_n 0, 1) := by decide +kernel
theorem dX11_restore_42 : decode cX11_restore 42 = .ok (.getfield 71, 3) := by decide +kernel
theorem dX11_restore_45 : decode cX11_restore 45 = .ok (.iload_n 1, 1) := by decide +kernel
theorem dX11_restore_46 : decode cX11_restore 46 = .ok (.iaload, 1) := by decide +kernel
theorem dX11_restore_47 : decode cX11_restore 47 = .ok (.aload_n 0, 1) := by decide +kernel
theorem dX11_restore_48 : decode cX11_restore 48 = .ok (.getfield 123, 3) := by decide +kernel
theorem dX11_restore_51 : decode cX11_restore 51 = .ok (.if_icmp .lt 10, 3) := by decide +kernel
theorem dX11_restore_54 : decode cX11_restore 54 = .ok (.aload_n 0, 1) := by decide +kernel
theorem dX11_restore_55 : decode cX11_restore 55 = .ok (.getfield 62, 3) := by decide +kernel
theorem dX11_restore_58 : decode cX11_restore 58 = .ok (.iload_n 1, 1) := by decide +kernel
theorem dX11_restore_59 : decode cX11_restore 59 = .ok (.iconst 0, 1) := by decide +kernel
theorem dX11_restore_60 : decode cX11_restore 60 = .ok (.iastore, 1) := by decide +kernel
theorem dX11_restore_61 : decode cX11_restore 61 = .ok (.iinc 1 1, 3) := by decide +kernel
theorem dX11_restore_64 : decode cX11_restore 64 = .ok (.goto (-39), 3) := by decide +kernel
theorem dX11_restore_67 : decode cX11_restore 67 = .ok (.aload_n 0, 1) := by decide +kernel
theorem dX11_restore_68 : decode cX11_restore 68 = .ok (.getfield 123, 3) := by decide +kernel
theorem dX11_restore_71 : decode cX11_restore 71 = .ok (.ireturn, 1) := by decide +kernel
theorem dX11_status_0 : decode cX11_status 0 = .ok (.iload_n 1, 1) := by decide +kernel
theorem dX11_status_1 : decode cX11_status 1 = .ok (.bipush 11, 2) := by decide +kernel
theorem dX11_status_3 : decode cX11_status 3 = .ok (.if_icmp .lt 19, 3) := by decide +kernel
theorem dX11_status_6 : decode cX11_status 6 = .ok (.iload_n 1, 1) := by decide +kernel
theorem dX11_status_7 : decode cX11_status 7 = .ok (.bipush 17, 2) := by decide +kernel
theorem dX11_status_9 : decode cX11_status 9 = .ok (.if_icmp .gt 13, 3) := by decide +kernel
theorem dX11_status_12 : decode cX11_status 12 = .ok (.aload_n 0, 1) := by decide +kernel
theorem dX11_status_13 : decode cX11_status 13 = .ok (.getfield 25, 3) := by decide +kernel
theorem dX11_status_16 : decode cX11_status 16 = .ok (.iload_n 1, 1) := by decide +kernel
theorem dX11_status_17 : decode cX11_status 17 = .ok (.bipush 10, 2) := by decide +kernel
theorem dX11_status_19 : decode cX11_status 19 = .ok (.isub, 1) := by decide +kernel
theorem dX11_status_20 : decode cX11_status 20 = .ok (.iaload, 1) := by decide +kernel
theorem dX11_status_21 : decode cX11_status 21 = .ok (.ireturn, 1) := by decide +kernel
theorem dX11_status_22 : decode cX11_status 22 = .ok (.iload_n 1, 1) := by decide +kernel
theorem dX11_status_23 : decode cX11_status 23 = .ok (.tableswitch 116 0 10 #[57, 62, 67, 72, 77, 82, 87, 92, 99, 106, 111], 57) := by decide +kernel
theorem dX11_status_80 : decode cX11_status 80 = .ok (.aload_n 0, 1) := by decide +kernel
theorem dX11_status_81 : decode cX11_status 81 = .ok (.getfield 123, 3) := by decide +kernel
theorem dX11_status_84 : decode cX11_status 84 = .ok (.ireturn, 1) := by decide +kernel
theorem dX11_status_85 : decode cX11_status 85 = .ok (.aload_n 0, 1) := by decide +kernel
theorem dX11_status_86 : decode cX11_status 86 = .ok (.getfield 7, 3) := by decide +kernel
theorem dX11_status_89 : decode cX11_status 89 = .ok (.ireturn, 1) := by decide +kernel
theorem dX11_status_90 : decode cX11_status 90 = .ok (.aload_n 0, 1) := by decide +kernel
theorem dX11_status_91 : decode cX11_status 91 = .ok (.getfield 144, 3) := by decide +kernel
theorem dX11_status_94 : decode cX11_status 94 = .ok (.ireturn, 1) := by decide +kernel
theorem dX11_status_95 : decode cX11_status 95 = .ok (.aload_n 0, 1) := by decide +kernel
theorem dX11_status_96 : decode cX11_status 96 = .ok (.getfield 147, 3) := by decide +kernel
theorem dX11_status_99 : decode cX11_status 99 = .ok (.ireturn, 1) := by decide +kernel
theorem dX11_status_100 : decode cX11_status 100 = .ok (.aload_n 0, 1) := by decide +kernel
theorem dX11_status_101 : decode cX11_status 101 = .ok (.getfield 13, 3) := by decide +kernel
theorem dX11_status_104 : decode cX11_status 104 = .ok (.ireturn, 1) := by decide +kernel
theorem dX11_status_105 : decode cX11_status 105 = .ok (.aload_n 0, 1) := by decide +kernel
theorem dX11_status_106 : decode cX11_status 106 = .ok (.getfield 16, 3) := by decide +kernel
theorem dX11_status_109 : decode cX11_status 109 = .ok (.ireturn, 1) := by decide +kernel
theorem dX11_status_110 : decode cX11_status 110 = .ok (.aload_n 0, 1) := by decide +kernel
theorem dX11_status_111 : decode cX11_status 111 = .ok (.getfield 170, 3) := by decide +kernel
theorem dX11_status_114 : decode cX11_status 114 = .ok (.ireturn, 1) := by decide +kernel
theorem dX11_status_115 : decode cX11_status 115 = .ok (.aload_n 0, 1) := by decide +kernel
theorem dX11_status_116 : decode cX11_status 116 = .ok (.getfield 59, 3) := by decide +kernel
theorem dX11_status_119 : decode cX11_status 119 = .ok (.iconst 0, 1) := by decide +kernel
theorem dX11_status_120 : decode cX11_status 120 = .ok (.iaload, 1) := by decide +kernel
theorem dX11_status_121 : decode cX11_status 121 = .ok (.ireturn, 1) := by decide +kernel
theorem dX11_status_122 : decode cX11_status 122 = .ok (.aload_n 0, 1) := by decide +kernel
theorem dX11_status_123 : decode cX11_status 123 = .ok (.getfield 59, 3) := by decide +kernel
theorem dX11_status_126 : decode cX11_status 126 = .ok (.iconst 1, 1) := by decide +kernel
theorem dX11_status_127 : decode cX11_status 127 = .ok (.iaload, 1) := by decide +kernel
theorem dX11_status_128 : decode cX11_status 128 = .ok (.ireturn, 1) := by decide +kernel
theorem dX11_status_129 : decode cX11_status 129 = .ok (.aload_n 0, 1) := by decide +kernel
theorem dX11_status_130 : decode cX11_status 130 = .ok (.getfield 19, 3) := by decide +kernel
theorem dX11_status_133 : decode cX11_status 133 = .ok (.ireturn, 1) := by decide +kernel
theorem dX11_status_134 : decode cX11_status 134 = .ok (.aload_n 0, 1) := by decide +kernel
theorem dX11_status_135 : decode cX11_status 135 = .ok (.getfield 318, 3) := by decide +kernel
theorem dX11_status_138 : decode cX11_status 138 = .ok (.ireturn, 1) := by decide +kernel
theorem dX11_status_139 : decode cX11_status 139 = .ok (.iconst (-1), 1) := by decide +kernel
theorem dX11_status_140 : decode cX11_status 140 = .ok (.ireturn, 1) := by decide +kernel
theorem dJ9_abs_0f7a4_0 : decode cJ9_abs_0f7a4 0 = .ok (.iload_n 0, 1) := by decide +kernel
theorem dJ9_abs_0f7a4_1 : decode cJ9_abs_0f7a4 1 = .ok (.ifCond .ge 8, 3) := by decide +kernel
theorem dJ9_abs_0f7a4_4 : decode cJ9_abs_0f7a4 4 = .ok (.iload_n 0, 1) := by decide +kernel
theorem dJ9_abs_0f7a4_5 : decode cJ9_abs_0f7a4 5 = .ok (.ineg, 1) := by decide +kernel
theorem dJ9_abs_0f7a4_6 : decode cJ9_abs_0f7a4 6 = .ok (.goto 4, 3) := by decide +kernel
theorem dJ9_abs_0f7a4_9 : decode cJ9_abs_0f7a4 9 = .ok (.iload_n 0, 1) := by decide +kernel
theorem dJ9_abs_0f7a4_10 : decode cJ9_abs_0f7a4 10 = .ok (.ireturn, 1) := by decide +kernel
theorem dJ9_max_7cf53_0 : decode cJ9_max_7cf53 0 = .ok (.iload_n 0, 1) := by decide +kernel
theorem dJ9_max_7cf53_1 : decode cJ9_max_7cf53 1 = .ok (.iload_n 1, 1) := by decide +kernel
theorem dJ9_max_7cf53_2 : decode cJ9_max_7cf53 2 = .ok (.if_icmp .lt 7, 3) := by decide +kernel
theorem dJ9_max_7cf53_5 : decode cJ9_max_7cf53 5 = .ok (.iload_n 0, 1) := by decide +kernel
theorem dJ9_max_7cf53_6 : decode cJ9_max_7cf53 6 = .ok (.goto 4, 3) := by decide +kernel
theorem dJ9_max_7cf53_9 : decode cJ9_max_7cf53 9 = .ok (.iload_n 1, 1) := by decide +kernel
theorem dJ9_max_7cf53_10 : decode cJ9_max_7cf53 10 = .ok (.ireturn, 1) := by decide +kernel
theorem dJ9_min_7cf53_0 : decode cJ9_min_7cf53 0 = .ok (.iload_n 0, 1) := by decide +kernel
theorem dJ9_min_7cf53_1 : decode cJ9_min_7cf53 1 = .ok (.iload_n 1, 1) := by decide +kernel
theorem dJ9_min_7cf53_2 : decode cJ9_min_7cf53 2 = .ok (.if_icmp .gt 7, 3) := by decide +kernel
theorem dJ9_min_7cf53_5 : decode cJ9_min_7cf53 5 = .ok (.iload_n 0, 1) := by decide +kernel
theorem dJ9_min_7cf53_6 : decode cJ9_min_7cf53 6 = .ok (.goto 4, 3) := by decide +kernel
theorem dJ9_min_7cf53_9 : decode cJ9_min_7cf53 9 = .ok (.iload_n 1, 1) := by decide +kernel
theorem dJ9_min_7cf53_10 : decode cJ9_min_7cf53 10 = .ok (.ireturn, 1) := by decide +kernel
theorem dJ0_length_8abf5_0 : decode cJ0_length_8abf5 0 = .ok (.aload_n 0, 1) := by decide +kernel
theorem dJ0_length_8abf5_1 : decode cJ0_length_8abf5 1 = .ok (.getfield 9, 3) := by decide +kernel
theorem dJ0_length_8abf5_4 : decode cJ0_length_8abf5 4 = .ok (.arraylength, 1) := by decide +kernel
theorem dJ0_length_8abf5_5 : decode cJ0_length_8abf5 5 = .ok (.aload_n 0, 1) := by decide +kernel
theorem dJ0_length_8abf5_6 : decode cJ0_length_8abf5 6 = .ok (.invokevirtual 335, 3) := by decide +kernel
theorem dJ0_length_8abf5_9 : decode cJ0_length_8abf5 9 = .ok (.ishr, 1) := by decide +kernel
theorem dJ0_length_8abf5_10 : decode cJ0_length_8abf5 10 = .ok (.ireturn, 1) := by decide +kernel
theorem dJ0_charAt_5068e_0 : decode cJ0_charAt_5068e 0 = .ok (.aload_n 0, 1) := by decide +kernel
theorem dJ0_charAt_5068e_1 : decode cJ0_charAt_5068e 1 = .ok (.invokevirtual 492, 3) := by decide +kernel
theorem dJ0_charAt_5068e_4 : decode cJ0_charAt_5068e 4 = .ok (.ifCond .eq 12, 3) := by decide +kernel
theorem dJ0_charAt_5068e_7 : decode cJ0_charAt_5068e 7 = .ok (.aload_n 0, 1) := by decide +kernel
theorem dJ0_charAt_5068e_8 : decode cJ0_charAt_5068e 8 = .ok (.getfield 9, 3) := by decide +kernel
theorem dJ0_charAt_5068e_11 : decode cJ0_charAt_5068e 11 = .ok (.iload_n 1, 1) := by decide +kernel
theorem dJ0_charAt_5068e_12 : decode cJ0_charAt_5068e 12 = .ok (.invokestatic 495, 3) := by decide +kernel
theorem dJ0_charAt_5068e_15 : decode cJ0_charAt_5068e 15 = .ok (.ireturn, 1) := by decide +kernel
theorem dJ0_charAt_5068e_16 : decode cJ0_charAt_5068e 16 = .ok (.aload_n 0, 1) := by decide +kernel
theorem dJ0_charAt_5068e_17 : decode cJ0_charAt_5068e 17 = .ok (.getfield 9, 3) := by decide +kernel
theorem dJ0_charAt_5068e_20 : decode cJ0_charAt_5068e 20 = .ok (.iload_n 1, 1) := by decide +kernel
theorem dJ0_charAt_5068e_21 : decode cJ0_charAt_5068e 21 = .ok (.invokestatic 498, 3) := by decide +kernel
theorem dJ0_charAt_5068e_24 : decode cJ0_charAt_5068e 24 = .ok (.ireturn, 1) := by decide +kernel
theorem dJ0_coder_7d493_0 : decode cJ0_coder_7d493 0 = .ok (.getstatic 38, 3) := by decide +kernel
theorem dJ0_coder_7d493_3 : decode cJ0_coder_7d493 3 = .ok (.ifCond .eq 10, 3) := by decide +kernel
theorem dJ0_coder_7d493_6 : decode cJ0_coder_7d493 6 = .ok (.aload_n 0, 1) := by decide +kernel
theorem dJ0_coder_7d493_7 : decode cJ0_coder_7d493 7 = .ok (.getfield 15, 3) := by decide +kernel
theorem dJ0_coder_7d493_10 : decode cJ0_coder_7d493 10 = .ok (.goto 4, 3) := by decide +kernel
theorem dJ0_coder_7d493_13 : decode cJ0_coder_7d493 13 = .ok (.iconst 1, 1) := by decide +kernel
theorem dJ0_coder_7d493_14 : decode cJ0_coder_7d493 14 = .ok (.ireturn, 1) := by decide +kernel
theorem dJ0_isLatin1_aae02_0 : decode cJ0_isLatin1_aae02 0 = .ok (.getstatic 38, 3) := by decide +kernel
theorem dJ0_isLatin1_aae02_3 : decode cJ0_isLatin1_aae02 3 = .ok (.ifCond .eq 14, 3) := by decide +kernel
theorem dJ0_isLatin1_aae02_6 : decode cJ0_isLatin1_aae02 6 = .ok (.aload_n 0, 1) := by decide +kernel
theorem dJ0_isLatin1_aae02_7 : decode cJ0_isLatin1_aae02 7 = .ok (.getfield 15, 3) := by decide +kernel
theorem dJ0_isLatin1_aae02_10 : decode cJ0_isLatin1_aae02 10 = .ok (.ifCond .ne 7, 3) := by decide +kernel
theorem dJ0_isLatin1_aae02_13 : decode cJ0_isLatin1_aae02 13 = .ok (.iconst 1, 1) := by decide +kernel
theorem dJ0_isLatin1_aae02_14 : decode cJ0_isLatin1_aae02 14 = .ok (.goto 4, 3) := by decide +kernel
theorem dJ0_isLatin1_aae02_17 : decode cJ0_isLatin1_aae02 17 = .ok (.iconst 0, 1) := by decide +kernel
theorem dJ0_isLatin1_aae02_18 : decode cJ0_isLatin1_aae02 18 = .ok (.ireturn, 1) := by decide +kernel
theorem dJ0_checkIndex_df160_0 : decode cJ0_checkIndex_df160 0 = .ok (.iload_n 0, 1) := by decide +kernel
theorem dJ0_checkIndex_df160_1 : decode cJ0_checkIndex_df160 1 = .ok (.iload_n 1, 1) := by decide +kernel
theorem dJ0_checkIndex_df160_2 : decode cJ0_checkIndex_df160 2 = .ok (.getstatic 1053, 3) := by decide +kernel
theorem dJ0_checkIndex_df160_5 : decode cJ0_checkIndex_df160 5 = .ok (.invokestatic 1059, 3) := by decide +kernel
theorem dJ0_checkIndex_df160_8 : decode cJ0_checkIndex_df160 8 = .ok (.pop, 1) := by decide +kernel
theorem dJ0_checkIndex_df160_9 : decode cJ0_checkIndex_df160 9 = .ok (.return_, 1) := by decide +kernel
theorem dJ1_charAt_3b067_0 : decode cJ1_charAt_3b067 0 = .ok (.iload_n 1, 1) := by decide +kernel
theorem dJ1_charAt_3b067_1 : decode cJ1_charAt_3b067 1 = .ok (.aload_n 0, 1) := by decide +kernel
theorem dJ1_charAt_3b067_2 : decode cJ1_charAt_3b067 2 = .ok (.arraylength, 1) := by decide +kernel
theorem dJ1_charAt_3b067_3 : decode cJ1_charAt_3b067 3 = .ok (.invokestatic 9, 3) := by decide +kernel
theorem dJ1_charAt_3b067_6 : decode cJ1_charAt_3b067 6 = .ok (.aload_n 0, 1) := by decide +kernel
theorem dJ1_charAt_3b067_7 : decode cJ1_charAt_3b067 7 = .ok (.iload_n 1, 1) := by decide +kernel
theorem dJ1_charAt_3b067_8 : decode cJ1_charAt_3b067 8 = .ok (.baload, 1) := by decide +kernel
theorem dJ1_charAt_3b067_9 : decode cJ1_charAt_3b067 9 = .ok (.sipush 255, 3) := by decide +kernel
theorem dJ1_charAt_3b067_12 : decode cJ1_charAt_3b067 12 = .ok (.iand, 1) := by decide +kernel
theorem dJ1_charAt_3b067_13 : decode cJ1_charAt_3b067 13 = .ok (.i2c, 1) := by decide +kernel
theorem dJ1_charAt_3b067_14 : decode cJ1_charAt_3b067 14 = .ok (.ireturn, 1) := by decide +kernel
theorem dJ2_getChar_3b067_0 : decode cJ2_getChar_3b067 0 = .ok (.getstatic 44, 3) := by decide +kernel
theorem dJ2_getChar_3b067_3 : decode cJ2_getChar_3b067 3 = .ok (.ifCond .ne 25, 3) := by decide +kernel
theorem dJ2_getChar_3b067_6 : decode cJ2_getChar_3b067 6 = .ok (.iload_n 1, 1) := by decide +kernel
theorem dJ2_getChar_3b067_7 : decode cJ2_getChar_3b067 7 = .ok (.ifCond .lt 11, 3) := by decide +kernel
theorem dJ2_getChar_3b067_10 : decode cJ2_getChar_3b067 10 = .ok (.iload_n 1, 1) := by decide +kernel
theorem dJ2_getChar_3b067_11 : decode cJ2_getChar_3b067 11 = .ok (.aload_n 0, 1) := by decide +kernel
theorem dJ2_getChar_3b067_12 : decode cJ2_getChar_3b067 12 = .ok (.invokestatic 48, 3) := by decide +kernel
theorem dJ2_getChar_3b067_15 : decode cJ2_getChar_3b067 15 = .ok (.if_icmp .lt 13, 3) := by decide +kernel
theorem dJ2_getChar_3b067_18 : decode cJ2_getChar_3b067 18 = .ok (.new 52, 3) := by decide +kernel
theorem dJ2_getChar_3b067_21 : decode cJ2_getChar_3b067 21 = .ok (.dup, 1) := by decide +kernel
theorem dJ2_getChar_3b067_22 : decode cJ2_getChar_3b067 22 = .ok (.ldc 54, 2) := by decide +kernel
theorem dJ2_getChar_3b067_24 : decode cJ2_getChar_3b067 24 = .ok (.invokespecial 56, 3) := by decide +kernel
theorem dJ2_getChar_3b067_27 : decode cJ2_getChar_3b067 27 = .ok (.athrow, 1) := by decide +kernel
theorem dJ2_getChar_3b067_28 : decode cJ2_getChar_3b067 28 = .ok (.iload_n 1, 1) := by decide +kernel
theorem dJ2_getChar_3b067_29 : decode cJ2_getChar_3b067 29 = .ok (.iconst 1, 1) := by decide +kernel
theorem dJ2_getChar_3b067_30 : decode cJ2_getChar_3b067 30 = .ok (.ishl, 1) := by decide +kernel
theorem dJ2_getChar_3b067_31 : decode cJ2_getChar_3b067 31 = .ok (.istore_n 1, 1) := by decide +kernel
theorem dJ2_getChar_3b067_32 : decode cJ2_getChar_3b067 32 = .ok (.aload_n 0, 1) := by decide +kernel
theorem dJ2_getChar_3b067_33 : decode cJ2_getChar_3b067 33 = .ok (.iload_n 1, 1) := by decide +kernel
theorem dJ2_getChar_3b067_34 : decode cJ2_getChar_3b067 34 = .ok (.iinc 1 1, 3) := by decide +kernel
theorem dJ2_getChar_3b067_37 : decode cJ2_getChar_3b067 37 = .ok (.baload, 1) := by decide +kernel
theorem dJ2_getChar_3b067_38 : decode cJ2_getChar_3b067 38 = .ok (.sipush 255, 3) := by decide +kernel
theorem dJ2_getChar_3b067_41 : decode cJ2_getChar_3b067 41 = .ok (.iand, 1) := by decide +kernel
theorem dJ2_getChar_3b067_42 : decode cJ2_getChar_3b067 42 = .ok (.getstatic 59, 3) := by decide +kernel
theorem dJ2_getChar_3b067_45 : decode cJ2_getChar_3b067 45 = .ok (.ishl, 1) := by decide +kernel
theorem dJ2_getChar_3b067_46 : decode cJ2_getChar_3b067 46 = .ok (.aload_n 0, 1) := by decide +kernel
theorem dJ2_getChar_3b067_47 : decode cJ2_getChar_3b067 47 = .ok (.iload_n 1, 1) := by decide +kernel
theorem dJ2_getChar_3b067_48 : decode cJ2_getChar_3b067 48 = .ok (.baload, 1) := by decide +kernel
theorem dJ2_getChar_3b067_49 : decode cJ2_getChar_3b067 49 = .ok (.sipush 255, 3) := by decide +kernel
theorem dJ2_getChar_3b067_52 : decode cJ2_getChar_3b067 52 = .ok (.iand, 1) := by decide +kernel
theorem dJ2_getChar_3b067_53 : decode cJ2_getChar_3b067 53 = .ok (.getstatic 63, 3) := by decide +kernel
theorem dJ2_getChar_3b067_56 : decode cJ2_getChar_3b067 56 = .ok (.ishl, 1) := by decide +kernel
theorem dJ2_getChar_3b067_57 : decode cJ2_getChar_3b067 57 = .ok (.ior, 1) := by decide +kernel
theorem dJ2_getChar_3b067_58 : decode cJ2_getChar_3b067 58 = .ok (.i2c, 1) := by decide +kernel
theorem dJ2_getChar_3b067_59 : decode cJ2_getChar_3b067 59 = .ok (.ireturn, 1) := by decide +kernel
theorem dJ2_length_9d52b_0 : decode cJ2_length_9d52b 0 = .ok (.aload_n 0, 1) := by decide +kernel
theorem dJ2_length_9d52b_1 : decode cJ2_length_9d52b 1 = .ok (.arraylength, 1) := by decide +kernel
theorem dJ2_length_9d52b_2 : decode cJ2_length_9d52b 2 = .ok (.iconst 1, 1) := by decide +kernel
theorem dJ2_length_9d52b_3 : decode cJ2_length_9d52b 3 = .ok (.ishr, 1) := by decide +kernel
theorem dJ2_length_9d52b_4 : decode cJ2_length_9d52b 4 = .ok (.ireturn, 1) := by decide +kernel
theorem dJ2_charAt_3b067_0 : decode cJ2_charAt_3b067 0 = .ok (.iload_n 1, 1) := by decide +kernel
theorem dJ2_charAt_3b067_1 : decode cJ2_charAt_3b067 1 = .ok (.aload_n 0, 1) := by decide +kernel
theorem dJ2_charAt_3b067_2 : decode cJ2_charAt_3b067 2 = .ok (.invokestatic 67, 3) := by decide +kernel
theorem dJ2_charAt_3b067_5 : decode cJ2_charAt_3b067 5 = .ok (.aload_n 0, 1) := by decide +kernel
theorem dJ2_charAt_3b067_6 : decode cJ2_charAt_3b067 6 = .ok (.iload_n 1, 1) := by decide +kernel
theorem dJ2_charAt_3b067_7 : decode cJ2_charAt_3b067 7 = .ok (.invokestatic 71, 3) := by decide +kernel
theorem dJ2_charAt_3b067_10 : decode cJ2_charAt_3b067 10 = .ok (.ireturn, 1) := by decide +kernel
theorem dJ2_checkIndex_2214a_0 : decode cJ2_checkIndex_2214a 0 = .ok (.iload_n 0, 1) := by decide +kernel
theorem dJ2_checkIndex_2214a_1 : decode cJ2_checkIndex_2214a 1 = .ok (.aload_n 1, 1) := by decide +kernel
theorem dJ2_checkIndex_2214a_2 : decode cJ2_checkIndex_2214a 2 = .ok (.invokestatic 48, 3) := by decide +kernel
theorem dJ2_checkIndex_2214a_5 : decode cJ2_checkIndex_2214a 5 = .ok (.invokestatic 414, 3) := by decide +kernel
theorem dJ2_checkIndex_2214a_8 : decode cJ2_checkIndex_2214a 8 = .ok (.return_, 1) := by decide +kernel
theorem dJ7_fill_d0a16_0 : decode cJ7_fill_d0a16 0 = .ok (.iconst 0, 1) := by decide +kernel
theorem dJ7_fill_d0a16_1 : decode cJ7_fill_d0a16 1 = .ok (.istore_n 3, 1) := by decide +kernel
theorem dJ7_fill_d0a16_2 : decode cJ7_fill_d0a16 2 = .ok (.aload_n 0, 1) := by decide +kernel
theorem dJ7_fill_d0a16_3 : decode cJ7_fill_d0a16 3 = .ok (.arraylength, 1) := by decide +kernel
theorem dJ7_fill_d0a16_4 : decode cJ7_fill_d0a16 4 = .ok (.istore 4, 2) := by decide +kernel
theorem dJ7_fill_d0a16_6 : decode cJ7_fill_d0a16 6 = .ok (.iload_n 3, 1) := by decide +kernel
theorem dJ7_fill_d0a16_7 : decode cJ7_fill_d0a16 7 = .ok (.iload 4, 2) := by decide +kernel
theorem dJ7_fill_d0a16_9 : decode cJ7_fill_d0a16 9 = .ok (.if_icmp .ge 13, 3) := by decide +kernel
theorem dJ7_fill_d0a16_12 : decode cJ7_fill_d0a16 12 = .ok (.aload_n 0, 1) := by decide +kernel
theorem dJ7_fill_d0a16_13 : decode cJ7_fill_d0a16 13 = .ok (.iload_n 3, 1) := by decide +kernel
theorem dJ7_fill_d0a16_14 : decode cJ7_fill_d0a16 14 = .ok (.lload_n 1, 1) := by decide +kernel
theorem dJ7_fill_d0a16_15 : decode cJ7_fill_d0a16 15 = .ok (.lastore, 1) := by decide +kernel
theorem dJ7_fill_d0a16_16 : decode cJ7_fill_d0a16 16 = .ok (.iinc 3 1, 3) := by decide +kernel
theorem dJ7_fill_d0a16_19 : decode cJ7_fill_d0a16 19 = .ok (.goto (-13), 3) := by decide +kernel
theorem dJ7_fill_d0a16_22 : decode cJ7_fill_d0a16 22 = .ok (.return_, 1) := by decide +kernel
theorem dJ7_fill_53178_0 : decode cJ7_fill_53178 0 = .ok (.iconst 0, 1) := by decide +kernel
theorem dJ7_fill_53178_1 : decode cJ7_fill_53178 1 = .ok (.istore_n 2, 1) := by decide +kernel
theorem dJ7_fill_53178_2 : decode cJ7_fill_53178 2 = .ok (.aload_n 0, 1) := by decide +kernel
theorem dJ7_fill_53178_3 : decode cJ7_fill_53178 3 = .ok (.arraylength, 1) := by decide +kernel
theorem dJ7_fill_53178_4 : decode cJ7_fill_53178 4 = .ok (.istore_n 3, 1) := by decide +kernel
theorem dJ7_fill_53178_5 : decode cJ7_fill_53178 5 = .ok (.iload_n 2, 1) := by decide +kernel
theorem dJ7_fill_53178_6 : decode cJ7_fill_53178 6 = .ok (.iload_n 3, 1) := by decide +kernel
theorem dJ7_fill_53178_7 : decode cJ7_fill_53178 7 = .ok (.if_icmp .ge 13, 3) := by decide +kernel
theorem dJ7_fill_53178_10 : decode cJ7_fill_53178 10 = .ok (.aload_n 0, 1) := by decide +kernel
theorem dJ7_fill_53178_11 : decode cJ7_fill_53178 11 = .ok (.iload_n 2, 1) := by decide +kernel
theorem dJ7_fill_53178_12 : decode cJ7_fill_53178 12 = .ok (.iload_n 1, 1) := by decide +kernel
theorem dJ7_fill_53178_13 : decode cJ7_fill_53178 13 = .ok (.iastore, 1) := by decide +kernel
theorem dJ7_fill_53178_14 : decode cJ7_fill_53178 14 = .ok (.iinc 2 1, 3) := by decide +kernel
theorem dJ7_fill_53178_17 : decode cJ7_fill_53178 17 = .ok (.goto (-12), 3) := by decide +kernel
theorem dJ7_fill_53178_20 : decode cJ7_fill_53178 20 = .ok (.return_, 1) := by decide +kernel
theorem dJ3_checkIndex_8e157_0 : decode cJ3_checkIndex_8e157 0 = .ok (.iload_n 0, 1) := by decide +kernel
theorem dJ3_checkIndex_8e157_1 : decode cJ3_checkIndex_8e157 1 = .ok (.ifCond .lt 8, 3) := by decide +kernel
theorem dJ3_checkIndex_8e157_4 : decode cJ3_checkIndex_8e157 4 = .ok (.iload_n 0, 1) := by decide +kernel
theorem dJ3_checkIndex_8e157_5 : decode cJ3_checkIndex_8e157 5 = .ok (.iload_n 1, 1) := by decide +kernel
theorem dJ3_checkIndex_8e157_6 : decode cJ3_checkIndex_8e157 6 = .ok (.if_icmp .lt 10, 3) := by decide +kernel
theorem dJ3_checkIndex_8e157_9 : decode cJ3_checkIndex_8e157 9 = .ok (.aload_n 2, 1) := by decide +kernel
theorem dJ3_checkIndex_8e157_10 : decode cJ3_checkIndex_8e157 10 = .ok (.iload_n 0, 1) := by decide +kernel
theorem dJ3_checkIndex_8e157_11 : decode cJ3_checkIndex_8e157 11 = .ok (.iload_n 1, 1) := by decide +kernel
theorem dJ3_checkIndex_8e157_12 : decode cJ3_checkIndex_8e157 12 = .ok (.invokestatic 95, 3) := by decide +kernel
theorem dJ3_checkIndex_8e157_15 : decode cJ3_checkIndex_8e157 15 = .ok (.athrow, 1) := by decide +kernel
theorem dJ3_checkIndex_8e157_16 : decode cJ3_checkIndex_8e157 16 = .ok (.iload_n 0, 1) := by decide +kernel
theorem dJ3_checkIndex_8e157_17 : decode cJ3_checkIndex_8e157 17 = .ok (.ireturn, 1) := by decide +kernel
theorem dL_law_0 : decode cL_law 0 = .ok (.new 7, 3) := by decide +kernel
theorem dL_law_3 : decode cL_law 3 = .ok (.dup, 1) := by decide +kernel
theorem dL_law_4 : decode cL_law 4 = .ok (.invokespecial 9, 3) := by decide +kernel
theorem dL_law_7 : decode cL_law 7 = .ok (.astore_n 1, 1) := by decide +kernel
theorem dL_law_8 : decode cL_law 8 = .ok (.new 10, 3) := by decide +kernel
theorem dL_law_11 : decode cL_law 11 = .ok (.dup, 1) := by decide +kernel
theorem dL_law_12 : decode cL_law 12 = .ok (.invokespecial 12, 3) := by decide +kernel
theorem dL_law_15 : decode cL_law 15 = .ok (.astore_n 2, 1) := by decide +kernel
theorem dL_law_16 : decode cL_law 16 = .ok (.iconst 0, 1) := by decide +kernel
theorem dL_law_17 : decode cL_law 17 = .ok (.istore_n 3, 1) := by decide +kernel
theorem dL_law_18 : decode cL_law 18 = .ok (.iload_n 3, 1) := by decide +kernel
theorem dL_law_19 : decode cL_law 19 = .ok (.aload_n 0, 1) := by decide +kernel
theorem dL_law_20 : decode cL_law 20 = .ok (.arraylength, 1) := by decide +kernel
theorem dL_law_21 : decode cL_law 21 = .ok (.bipush 6, 2) := by decide +kernel
theorem dL_law_23 : decode cL_law 23 = .ok (.isub, 1) := by decide +kernel
theorem dL_law_24 : decode cL_law 24 = .ok (.if_icmp .gt 1592, 3) := by decide +kernel
theorem dL_law_27 : decode cL_law 27 = .ok (.aload_n 0, 1) := by decide +kernel
theorem dL_law_28 : decode cL_law 28 = .ok (.iload_n 3, 1) := by decide +kernel
theorem dL_law_29 : decode cL_law 29 = .ok (.iaload, 1) := by decide +kernel
theorem dL_law_30 : decode cL_law 30 = .ok (.bipush 63, 2) := by decide +kernel
theorem dL_law_32 : decode cL_law 32 = .ok (.iand, 1) := by decide +kernel
theorem dL_law_33 : decode cL_law 33 = .ok (.tableswitch 1577 0 44 #[195, 238, 311, 374, 408, 441, 464, 497, 520, 563, 596, 639, 672, 705, 754, 787, 820, 853, 876, 889, 932, 975, 1008, 1031, 1054, 1067, 1080, 1113, 1126, 1139, 1162, 1205, 1238, 1271, 1284, 1307, 1340, 1383, 1416, 1439, 1462, 1505, 1528, 1541, 1554], 195) := by decide +kernel
theorem dL_law_228 : decode cL_law 228 = .ok (.aload_n 1, 1) := by decide +kernel
theorem dL_law_229 : decode cL_law 229 = .ok (.aload_n 0, 1) := by decide +kernel
theorem dL_law_230 : decode cL_law 230 = .ok (.iload_n 3, 1) := by decide +kernel
theorem dL_law_231 : decode cL_law 231 = .ok (.iconst 1, 1) := by decide +kernel
theorem dL_law_232 : decode cL_law 232 = .ok (.iadd, 1) := by decide +kernel
theorem dL_law_233 : decode cL_law 233 = .ok (.iaload, 1) := by decide +kernel
theorem dL_law_234 : decode cL_law 234 = .ok (.aload_n 0, 1) := by decide +kernel
theorem dL_law_235 : decode cL_law 235 = .ok (.iload_n 3, 1) := by decide +kernel
theorem dL_law_236 : decode cL_law 236 = .ok (.iconst 2, 1) := by decide +kernel
theorem dL_law_237 : decode cL_law 237 = .ok (.iadd, 1) := by decide +kernel
theorem dL_law_238 : decode cL_law 238 = .ok (.iaload, 1) := by decide +kernel
theorem dL_law_239 : decode cL_law 239 = .ok (.aload_n 0, 1) := by decide +kernel
theorem dL_law_240 : decode cL_law 240 = .ok (.iload_n 3, 1) := by decide +kernel
theorem dL_law_241 : decode cL_law 241 = .ok (.iconst 3, 1) := by decide +kernel
theorem dL_law_242 : decode cL_law 242 = .ok (.iadd, 1) := by decide +kernel
theorem dL_law_243 : decode cL_law 243 = .ok (.iaload, 1) := by decide +kernel
theorem dL_law_244 : decode cL_law 244 = .ok (.invokevirtual 13, 3) := by decide +kernel
theorem dL_law_247 : decode cL_law 247 = .ok (.aload_n 2, 1) := by decide +kernel
theorem dL_law_248 : decode cL_law 248 = .ok (.aload_n 0, 1) := by decide +kernel
theorem dL_law_249 : decode cL_law 249 = .ok (.iload_n 3, 1) := by decide +kernel
theorem dL_law_250 : decode cL_law 250 = .ok (.iconst 1, 1) := by decide +kernel
theorem dL_law_251 : decode cL_law 251 = .ok (.iadd, 1) := by decide +kernel
theorem dL_law_252 : decode cL_law 252 = .ok (.iaload, 1) := by decide +kernel
theorem dL_law_253 : decode cL_law 253 = .ok (.aload_n 0, 1) := by decide +kernel
theorem dL_law_254 : decode cL_law 254 = .ok (.iload_n 3, 1) := by decide +kernel
theorem dL_law_255 : decode cL_law 255 = .ok (.iconst 2, 1) := by decide +kernel
theorem dL_law_256 : decode cL_law 256 = .ok (.iadd, 1) := by decide +kernel
theorem dL_law_257 : decode cL_law 257 = .ok (.iaload, 1) := by decide +kernel
theorem dL_law_258 : decode cL_law 258 = .ok (.aload_n 0, 1) := by decide +kernel
theorem dL_law_259 : decode cL_law 259 = .ok (.iload_n 3, 1) := by decide +kernel
theorem dL_law_260 : decode cL_law 260 = .ok (.iconst 3, 1) := by decide +kernel
theorem dL_law_261 : decode cL_law 261 = .ok (.iadd, 1) := by decide +kernel
theorem dL_law_262 : decode cL_law 262 = .ok (.iaload, 1) := by decide +kernel
theorem dL_law_263 : decode cL_law 263 = .ok (.invokevirtual 17, 3) := by decide +kernel
theorem dL_law_266 : decode cL_law 266 = .ok (.if_icmp .eq 1344, 3) := by decide +kernel
theorem dL_law_269 : decode cL_law 269 = .ok (.iconst 0, 1) := by decide +kernel
theorem dL_law_270 : decode cL_law 270 = .ok (.ireturn, 1) := by decide +kernel
theorem dL_law_271 : decode cL_law 271 = .ok (.aload_n 1, 1) := by decide +kernel
theorem dL_law_272 : decode cL_law 272 = .ok (.aload_n 0, 1) := by decide +kernel
theorem dL_law_273 : decode cL_law 273 = .ok (.iload_n 3, 1) := by decide +kernel
theorem dL_law_274 : decode cL_law 274 = .ok (.iconst 1, 1) := by decide +kernel
theorem dL_law_275 : decode cL_law 275 = .ok (.iadd, 1) := by decide +kernel
theorem dL_law_276 : decode cL_law 276 = .ok (.iaload, 1) := by decide +kernel
theorem dL_law_277 : decode cL_law 277 = .ok (.aload_n 0, 1) := by decide +kernel
theorem dL_law_278 : decode cL_law 278 = .ok (.iload_n 3, 1) := by decide +kernel
theorem dL_law_279 : decode cL_law 279 = .ok (.iconst 2, 1) := by decide +kernel
theorem dL_law_280 : decode cL_law 280 = .ok (.iadd, 1) := by decide +kernel
theorem dL_law_281 : decode cL_law 281 = .ok (.iaload, 1) := by decide +kernel
theorem dL_law_282 : decode cL_law 282 = .ok (.aload_n 0, 1) := by decide +kernel
theorem dL_law_283 : decode cL_law 283 = .ok (.iload_n 3, 1) := by decide +kernel
theorem dL_law_284 : decode cL_law 284 = .ok (.iconst 3, 1) := by decide +kernel
theorem dL_law_285 : decode cL_law 285 = .ok (.iadd, 1) := by decide +kernel
theorem dL_law_286 : decode cL_law 286 = .ok (.iaload, 1) := by decide +kernel
theorem dL_law_287 : decode cL_law 287 = .ok (.i2l, 1) := by decide +kernel
theorem dL_law_288 : decode cL_law 288 = .ok (.bipush 32, 2) := by decide +kernel
theorem dL_law_290 : decode cL_law 290 = .ok (.lshl, 1) := by decide +kernel
theorem dL_law_291 : decode cL_law 291 = .ok (.aload_n 0, 1) := by decide +kernel
theorem dL_law_292 : decode cL_law 292 = .ok (.iload_n 3, 1) := by decide +kernel
theorem dL_law_293 : decode cL_law 293 = .ok (.iconst 4, 1) := by decide +kernel
theorem dL_law_294 : decode cL_law 294 = .ok (.iadd, 1) := by decide +kernel
theorem dL_law_295 : decode cL_law 295 = .ok (.iaload, 1) := by decide +kernel
theorem dL_law_296 : decode cL_law 296 = .ok (.i2l, 1) := by decide +kernel
theorem dL_law_297 : decode cL_law 297 = .ok (.ldc2_w 18, 3) := by decide +kernel
theorem dL_law_300 : decode cL_law 300 = .ok (.land, 1) := by decide +kernel
theorem dL_law_301 : decode cL_law 301 = .ok (.lor, 1) := by decide +kernel
theorem dL_law_302 : decode cL_law 302 = .ok (.invokevirtual 20, 3) := by decide +kernel
theorem dL_law_305 : decode cL_law 305 = .ok (.aload_n 2, 1) := by decide +kernel
theorem dL_law_306 : decode cL_law 306 = .ok (.aload_n 0, 1) := by decide +kernel
theorem dL_law_307 : decode cL_law 307 = .ok (.iload_n 3, 1) := by decide +kernel
theorem dL_law_308 : decode cL_law 308 = .ok (.iconst 1, 1) := by decide +kernel
theorem dL_law_309 : decode cL_law 309 = .ok (.iadd, 1) := by decide +kernel
theorem dL_law_310 : decode cL_law 310 = .ok (.iaload, 1) := by decide +kernel
theorem dL_law_311 : decode cL_law 311 = .ok (.aload_n 0, 1) := by decide +kernel
theorem dL_law_312 : decode cL_law 312 = .ok (.iload_n 3, 1) := by decide +kernel
theorem dL_law_313 : decode cL_law 313 = .ok (.iconst 2, 1) := by decide +kernel
theorem dL_law_314 : decode cL_law 314 = .ok (.iadd, 1) := by decide +kernel
theorem dL_law_315 : decode cL_law 315 = .ok (.iaload, 1) := by decide +kernel
theorem dL_law_316 : decode cL_law 316 = .ok (.aload_n 0, 1) := by decide +kernel
theorem dL_law_317 : decode cL_law 317 = .ok (.iload_n 3, 1) := by decide +kernel
theorem dL_law_318 : decode cL_law 318 = .ok (.iconst 3, 1) := by decide +kernel
theorem dL_law_319 : decode cL_law 319 = .ok (.iadd, 1) := by decide +kernel
theorem dL_law_320 : decode cL_law 320 = .ok (.iaload, 1) := by decide +kernel
theorem dL_law_321 : decode cL_law 321 = .ok (.i2l, 1) := by decide +kernel
theorem dL_law_322 : decode cL_law 322 = .ok (.bipush 32, 2) := by decide +kernel
theorem dL_law_324 : decode cL_law 324 = .ok (.lshl, 1) := by decide +kernel
theorem dL_law_325 : decode cL_law 325 = .ok (.aload_n 0, 1) := by decide +kernel
theorem dL_law_326 : decode cL_law 326 = .ok (.iload_n 3, 1) := by decide +kernel
theorem dL_law_327 : decode cL_law 327 = .ok (.iconst 4, 1) := by decide +kernel
theorem dL_law_328 : decode cL_law 328 = .ok (.iadd, 1) := by decide +kernel
theorem dL_law_329 : decode cL_law 329 = .ok (.iaload, 1) := by decide +kernel
theorem dL_law_330 : decode cL_law 330 = .ok (.i2l, 1) := by decide +kernel
theorem dL_law_331 : decode cL_law 331 = .ok (.ldc2_w 18, 3) := by decide +kernel
theorem dL_law_334 : decode cL_law 334 = .ok (.land, 1) := by decide +kernel
theorem dL_law_335 : decode cL_law 335 = .ok (.lor, 1) := by decide +kernel
theorem dL_law_336 : decode cL_law 336 = .ok (.invokevirtual 24, 3) := by decide +kernel
theorem dL_law_339 : decode cL_law 339 = .ok (.if_icmp .eq 1271, 3) := by decide +kernel
theorem dL_law_342 : decode cL_law 342 = .ok (.iconst 0, 1) := by decide +kernel
theorem dL_law_343 : decode cL_law 343 = .ok (.ireturn, 1) := by decide +kernel
theorem dL_law_344 : decode cL_law 344 = .ok (.aload_n 1, 1) := by decide +kernel
theorem dL_law_345 : decode cL_law 345 = .ok (.aload_n 0, 1) := by decide +kernel
theorem dL_law_346 : decode cL_law 346 = .ok (.iload_n 3, 1) := by decide +kernel
theorem dL_law_347 : decode cL_law 347 = .ok (.iconst 1, 1) := by decide +kernel
theorem dL_law_348 : decode cL_law 348 = .ok (.iadd, 1) := by decide +kernel
theorem dL_law_349 : decode cL_law 349 = .ok (.iaload, 1) := by decide +kernel
theorem dL_law_350 : decode cL_law 350 = .ok (.aload_n 0, 1) := by decide +kernel
theorem dL_law_351 : decode cL_law 351 = .ok (.iload_n 3, 1) := by decide +kernel
theorem dL_law_352 : decode cL_law 352 = .ok (.iconst 2, 1) := by decide +kernel
theorem dL_law_353 : decode cL_law 353 = .ok (.iadd, 1) := by decide +kernel
theorem dL_law_354 : decode cL_law 354 = .ok (.iaload, 1) := by decide +kernel
theorem dL_law_355 : decode cL_law 355 = .ok (.aload_n 0, 1) := by decide +kernel
theorem dL_law_356 : decode cL_law 356 = .ok (.iload_n 3, 1) := by decide +kernel
theorem dL_law_357 : decode cL_law 357 = .ok (.iconst 3, 1) := by decide +kernel
theorem dL_law_358 : decode cL_law 358 = .ok (.iadd, 1) := by decide +kernel
theorem dL_law_359 : decode cL_law 359 = .ok (.iaload, 1) := by decide +kernel
theorem dL_law_360 : decode cL_law 360 = .ok (.aload_n 0, 1) := by decide +kernel
theorem dL_law_361 : decode cL_law 361 = .ok (.iload_n 3, 1) := by decide +kernel
theorem dL_law_362 : decode cL_law 362 = .ok (.iconst 4, 1) := by decide +kernel
theorem dL_law_363 : decode cL_law 363 = .ok (.iadd, 1) := by decide +kernel
theorem dL_law_364 : decode cL_law 364 = .ok (.iaload, 1) := by decide +kernel
theorem dL_law_365 : decode cL_law 365 = .ok (.aload_n 0, 1) := by decide +kernel
theorem dL_law_366 : decode cL_law 366 = .ok (.iload_n 3, 1) := by decide +kernel
theorem dL_law_367 : decode cL_law 367 = .ok (.iconst 5, 1) := by decide +kernel
theorem dL_law_368 : decode cL_law 368 = .ok (.iadd, 1) := by decide +kernel
theorem dL_law_369 : decode cL_law 369 = .ok (.iaload, 1) := by decide +kernel
theorem dL_law_370 : decode cL_law 370 = .ok (.invokevirtual 25, 3) := by decide +kernel
theorem dL_law_373 : decode cL_law 373 = .ok (.aload_n 2, 1) := by decide +kernel
theorem dL_law_374 : decode cL_law 374 = .ok (.aload_n 0, 1) := by decide +kernel
theorem dL_law_375 : decode cL_law 375 = .ok (.iload_n 3, 1) := by decide +kernel
theorem dL_law_376 : decode cL_law 376 = .ok (.iconst 1, 1) := by decide +kernel
theorem dL_law_377 : decode cL_law 377 = .ok (.iadd, 1) := by decide +kernel
theorem dL_law_378 : decode cL_law 378 = .ok (.iaload, 1) := by decide +kernel
theorem dL_law_379 : decode cL_law 379 = .ok (.aload_n 0, 1) := by decide +kernel
theorem dL_law_380 : decode cL_law 380 = .ok (.iload_n 3, 1) := by decide +kernel
theorem dL_law_381 : decode cL_law 381 = .ok (.iconst 2, 1) := by decide +kernel
theorem dL_law_382 : decode cL_law 382 = .ok (.iadd, 1) := by decide +kernel
theorem dL_law_383 : decode cL_law 383 = .ok (.iaload, 1) := by decide +kernel
theorem dL_law_384 : decode cL_law 384 = .ok (.aload_n 0, 1) := by decide +kernel
theorem dL_law_385 : decode cL_law 385 = .ok (.iload_n 3, 1) := by decide +kernel
theorem dL_law_386 : decode cL_law 386 = .ok (.iconst 3, 1) := by decide +kernel
theorem dL_law_387 : decode cL_law 387 = .ok (.iadd, 1) := by decide +kernel
theorem dL_law_388 : decode cL_law 388 = .ok (.iaload, 1) := by decide +kernel
theorem dL_law_389 : decode cL_law 389 = .ok (.aload_n 0, 1) := by decide +kernel
theorem dL_law_390 : decode cL_law 390 = .ok (.iload_n 3, 1) := by decide +kernel
theorem dL_law_391 : decode cL_law 391 = .ok (.iconst 4, 1) := by decide +kernel
theorem dL_law_392 : decode cL_law 392 = .ok (.iadd, 1) := by decide +kernel
theorem dL_law_393 : decode cL_law 393 = .ok (.iaload, 1) := by decide +kernel
theorem dL_law_394 : decode cL_law 394 = .ok (.aload_n 0, 1) := by decide +kernel
theorem dL_law_395 : decode cL_law 395 = .ok (.iload_n 3, 1) := by decide +kernel
theorem dL_law_396 : decode cL_law 396 = .ok (.iconst 5, 1) := by decide +kernel
theorem dL_law_397 : decode cL_law 397 = .ok (.iadd, 1) := by decide +kernel
theorem dL_law_398 : decode cL_law 398 = .ok (.iaload, 1) := by decide +kernel
theorem dL_law_399 : decode cL_law 399 = .ok (.invokevirtual 29, 3) := by decide +kernel
theorem dL_law_402 : decode cL_law 402 = .ok (.if_icmp .eq 1208, 3) := by decide +kernel
theorem dL_law_405 : decode cL_law 405 = .ok (.iconst 0, 1) := by decide +kernel
theorem dL_law_406 : decode cL_law 406 = .ok (.ireturn, 1) := by decide +kernel
theorem dL_law_407 : decode cL_law 407 = .ok (.aload_n 1, 1) := by decide +kernel
theorem dL_law_408 : decode cL_law 408 = .ok (.aload_n 0, 1) := by decide +kernel
theorem dL_law_409 : decode cL_law 409 = .ok (.iload_n 3, 1) := by decide +kernel
theorem dL_law_410 : decode cL_law 410 = .ok (.iconst 1, 1) := by decide +kernel
theorem dL_law_411 : decode cL_law 411 = .ok (.iadd, 1) := by decide +kernel
theorem dL_law_412 : decode cL_law 412 = .ok (.iaload, 1) := by decide +kernel
theorem dL_law_413 : decode cL_law 413 = .ok (.aload_n 0, 1) := by decide +kernel
theorem dL_law_414 : decode cL_law 414 = .ok (.iload_n 3, 1) := by decide +kernel
theorem dL_law_415 : decode cL_law 415 = .ok (.iconst 2, 1) := by decide +kernel
theorem dL_law_416 : decode cL_law 416 = .ok (.iadd, 1) := by decide +kernel
theorem dL_law_417 : decode cL_law 417 = .ok (.iaload, 1) := by decide +kernel
theorem dL_law_418 : decode cL_law 418 = .ok (.invokevirtual 30, 3) := by decide +kernel
theorem dL_law_421 : decode cL_law 421 = .ok (.aload_n 2, 1) := by decide +kernel
theorem dL_law_422 : decode cL_law 422 = .ok (.aload_n 0, 1) := by decide +kernel
theorem dL_law_423 : decode cL_law 423 = .ok (.iload_n 3, 1) := by decide +kernel
theorem dL_law_424 : decode cL_law 424 = .ok (.iconst 1, 1) := by decide +kernel
theorem dL_law_425 : decode cL_law 425 = .ok (.iadd, 1) := by decide +kernel
theorem dL_law_426 : decode cL_law 426 = .ok (.iaload, 1) := by decide +kernel
theorem dL_law_427 : decode cL_law 427 = .ok (.aload_n 0, 1) := by decide +kernel
theorem dL_law_428 : decode cL_law 428 = .ok (.iload_n 3, 1) := by decide +kernel
theorem dL_law_429 : decode cL_law 429 = .ok (.iconst 2, 1) := by decide +kernel
theorem dL_law_430 : decode cL_law 430 = .ok (.iadd, 1) := by decide +kernel
theorem dL_law_431 : decode cL_law 431 = .ok (.iaload, 1) := by decide +kernel
theorem dL_law_432 : decode cL_law 432 = .ok (.invokevirtual 34, 3) := by decide +kernel
theorem dL_law_435 : decode cL_law 435 = .ok (.lcmp, 1) := by decide +kernel
theorem dL_law_436 : decode cL_law 436 = .ok (.ifCond .eq 1174, 3) := by decide +kernel
theorem dL_law_439 : decode cL_law 439 = .ok (.iconst 0, 1) := by decide +kernel
theorem dL_law_440 : decode cL_law 440 = .ok (.ireturn, 1) := by decide +kernel
theorem dL_law_441 : decode cL_law 441 = .ok (.aload_n 1, 1) := by decide +kernel
theorem dL_law_442 : decode cL_law 442 = .ok (.aload_n 0, 1) := by decide +kernel
theorem dL_law_443 : decode cL_law 443 = .ok (.iload_n 3, 1) := by decide +kernel
theorem dL_law_444 : decode cL_law 444 = .ok (.iconst 1, 1) := by decide +kernel
theorem dL_law_445 : decode cL_law 445 = .ok (.iadd, 1) := by decide +kernel
theorem dL_law_446 : decode cL_law 446 = .ok (.iaload, 1) := by decide +kernel
theorem dL_law_447 : decode cL_law 447 = .ok (.aload_n 0, 1) := by decide +kernel
theorem dL_law_448 : decode cL_law 448 = .ok (.iload_n 3, 1) := by decide +kernel
theorem dL_law_449 : decode cL_law 449 = .ok (.iconst 2, 1) := by decide +kernel
theorem dL_law_450 : decode cL_law 450 = .ok (.iadd, 1) := by decide +kernel
theorem dL_law_451 : decode cL_law 451 = .ok (.iaload, 1) := by decide +kernel
theorem dL_law_452 : decode cL_law 452 = .ok (.invokevirtual 35, 3) := by decide +kernel
theorem dL_law_455 : decode cL_law 455 = .ok (.aload_n 2, 1) := by decide +kernel
theorem dL_law_456 : decode cL_law 456 = .ok (.aload_n 0, 1) := by decide +kernel
theorem dL_law_457 : decode cL_law 457 = .ok (.iload_n 3, 1) := by decide +kernel
theorem dL_law_458 : decode cL_law 458 = .ok (.iconst 1, 1) := by decide +kernel
theorem dL_law_459 : decode cL_law 459 = .ok (.iadd, 1) := by decide +kernel
theorem dL_law_460 : decode cL_law 460 = .ok (.iaload, 1) := by decide +kernel
theorem dL_law_461 : decode cL_law 461 = .ok (.aload_n 0, 1) := by decide +kernel
theorem dL_law_462 : decode cL_law 462 = .ok (.iload_n 3, 1) := by decide +kernel
theorem dL_law_463 : decode cL_law 463 = .ok (.iconst 2, 1) := by decide +kernel
theorem dL_law_464 : decode cL_law 464 = .ok (.iadd, 1) := by decide +kernel
theorem dL_law_465 : decode cL_law 465 = .ok (.iaload, 1) := by decide +kernel
theorem dL_law_466 : decode cL_law 466 = .ok (.invokevirtual 39, 3) := by decide +kernel
theorem dL_law_469 : decode cL_law 469 = .ok (.if_icmp .eq 1141, 3) := by decide +kernel
theorem dL_law_472 : decode cL_law 472 = .ok (.iconst 0, 1) := by decide +kernel
theorem dL_law_473 : decode cL_law 473 = .ok (.ireturn, 1) := by decide +kernel
theorem dL_law_474 : decode cL_law 474 = .ok (.aload_n 1, 1) := by decide +kernel
theorem dL_law_475 : decode cL_law 475 = .ok (.aload_n 0, 1) := by decide +kernel
theorem dL_law_476 : decode cL_law 476 = .ok (.iload_n 3, 1) := by decide +kernel
theorem dL_law_477 : decode cL_law 477 = .ok (.iconst 1, 1) := by decide +kernel
theorem dL_law_478 : decode cL_law 478 = .ok (.iadd, 1) := by decide +kernel
theorem dL_law_479 : decode cL_law 479 = .ok (.iaload, 1) := by decide +kernel
theorem dL_law_480 : decode cL_law 480 = .ok (.invokevirtual 40, 3) := by decide +kernel
theorem dL_law_483 : decode cL_law 483 = .ok (.aload_n 2, 1) := by decide +kernel
theorem dL_law_484 : decode cL_law 484 = .ok (.aload_n 0, 1) := by decide +kernel
theorem dL_law_485 : decode cL_law 485 = .ok (.iload_n 3, 1) := by decide +kernel
theorem dL_law_486 : decode cL_law 486 = .ok (.iconst 1, 1) := by decide +kernel
theorem dL_law_487 : decode cL_law 487 = .ok (.iadd, 1) := by decide +kernel
theorem dL_law_488 : decode cL_law 488 = .ok (.iaload, 1) := by decide +kernel
theorem dL_law_489 : decode cL_law 489 = .ok (.invokevirtual 44, 3) := by decide +kernel
theorem dL_law_492 : decode cL_law 492 = .ok (.if_icmp .eq 1118, 3) := by decide +kernel
theorem dL_law_495 : decode cL_law 495 = .ok (.iconst 0, 1) := by decide +kernel
theorem dL_law_496 : decode cL_law 496 = .ok (.ireturn, 1) := by decide +kernel
theorem dL_law_497 : decode cL_law 497 = .ok (.aload_n 1, 1) := by decide +kernel
theorem dL_law_498 : decode cL_law 498 = .ok (.aload_n 0, 1) := by decide +kernel
theorem dL_law_499 : decode cL_law 499 = .ok (.iload_n 3, 1) := by decide +kernel
theorem dL_law_500 : decode cL_law 500 = .ok (.iconst 1, 1) := by decide +kernel
theorem dL_law_501 : decode cL_law 501 = .ok (.iadd, 1) := by decide +kernel
theorem dL_law_502 : decode cL_law 502 = .ok (.iaload, 1) := by decide +kernel
theorem dL_law_503 : decode cL_law 503 = .ok (.aload_n 0, 1) := by decide +kernel
theorem dL_law_504 : decode cL_law 504 = .ok (.iload_n 3, 1) := by decide +kernel
theorem dL_law_505 : decode cL_law 505 = .ok (.iconst 2, 1) := by decide +kernel
theorem dL_law_506 : decode cL_law 506 = .ok (.iadd, 1) := by decide +kernel
theorem dL_law_507 : decode cL_law 507 = .ok (.iaload, 1) := by decide +kernel
theorem dL_law_508 : decode cL_law 508 = .ok (.invokevirtual 45, 3) := by decide +kernel
theorem dL_law_511 : decode cL_law 511 = .ok (.aload_n 2, 1) := by decide +kernel
theorem dL_law_512 : decode cL_law 512 = .ok (.aload_n 0, 1) := by decide +kernel
theorem dL_law_513 : decode cL_law 513 = .ok (.iload_n 3, 1) := by decide +kernel
theorem dL_law_514 : decode cL_law 514 = .ok (.iconst 1, 1) := by decide +kernel
theorem dL_law_515 : decode cL_law 515 = .ok (.iadd, 1) := by decide +kernel
theorem dL_law_516 : decode cL_law 516 = .ok (.iaload, 1) := by decide +kernel
theorem dL_law_517 : decode cL_law 517 = .ok (.aload_n 0, 1) := by decide +kernel
theorem dL_law_518 : decode cL_law 518 = .ok (.iload_n 3, 1) := by decide +kernel
theorem dL_law_519 : decode cL_law 519 = .ok (.iconst 2, 1) := by decide +kernel
theorem dL_law_520 : decode cL_law 520 = .ok (.iadd, 1) := by decide +kernel
theorem dL_law_521 : decode cL_law 521 = .ok (.iaload, 1) := by decide +kernel
theorem dL_law_522 : decode cL_law 522 = .ok (.invokevirtual 48, 3) := by decide +kernel
theorem dL_law_525 : decode cL_law 525 = .ok (.if_icmp .eq 1085, 3) := by decide +kernel
theorem dL_law_528 : decode cL_law 528 = .ok (.iconst 0, 1) := by decide +kernel
theorem dL_law_529 : decode cL_law 529 = .ok (.ireturn, 1) := by decide +kernel
theorem dL_law_530 : decode cL_law 530 = .ok (.aload_n 1, 1) := by decide +kernel
theorem dL_law_531 : decode cL_law 531 = .ok (.aload_n 0, 1) := by decide +kernel
theorem dL_law_532 : decode cL_law 532 = .ok (.iload_n 3, 1) := by decide +kernel
theorem dL_law_533 : decode cL_law 533 = .ok (.iconst 1, 1) := by decide +kernel
theorem dL_law_534 : decode cL_law 534 = .ok (.iadd, 1) := by decide +kernel
theorem dL_law_535 : decode cL_law 535 = .ok (.iaload, 1) := by decide +kernel
theorem dL_law_536 : decode cL_law 536 = .ok (.invokevirtual 49, 3) := by decide +kernel
theorem dL_law_539 : decode cL_law 539 = .ok (.aload_n 2, 1) := by decide +kernel
theorem dL_law_540 : decode cL_law 540 = .ok (.aload_n 0, 1) := by decide +kernel
theorem dL_law_541 : decode cL_law 541 = .ok (.iload_n 3, 1) := by decide +kernel
theorem dL_law_542 : decode cL_law 542 = .ok (.iconst 1, 1) := by decide +kernel
theorem dL_law_543 : decode cL_law 543 = .ok (.iadd, 1) := by decide +kernel
theorem dL_law_544 : decode cL_law 544 = .ok (.iaload, 1) := by decide +kernel
theorem dL_law_545 : decode cL_law 545 = .ok (.invokevirtual 52, 3) := by decide +kernel
theorem dL_law_548 : decode cL_law 548 = .ok (.if_icmp .eq 1062, 3) := by decide +kernel
theorem dL_law_551 : decode cL_law 551 = .ok (.iconst 0, 1) := by decide +kernel
theorem dL_law_552 : decode cL_law 552 = .ok (.ireturn, 1) := by decide +kernel
theorem dL_law_553 : decode cL_law 553 = .ok (.aload_n 1, 1) := by decide +kernel
theorem dL_law_554 : decode cL_law 554 = .ok (.aload_n 0, 1) := by decide +kernel
theorem dL_law_555 : decode cL_law 555 = .ok (.iload_n 3, 1) := by decide +kernel
theorem dL_law_556 : decode cL_law 556 = .ok (.iconst 1, 1) := by decide +kernel
theorem dL_law_557 : decode cL_law 557 = .ok (.iadd, 1) := by decide +kernel
theorem dL_law_558 : decode cL_law 558 = .ok (.iaload, 1) := by decide +kernel
theorem dL_law_559 : decode cL_law 559 = .ok (.aload_n 0, 1) := by decide +kernel
theorem dL_law_560 : decode cL_law 560 = .ok (.iload_n 3, 1) := by decide +kernel
theorem dL_law_561 : decode cL_law 561 = .ok (.iconst 2, 1) := by decide +kernel
theorem dL_law_562 : decode cL_law 562 = .ok (.iadd, 1) := by decide +kernel
theorem dL_law_563 : decode cL_law 563 = .ok (.iaload, 1) := by decide +kernel
theorem dL_law_564 : decode cL_law 564 = .ok (.aload_n 0, 1) := by decide +kernel
theorem dL_law_565 : decode cL_law 565 = .ok (.iload_n 3, 1) := by decide +kernel
theorem dL_law_566 : decode cL_law 566 = .ok (.iconst 3, 1) := by decide +kernel
theorem dL_law_567 : decode cL_law 567 = .ok (.iadd, 1) := by decide +kernel
theorem dL_law_568 : decode cL_law 568 = .ok (.iaload, 1) := by decide +kernel
theorem dL_law_569 : decode cL_law 569 = .ok (.invokevirtual 53, 3) := by decide +kernel
theorem dL_law_572 : decode cL_law 572 = .ok (.aload_n 2, 1) := by decide +kernel
theorem dL_law_573 : decode cL_law 573 = .ok (.aload_n 0, 1) := by decide +kernel
theorem dL_law_574 : decode cL_law 574 = .ok (.iload_n 3, 1) := by decide +kernel
theorem dL_law_575 : decode cL_law 575 = .ok (.iconst 1, 1) := by decide +kernel
theorem dL_law_576 : decode cL_law 576 = .ok (.iadd, 1) := by decide +kernel
theorem dL_law_577 : decode cL_law 577 = .ok (.iaload, 1) := by decide +kernel
theorem dL_law_578 : decode cL_law 578 = .ok (.aload_n 0, 1) := by decide +kernel
theorem dL_law_579 : decode cL_law 579 = .ok (.iload_n 3, 1) := by decide +kernel
theorem dL_law_580 : decode cL_law 580 = .ok (.iconst 2, 1) := by decide +kernel
theorem dL_law_581 : decode cL_law 581 = .ok (.iadd, 1) := by decide +kernel
theorem dL_law_582 : decode cL_law 582 = .ok (.iaload, 1) := by decide +kernel
theorem dL_law_583 : decode cL_law 583 = .ok (.aload_n 0, 1) := by decide +kernel
theorem dL_law_584 : decode cL_law 584 = .ok (.iload_n 3, 1) := by decide +kernel
theorem dL_law_585 : decode cL_law 585 = .ok (.iconst 3, 1) := by decide +kernel
theorem dL_law_586 : decode cL_law 586 = .ok (.iadd, 1) := by decide +kernel
theorem dL_law_587 : decode cL_law 587 = .ok (.iaload, 1) := by decide +kernel
theorem dL_law_588 : decode cL_law 588 = .ok (.invokevirtual 56, 3) := by decide +kernel
theorem dL_law_591 : decode cL_law 591 = .ok (.if_icmp .eq 1019, 3) := by decide +kernel
theorem dL_law_594 : decode cL_law 594 = .ok (.iconst 0, 1) := by decide +kernel
theorem dL_law_595 : decode cL_law 595 = .ok (.ireturn, 1) := by decide +kernel
theorem dL_law_596 : decode cL_law 596 = .ok (.aload_n 1, 1) := by decide +kernel
theorem dL_law_597 : decode cL_law 597 = .ok (.aload_n 0, 1) := by decide +kernel
theorem dL_law_598 : decode cL_law 598 = .ok (.iload_n 3, 1) := by decide +kernel
theorem dL_law_599 : decode cL_law 599 = .ok (.iconst 1, 1) := by decide +kernel
theorem dL_law_600 : decode cL_law 600 = .ok (.iadd, 1) := by decide +kernel
theorem dL_law_601 : decode cL_law 601 = .ok (.iaload, 1) := by decide +kernel
theorem dL_law_602 : decode cL_law 602 = .ok (.aload_n 0, 1) := by decide +kernel
theorem dL_law_603 : decode cL_law 603 = .ok (.iload_n 3, 1) := by decide +kernel
theorem dL_law_604 : decode cL_law 604 = .ok (.iconst 2, 1) := by decide +kernel
theorem dL_law_605 : decode cL_law 605 = .ok (.iadd, 1) := by decide +kernel
theorem dL_law_606 : decode cL_law 606 = .ok (.iaload, 1) := by decide +kernel
theorem dL_law_607 : decode cL_law 607 = .ok (.invokevirtual 57, 3) := by decide +kernel
theorem dL_law_610 : decode cL_law 610 = .ok (.aload_n 2, 1) := by decide +kernel
theorem dL_law_611 : decode cL_law 611 = .ok (.aload_n 0, 1) := by decide +kernel
theorem dL_law_612 : decode cL_law 612 = .ok (.iload_n 3, 1) := by decide +kernel
theorem dL_law_613 : decode cL_law 613 = .ok (.iconst 1, 1) := by decide +kernel
theorem dL_law_614 : decode cL_law 614 = .ok (.iadd, 1) := by decide +kernel
theorem dL_law_615 : decode cL_law 615 = .ok (.iaload, 1) := by decide +kernel
theorem dL_law_616 : decode cL_law 616 = .ok (.aload_n 0, 1) := by decide +kernel
theorem dL_law_617 : decode cL_law 617 = .ok (.iload_n 3, 1) := by decide +kernel
theorem dL_law_618 : decode cL_law 618 = .ok (.iconst 2, 1) := by decide +kernel
theorem dL_law_619 : decode cL_law 619 = .ok (.iadd, 1) := by decide +kernel
theorem dL_law_620 : decode cL_law 620 = .ok (.iaload, 1) := by decide +kernel
theorem dL_law_621 : decode cL_law 621 = .ok (.invokevirtual 60, 3) := by decide +kernel
theorem dL_law_624 : decode cL_law 624 = .ok (.if_icmp .eq 986, 3) := by decide +kernel
theorem dL_law_627 : decode cL_law 627 = .ok (.iconst 0, 1) := by decide +kernel
theorem dL_law_628 : decode cL_law 628 = .ok (.ireturn, 1) := by decide +kernel
theorem dL_law_629 : decode cL_law 629 = .ok (.aload_n 1, 1) := by decide +kernel
theorem dL_law_630 : decode cL_law 630 = .ok (.aload_n 0, 1) := by decide +kernel
theorem dL_law_631 : decode cL_law 631 = .ok (.iload_n 3, 1) := by decide +kernel
theorem dL_law_632 : decode cL_law 632 = .ok (.iconst 1, 1) := by decide +kernel
theorem dL_law_633 : decode cL_law 633 = .ok (.iadd, 1) := by decide +kernel
theorem dL_law_634 : decode cL_law 634 = .ok (.iaload, 1) := by decide +kernel
theorem dL_law_635 : decode cL_law 635 = .ok (.aload_n 0, 1) := by decide +kernel
theorem dL_law_636 : decode cL_law 636 = .ok (.iload_n 3, 1) := by decide +kernel
theorem dL_law_637 : decode cL_law 637 = .ok (.iconst 2, 1) := by decide +kernel
theorem dL_law_638 : decode cL_law 638 = .ok (.iadd, 1) := by decide +kernel
theorem dL_law_639 : decode cL_law 639 = .ok (.iaload, 1) := by decide +kernel
theorem dL_law_640 : decode cL_law 640 = .ok (.aload_n 0, 1) := by decide +kernel
theorem dL_law_641 : decode cL_law 641 = .ok (.iload_n 3, 1) := by decide +kernel
theorem dL_law_642 : decode cL_law 642 = .ok (.iconst 3, 1) := by decide +kernel
theorem dL_law_643 : decode cL_law 643 = .ok (.iadd, 1) := by decide +kernel
theorem dL_law_644 : decode cL_law 644 = .ok (.iaload, 1) := by decide +kernel
theorem dL_law_645 : decode cL_law 645 = .ok (.invokevirtual 61, 3) := by decide +kernel
theorem dL_law_648 : decode cL_law 648 = .ok (.aload_n 2, 1) := by decide +kernel
theorem dL_law_649 : decode cL_law 649 = .ok (.aload_n 0, 1) := by decide +kernel
theorem dL_law_650 : decode cL_law 650 = .ok (.iload_n 3, 1) := by decide +kernel
theorem dL_law_651 : decode cL_law 651 = .ok (.iconst 1, 1) := by decide +kernel
theorem dL_law_652 : decode cL_law 652 = .ok (.iadd, 1) := by decide +kernel
theorem dL_law_653 : decode cL_law 653 = .ok (.iaload, 1) := by decide +kernel
theorem dL_law_654 : decode cL_law 654 = .ok (.aload_n 0, 1) := by decide +kernel
theorem dL_law_655 : decode cL_law 655 = .ok (.iload_n 3, 1) := by decide +kernel
theorem dL_law_656 : decode cL_law 656 = .ok (.iconst 2, 1) := by decide +kernel
theorem dL_law_657 : decode cL_law 657 = .ok (.iadd, 1) := by decide +kernel
theorem dL_law_658 : decode cL_law 658 = .ok (.iaload, 1) := by decide +kernel
theorem dL_law_659 : decode cL_law 659 = .ok (.aload_n 0, 1) := by decide +kernel
theorem dL_law_660 : decode cL_law 660 = .ok (.iload_n 3, 1) := by decide +kernel
theorem dL_law_661 : decode cL_law 661 = .ok (.iconst 3, 1) := by decide +kernel
theorem dL_law_662 : decode cL_law 662 = .ok (.iadd, 1) := by decide +kernel
theorem dL_law_663 : decode cL_law 663 = .ok (.iaload, 1) := by decide +kernel
theorem dL_law_664 : decode cL_law 664 = .ok (.invokevirtual 64, 3) := by decide +kernel
theorem dL_law_667 : decode cL_law 667 = .ok (.if_icmp .eq 943, 3) := by decide +kernel
theorem dL_law_670 : decode cL_law 670 = .ok (.iconst 0, 1) := by decide +kernel
theorem dL_law_671 : decode cL_law 671 = .ok (.ireturn, 1) := by decide +kernel
theorem dL_law_672 : decode cL_law 672 = .ok (.aload_n 1, 1) := by decide +kernel
theorem dL_law_673 : decode cL_law 673 = .ok (.aload_n 0, 1) := by decide +kernel
theorem dL_law_674 : decode cL_law 674 = .ok (.iload_n 3, 1) := by decide +kernel
theorem dL_law_675 : decode cL_law 675 = .ok (.iconst 1, 1) := by decide +kernel
theorem dL_law_676 : decode cL_law 676 = .ok (.iadd, 1) := by decide +kernel
theorem dL_law_677 : decode cL_law 677 = .ok (.iaload, 1) := by decide +kernel
theorem dL_law_678 : decode cL_law 678 = .ok (.aload_n 0, 1) := by decide +kernel
theorem dL_law_679 : decode cL_law 679 = .ok (.iload_n 3, 1) := by decide +kernel
theorem dL_law_680 : decode cL_law 680 = .ok (.iconst 2, 1) := by decide +kernel
theorem dL_law_681 : decode cL_law 681 = .ok (.iadd, 1) := by decide +kernel
theorem dL_law_682 : decode cL_law 682 = .ok (.iaload, 1) := by decide +kernel
theorem dL_law_683 : decode cL_law 683 = .ok (.invokevirtual 65, 3) := by decide +kernel
theorem dL_law_686 : decode cL_law 686 = .ok (.aload_n 2, 1) := by decide +kernel
theorem dL_law_687 : decode cL_law 687 = .ok (.aload_n 0, 1) := by decide +kernel
theorem dL_law_688 : decode cL_law 688 = .ok (.iload_n 3, 1) := by decide +kernel
theorem dL_law_689 : decode cL_law 689 = .ok (.iconst 1, 1) := by decide +kernel
theorem dL_law_690 : decode cL_law 690 = .ok (.iadd, 1) := by decide +kernel
theorem dL_law_691 : decode cL_law 691 = .ok (.iaload, 1) := by decide +kernel
theorem dL_law_692 : decode cL_law 692 = .ok (.aload_n 0, 1) := by decide +kernel
theorem dL_law_693 : decode cL_law 693 = .ok (.iload_n 3, 1) := by decide +kernel
theorem dL_law_694 : decode cL_law 694 = .ok (.iconst 2, 1) := by decide +kernel
theorem dL_law_695 : decode cL_law 695 = .ok (.iadd, 1) := by decide +kernel
theorem dL_law_696 : decode cL_law 696 = .ok (.iaload, 1) := by decide +kernel
theorem dL_law_697 : decode cL_law 697 = .ok (.invokevirtual 68, 3) := by decide +kernel
theorem dL_law_700 : decode cL_law 700 = .ok (.if_icmp .eq 910, 3) := by decide +kernel
theorem dL_law_703 : decode cL_law 703 = .ok (.iconst 0, 1) := by decide +kernel
theorem dL_law_704 : decode cL_law 704 = .ok (.ireturn, 1) := by decide +kernel
theorem dL_law_705 : decode cL_law 705 = .ok (.aload_n 1, 1) := by decide +kernel
theorem dL_law_706 : decode cL_law 706 = .ok (.aload_n 0, 1) := by decide +kernel
theorem dL_law_707 : decode cL_law 707 = .ok (.iload_n 3, 1) := by decide +kernel
theorem dL_law_708 : decode cL_law 708 = .ok (.iconst 1, 1) := by decide +kernel
theorem dL_law_709 : decode cL_law 709 = .ok (.iadd, 1) := by decide +kernel
theorem dL_law_710 : decode cL_law 710 = .ok (.iaload, 1) := by decide +kernel
theorem dL_law_711 : decode cL_law 711 = .ok (.aload_n 0, 1) := by decide +kernel
theorem dL_law_712 : decode cL_law 712 = .ok (.iload_n 3, 1) := by decide +kernel
theorem dL_law_713 : decode cL_law 713 = .ok (.iconst 2, 1) := by decide +kernel
theorem dL_law_714 : decode cL_law 714 = .ok (.iadd, 1) := by decide +kernel
theorem dL_law_715 : decode cL_law 715 = .ok (.iaload, 1) := by decide +kernel
theorem dL_law_716 : decode cL_law 716 = .ok (.invokevirtual 69, 3) := by decide +kernel
theorem dL_law_719 : decode cL_law 719 = .ok (.aload_n 2, 1) := by decide +kernel
theorem dL_law_720 : decode cL_law 720 = .ok (.aload_n 0, 1) := by decide +kernel
theorem dL_law_721 : decode cL_law 721 = .ok (.iload_n 3, 1) := by decide +kernel
theorem dL_law_722 : decode cL_law 722 = .ok (.iconst 1, 1) := by decide +kernel
theorem dL_law_723 : decode cL_law 723 = .ok (.iadd, 1) := by decide +kernel
theorem dL_law_724 : decode cL_law 724 = .ok (.iaload, 1) := by decide +kernel
theorem dL_law_725 : decode cL_law 725 = .ok (.aload_n 0, 1) := by decide +kernel
theorem dL_law_726 : decode cL_law 726 = .ok (.iload_n 3, 1) := by decide +kernel
theorem dL_law_727 : decode cL_law 727 = .ok (.iconst 2, 1) := by decide +kernel
theorem dL_law_728 : decode cL_law 728 = .ok (.iadd, 1) := by decide +kernel
theorem dL_law_729 : decode cL_law 729 = .ok (.iaload, 1) := by decide +kernel
theorem dL_law_730 : decode cL_law 730 = .ok (.invokevirtual 72, 3) := by decide +kernel
theorem dL_law_733 : decode cL_law 733 = .ok (.if_icmp .eq 877, 3) := by decide +kernel
theorem dL_law_736 : decode cL_law 736 = .ok (.iconst 0, 1) := by decide +kernel
theorem dL_law_737 : decode cL_law 737 = .ok (.ireturn, 1) := by decide +kernel
theorem dL_law_738 : decode cL_law 738 = .ok (.aload_n 1, 1) := by decide +kernel
theorem dL_law_739 : decode cL_law 739 = .ok (.aload_n 0, 1) := by decide +kernel
theorem dL_law_740 : decode cL_law 740 = .ok (.iload_n 3, 1) := by decide +kernel
theorem dL_law_741 : decode cL_law 741 = .ok (.iconst 1, 1) := by decide +kernel
theorem dL_law_742 : decode cL_law 742 = .ok (.iadd, 1) := by decide +kernel
theorem dL_law_743 : decode cL_law 743 = .ok (.iaload, 1) := by decide +kernel
theorem dL_law_744 : decode cL_law 744 = .ok (.aload_n 0, 1) := by decide +kernel
theorem dL_law_745 : decode cL_law 745 = .ok (.iload_n 3, 1) := by decide +kernel
theorem dL_law_746 : decode cL_law 746 = .ok (.iconst 2, 1) := by decide +kernel
theorem dL_law_747 : decode cL_law 747 = .ok (.iadd, 1) := by decide +kernel
theorem dL_law_748 : decode cL_law 748 = .ok (.iaload, 1) := by decide +kernel
theorem dL_law_749 : decode cL_law 749 = .ok (.ifCond .eq 7, 3) := by decide +kernel
theorem dL_law_752 : decode cL_law 752 = .ok (.iconst 1, 1) := by decide +kernel
theorem dL_law_753 : decode cL_law 753 = .ok (.goto 4, 3) := by decide +kernel
theorem dL_law_756 : decode cL_law 756 = .ok (.iconst 0, 1) := by decide +kernel
theorem dL_law_757 : decode cL_law 757 = .ok (.invokevirtual 73, 3) := by decide +kernel
theorem dL_law_760 : decode cL_law 760 = .ok (.aload_n 2, 1) := by decide +kernel
theorem dL_law_761 : decode cL_law 761 = .ok (.aload_n 0, 1) := by decide +kernel
theorem dL_law_762 : decode cL_law 762 = .ok (.iload_n 3, 1) := by decide +kernel
theorem dL_law_763 : decode cL_law 763 = .ok (.iconst 1, 1) := by decide +kernel
theorem dL_law_764 : decode cL_law 764 = .ok (.iadd, 1) := by decide +kernel
theorem dL_law_765 : decode cL_law 765 = .ok (.iaload, 1) := by decide +kernel
theorem dL_law_766 : decode cL_law 766 = .ok (.aload_n 0, 1) := by decide +kernel
theorem dL_law_767 : decode cL_law 767 = .ok (.iload_n 3, 1) := by decide +kernel
theorem dL_law_768 : decode cL_law 768 = .ok (.iconst 2, 1) := by decide +kernel
theorem dL_law_769 : decode cL_law 769 = .ok (.iadd, 1) := by decide +kernel
theorem dL_law_770 : decode cL_law 770 = .ok (.iaload, 1) := by decide +kernel
theorem dL_law_771 : decode cL_law 771 = .ok (.ifCond .eq 7, 3) := by decide +kernel
theorem dL_law_774 : decode cL_law 774 = .ok (.iconst 1, 1) := by decide +kernel
theorem dL_law_775 : decode cL_law 775 = .ok (.goto 4, 3) := by decide +kernel
theorem dL_law_778 : decode cL_law 778 = .ok (.iconst 0, 1) := by decide +kernel
theorem dL_law_779 : decode cL_law 779 = .ok (.invokevirtual 77, 3) := by decide +kernel
theorem dL_law_782 : decode cL_law 782 = .ok (.if_icmp .eq 828, 3) := by decide +kernel
theorem dL_law_785 : decode cL_law 785 = .ok (.iconst 0, 1) := by decide +kernel
theorem dL_law_786 : decode cL_law 786 = .ok (.ireturn, 1) := by decide +kernel
theorem dL_law_787 : decode cL_law 787 = .ok (.aload_n 1, 1) := by decide +kernel
theorem dL_law_788 : decode cL_law 788 = .ok (.aload_n 0, 1) := by decide +kernel
theorem dL_law_789 : decode cL_law 789 = .ok (.iload_n 3, 1) := by decide +kernel
theorem dL_law_790 : decode cL_law 790 = .ok (.iconst 1, 1) := by decide +kernel
theorem dL_law_791 : decode cL_law 791 = .ok (.iadd, 1) := by decide +kernel
theorem dL_law_792 : decode cL_law 792 = .ok (.iaload, 1) := by decide +kernel
theorem dL_law_793 : decode cL_law 793 = .ok (.aload_n 0, 1) := by decide +kernel
theorem dL_law_794 : decode cL_law 794 = .ok (.iload_n 3, 1) := by decide +kernel
theorem dL_law_795 : decode cL_law 795 = .ok (.iconst 2, 1) := by decide +kernel
theorem dL_law_796 : decode cL_law 796 = .ok (.iadd, 1) := by decide +kernel
theorem dL_law_797 : decode cL_law 797 = .ok (.iaload, 1) := by decide +kernel
theorem dL_law_798 : decode cL_law 798 = .ok (.invokevirtual 78, 3) := by decide +kernel
theorem dL_law_801 : decode cL_law 801 = .ok (.aload_n 2, 1) := by decide +kernel
theorem dL_law_802 : decode cL_law 802 = .ok (.aload_n 0, 1) := by decide +kernel
theorem dL_law_803 : decode cL_law 803 = .ok (.iload_n 3, 1) := by decide +kernel
theorem dL_law_804 : decode cL_law 804 = .ok (.iconst 1, 1) := by decide +kernel
theorem dL_law_805 : decode cL_law 805 = .ok (.iadd, 1) := by decide +kernel
theorem dL_law_806 : decode cL_law 806 = .ok (.iaload, 1) := by decide +kernel
theorem dL_law_807 : decode cL_law 807 = .ok (.aload_n 0, 1) := by decide +kernel
theorem dL_law_808 : decode cL_law 808 = .ok (.iload_n 3, 1) := by decide +kernel
theorem dL_law_809 : decode cL_law 809 = .ok (.iconst 2, 1) := by decide +kernel
theorem dL_law_810 : decode cL_law 810 = .ok (.iadd, 1) := by decide +kernel
theorem dL_law_811 : decode cL_law 811 = .ok (.iaload, 1) := by decide +kernel
theorem dL_law_812 : decode cL_law 812 = .ok (.invokevirtual 81, 3) := by decide +kernel
theorem dL_law_815 : decode cL_law 815 = .ok (.if_icmp .eq 795, 3) := by decide +kernel
theorem dL_law_818 : decode cL_law 818 = .ok (.iconst 0, 1) := by decide +kernel
theorem dL_law_819 : decode cL_law 819 = .ok (.ireturn, 1) := by decide +kernel
theorem dL_law_820 : decode cL_law 820 = .ok (.aload_n 1, 1) := by decide +kernel
theorem dL_law_821 : decode cL_law 821 = .ok (.aload_n 0, 1) := by decide +kernel
theorem dL_law_822 : decode cL_law 822 = .ok (.iload_n 3, 1) := by decide +kernel
theorem dL_law_823 : decode cL_law 823 = .ok (.iconst 1, 1) := by decide +kernel
theorem dL_law_824 : decode cL_law 824 = .ok (.iadd, 1) := by decide +kernel
theorem dL_law_825 : decode cL_law 825 = .ok (.iaload, 1) := by decide +kernel
theorem dL_law_826 : decode cL_law 826 = .ok (.aload_n 0, 1) := by decide +kernel
theorem dL_law_827 : decode cL_law 827 = .ok (.iload_n 3, 1) := by decide +kernel
theorem dL_law_828 : decode cL_law 828 = .ok (.iconst 2, 1) := by decide +kernel
theorem dL_law_829 : decode cL_law 829 = .ok (.iadd, 1) := by decide +kernel
theorem dL_law_830 : decode cL_law 830 = .ok (.iaload, 1) := by decide +kernel
theorem dL_law_831 : decode cL_law 831 = .ok (.invokevirtual 82, 3) := by decide +kernel
theorem dL_law_834 : decode cL_law 834 = .ok (.aload_n 2, 1) := by decide +kernel
theorem dL_law_835 : decode cL_law 835 = .ok (.aload_n 0, 1) := by decide +kernel
theorem dL_law_836 : decode cL_law 836 = .ok (.iload_n 3, 1) := by decide +kernel
theorem dL_law_837 : decode cL_law 837 = .ok (.iconst 1, 1) := by decide +kernel
theorem dL_law_838 : decode cL_law 838 = .ok (.iadd, 1) := by decide +kernel
theorem dL_law_839 : decode cL_law 839 = .ok (.iaload, 1) := by decide +kernel
theorem dL_law_840 : decode cL_law 840 = .ok (.aload_n 0, 1) := by decide +kernel
theorem dL_law_841 : decode cL_law 841 = .ok (.iload_n 3, 1) := by decide +kernel
theorem dL_law_842 : decode cL_law 842 = .ok (.iconst 2, 1) := by decide +kernel
theorem dL_law_843 : decode cL_law 843 = .ok (.iadd, 1) := by decide +kernel
theorem dL_law_844 : decode cL_law 844 = .ok (.iaload, 1) := by decide +kernel
theorem dL_law_845 : decode cL_law 845 = .ok (.invokevirtual 85, 3) := by decide +kernel
theorem dL_law_848 : decode cL_law 848 = .ok (.if_icmp .eq 762, 3) := by decide +kernel
theorem dL_law_851 : decode cL_law 851 = .ok (.iconst 0, 1) := by decide +kernel
theorem dL_law_852 : decode cL_law 852 = .ok (.ireturn, 1) := by decide +kernel
theorem dL_law_853 : decode cL_law 853 = .ok (.aload_n 1, 1) := by decide +kernel
theorem dL_law_854 : decode cL_law 854 = .ok (.aload_n 0, 1) := by decide +kernel
theorem dL_law_855 : decode cL_law 855 = .ok (.iload_n 3, 1) := by decide +kernel
theorem dL_law_856 : decode cL_law 856 = .ok (.iconst 1, 1) := by decide +kernel
theorem dL_law_857 : decode cL_law 857 = .ok (.iadd, 1) := by decide +kernel
theorem dL_law_858 : decode cL_law 858 = .ok (.iaload, 1) := by decide +kernel
theorem dL_law_859 : decode cL_law 859 = .ok (.aload_n 0, 1) := by decide +kernel
theorem dL_law_860 : decode cL_law 860 = .ok (.iload_n 3, 1) := by decide +kernel
theorem dL_law_861 : decode cL_law 861 = .ok (.iconst 2, 1) := by decide +kernel
theorem dL_law_862 : decode cL_law 862 = .ok (.iadd, 1) := by decide +kernel
theorem dL_law_863 : decode cL_law 863 = .ok (.iaload, 1) := by decide +kernel
theorem dL_law_864 : decode cL_law 864 = .ok (.invokevirtual 86, 3) := by decide +kernel
theorem dL_law_867 : decode cL_law 867 = .ok (.aload_n 2, 1) := by decide +kernel
theorem dL_law_868 : decode cL_law 868 = .ok (.aload_n 0, 1) := by decide +kernel
theorem dL_law_869 : decode cL_law 869 = .ok (.iload_n 3, 1) := by decide +kernel
theorem dL_law_870 : decode cL_law 870 = .ok (.iconst 1, 1) := by decide +kernel
theorem dL_law_871 : decode cL_law 871 = .ok (.iadd, 1) := by decide +kernel
theorem dL_law_872 : decode cL_law 872 = .ok (.iaload, 1) := by decide +kernel
theorem dL_law_873 : decode cL_law 873 = .ok (.aload_n 0, 1) := by decide +kernel
theorem dL_law_874 : decode cL_law 874 = .ok (.iload_n 3, 1) := by decide +kernel
theorem dL_law_875 : decode cL_law 875 = .ok (.iconst 2, 1) := by decide +kernel
theorem dL_law_876 : decode cL_law 876 = .ok (.iadd, 1) := by decide +kernel
theorem dL_law_877 : decode cL_law 877 = .ok (.iaload, 1) := by decide +kernel
theorem dL_law_878 : decode cL_law 878 = .ok (.invokevirtual 89, 3) := by decide +kernel
theorem dL_law_881 : decode cL_law 881 = .ok (.if_icmp .eq 729, 3) := by decide +kernel
theorem dL_law_884 : decode cL_law 884 = .ok (.iconst 0, 1) := by decide +kernel
theorem dL_law_885 : decode cL_law 885 = .ok (.ireturn, 1) := by decide +kernel
theorem dL_law_886 : decode cL_law 886 = .ok (.aload_n 1, 1) := by decide +kernel
theorem dL_law_887 : decode cL_law 887 = .ok (.aload_n 0, 1) := by decide +kernel
theorem dL_law_888 : decode cL_law 888 = .ok (.iload_n 3, 1) := by decide +kernel
theorem dL_law_889 : decode cL_law 889 = .ok (.iconst 1, 1) := by decide +kernel
theorem dL_law_890 : decode cL_law 890 = .ok (.iadd, 1) := by decide +kernel
theorem dL_law_891 : decode cL_law 891 = .ok (.iaload, 1) := by decide +kernel
theorem dL_law_892 : decode cL_law 892 = .ok (.invokevirtual 90, 3) := by decide +kernel
theorem dL_law_895 : decode cL_law 895 = .ok (.aload_n 2, 1) := by decide +kernel
theorem dL_law_896 : decode cL_law 896 = .ok (.aload_n 0, 1) := by decide +kernel
theorem dL_law_897 : decode cL_law 897 = .ok (.iload_n 3, 1) := by decide +kernel
theorem dL_law_898 : decode cL_law 898 = .ok (.iconst 1, 1) := by decide +kernel
theorem dL_law_899 : decode cL_law 899 = .ok (.iadd, 1) := by decide +kernel
theorem dL_law_900 : decode cL_law 900 = .ok (.iaload, 1) := by decide +kernel
theorem dL_law_901 : decode cL_law 901 = .ok (.invokevirtual 93, 3) := by decide +kernel
theorem dL_law_904 : decode cL_law 904 = .ok (.if_icmp .eq 706, 3) := by decide +kernel
theorem dL_law_907 : decode cL_law 907 = .ok (.iconst 0, 1) := by decide +kernel
theorem dL_law_908 : decode cL_law 908 = .ok (.ireturn, 1) := by decide +kernel
theorem dL_law_909 : decode cL_law 909 = .ok (.aload_n 1, 1) := by decide +kernel
theorem dL_law_910 : decode cL_law 910 = .ok (.invokevirtual 94, 3) := by decide +kernel
theorem dL_law_913 : decode cL_law 913 = .ok (.aload_n 2, 1) := by decide +kernel
theorem dL_law_914 : decode cL_law 914 = .ok (.invokevirtual 98, 3) := by decide +kernel
theorem dL_law_917 : decode cL_law 917 = .ok (.if_icmp .eq 693, 3) := by decide +kernel
theorem dL_law_920 : decode cL_law 920 = .ok (.iconst 0, 1) := by decide +kernel
theorem dL_law_921 : decode cL_law 921 = .ok (.ireturn, 1) := by decide +kernel
theorem dL_law_922 : decode cL_law 922 = .ok (.aload_n 1, 1) := by decide +kernel
theorem dL_law_923 : decode cL_law 923 = .ok (.aload_n 0, 1) := by decide +kernel
theorem dL_law_924 : decode cL_law 924 = .ok (.iload_n 3, 1) := by decide +kernel
theorem dL_law_925 : decode cL_law 925 = .ok (.iconst 1, 1) := by decide +kernel
theorem dL_law_926 : decode cL_law 926 = .ok (.iadd, 1) := by decide +kernel
theorem dL_law_927 : decode cL_law 927 = .ok (.iaload, 1) := by decide +kernel
theorem dL_law_928 : decode cL_law 928 = .ok (.aload_n 0, 1) := by decide +kernel
theorem dL_law_929 : decode cL_law 929 = .ok (.iload_n 3, 1) := by decide +kernel
theorem dL_law_930 : decode cL_law 930 = .ok (.iconst 2, 1) := by decide +kernel
theorem dL_law_931 : decode cL_law 931 = .ok (.iadd, 1) := by decide +kernel
theorem dL_law_932 : decode cL_law 932 = .ok (.iaload, 1) := by decide +kernel
theorem dL_law_933 : decode cL_law 933 = .ok (.aload_n 0, 1) := by decide +kernel
theorem dL_law_934 : decode cL_law 934 = .ok (.iload_n 3, 1) := by decide +kernel
theorem dL_law_935 : decode cL_law 935 = .ok (.iconst 3, 1) := by decide +kernel
theorem dL_law_936 : decode cL_law 936 = .ok (.iadd, 1) := by decide +kernel
theorem dL_law_937 : decode cL_law 937 = .ok (.iaload, 1) := by decide +kernel
theorem dL_law_938 : decode cL_law 938 = .ok (.invokevirtual 99, 3) := by decide +kernel
theorem dL_law_941 : decode cL_law 941 = .ok (.aload_n 2, 1) := by decide +kernel
theorem dL_law_942 : decode cL_law 942 = .ok (.aload_n 0, 1) := by decide +kernel
theorem dL_law_943 : decode cL_law 943 = .ok (.iload_n 3, 1) := by decide +kernel
theorem dL_law_944 : decode cL_law 944 = .ok (.iconst 1, 1) := by decide +kernel
theorem dL_law_945 : decode cL_law 945 = .ok (.iadd, 1) := by decide +kernel
theorem dL_law_946 : decode cL_law 946 = .ok (.iaload, 1) := by decide +kernel
theorem dL_law_947 : decode cL_law 947 = .ok (.aload_n 0, 1) := by decide +kernel
theorem dL_law_948 : decode cL_law 948 = .ok (.iload_n 3, 1) := by decide +kernel
theorem dL_law_949 : decode cL_law 949 = .ok (.iconst 2, 1) := by decide +kernel
theorem dL_law_950 : decode cL_law 950 = .ok (.iadd, 1) := by decide +kernel
theorem dL_law_951 : decode cL_law 951 = .ok (.iaload, 1) := by decide +kernel
theorem dL_law_952 : decode cL_law 952 = .ok (.aload_n 0, 1) := by decide +kernel
theorem dL_law_953 : decode cL_law 953 = .ok (.iload_n 3, 1) := by decide +kernel
theorem dL_law_954 : decode cL_law 954 = .ok (.iconst 3, 1) := by decide +kernel
theorem dL_law_955 : decode cL_law 955 = .ok (.iadd, 1) := by decide +kernel
theorem dL_law_956 : decode cL_law 956 = .ok (.iaload, 1) := by decide +kernel
theorem dL_law_957 : decode cL_law 957 = .ok (.invokevirtual 102, 3) := by decide +kernel
theorem dL_law_960 : decode cL_law 960 = .ok (.if_icmp .eq 650, 3) := by decide +kernel
theorem dL_law_963 : decode cL_law 963 = .ok (.iconst 0, 1) := by decide +kernel
theorem dL_law_964 : decode cL_law 964 = .ok (.ireturn, 1) := by decide +kernel
theorem dL_law_965 : decode cL_law 965 = .ok (.aload_n 1, 1) := by decide +kernel
theorem dL_law_966 : decode cL_law 966 = .ok (.aload_n 0, 1) := by decide +kernel
theorem dL_law_967 : decode cL_law 967 = .ok (.iload_n 3, 1) := by decide +kernel
theorem dL_law_968 : decode cL_law 968 = .ok (.iconst 1, 1) := by decide +kernel
theorem dL_law_969 : decode cL_law 969 = .ok (.iadd, 1) := by decide +kernel
theorem dL_law_970 : decode cL_law 970 = .ok (.iaload, 1) := by decide +kernel
theorem dL_law_971 : decode cL_law 971 = .ok (.aload_n 0, 1) := by decide +kernel
theorem dL_law_972 : decode cL_law 972 = .ok (.iload_n 3, 1) := by decide +kernel
theorem dL_law_973 : decode cL_law 973 = .ok (.iconst 2, 1) := by decide +kernel
theorem dL_law_974 : decode cL_law 974 = .ok (.iadd, 1) := by decide +kernel
theorem dL_law_975 : decode cL_law 975 = .ok (.iaload, 1) := by decide +kernel
theorem dL_law_976 : decode cL_law 976 = .ok (.aload_n 0, 1) := by decide +kernel
theorem dL_law_977 : decode cL_law 977 = .ok (.iload_n 3, 1) := by decide +kernel
theorem dL_law_978 : decode cL_law 978 = .ok (.iconst 3, 1) := by decide +kernel
theorem dL_law_979 : decode cL_law 979 = .ok (.iadd, 1) := by decide +kernel
theorem dL_law_980 : decode cL_law 980 = .ok (.iaload, 1) := by decide +kernel
theorem dL_law_981 : decode cL_law 981 = .ok (.invokevirtual 103, 3) := by decide +kernel
theorem dL_law_984 : decode cL_law 984 = .ok (.aload_n 2, 1) := by decide +kernel
theorem dL_law_985 : decode cL_law 985 = .ok (.aload_n 0, 1) := by decide +kernel
theorem dL_law_986 : decode cL_law 986 = .ok (.iload_n 3, 1) := by decide +kernel
theorem dL_law_987 : decode cL_law 987 = .ok (.iconst 1, 1) := by decide +kernel
theorem dL_law_988 : decode cL_law 988 = .ok (.iadd, 1) := by decide +kernel
theorem dL_law_989 : decode cL_law 989 = .ok (.iaload, 1) := by decide +kernel
theorem dL_law_990 : decode cL_law 990 = .ok (.aload_n 0, 1) := by decide +kernel
theorem dL_law_991 : decode cL_law 991 = .ok (.iload_n 3, 1) := by decide +kernel
theorem dL_law_992 : decode cL_law 992 = .ok (.iconst 2, 1) := by decide +kernel
theorem dL_law_993 : decode cL_law 993 = .ok (.iadd, 1) := by decide +kernel
theorem dL_law_994 : decode cL_law 994 = .ok (.iaload, 1) := by decide +kernel
theorem dL_law_995 : decode cL_law 995 = .ok (.aload_n 0, 1) := by decide +kernel
theorem dL_law_996 : decode cL_law 996 = .ok (.iload_n 3, 1) := by decide +kernel
theorem dL_law_997 : decode cL_law 997 = .ok (.iconst 3, 1) := by decide +kernel
theorem dL_law_998 : decode cL_law 998 = .ok (.iadd, 1) := by decide +kernel
theorem dL_law_999 : decode cL_law 999 = .ok (.iaload, 1) := by decide +kernel
theorem dL_law_1000 : decode cL_law 1000 = .ok (.invokevirtual 106, 3) := by decide +kernel
theorem dL_law_1003 : decode cL_law 1003 = .ok (.if_icmp .eq 607, 3) := by decide +kernel
theorem dL_law_1006 : decode cL_law 1006 = .ok (.iconst 0, 1) := by decide +kernel
theorem dL_law_1007 : decode cL_law 1007 = .ok (.ireturn, 1) := by decide +kernel
theorem dL_law_1008 : decode cL_law 1008 = .ok (.aload_n 1, 1) := by decide +kernel
theorem dL_law_1009 : decode cL_law 1009 = .ok (.aload_n 0, 1) := by decide +kernel
theorem dL_law_1010 : decode cL_law 1010 = .ok (.iload_n 3, 1) := by decide +kernel
theorem dL_law_1011 : decode cL_law 1011 = .ok (.iconst 1, 1) := by decide +kernel
theorem dL_law_1012 : decode cL_law 1012 = .ok (.iadd, 1) := by decide +kernel
theorem dL_law_1013 : decode cL_law 1013 = .ok (.iaload, 1) := by decide +kernel
theorem dL_law_1014 : decode cL_law 1014 = .ok (.aload_n 0, 1) := by decide +kernel
theorem dL_law_1015 : decode cL_law 1015 = .ok (.iload_n 3, 1) := by decide +kernel
theorem dL_law_1016 : decode cL_law 1016 = .ok (.iconst 2, 1) := by decide +kernel
theorem dL_law_1017 : decode cL_law 1017 = .ok (.iadd, 1) := by decide +kernel
theorem dL_law_1018 : decode cL_law 1018 = .ok (.iaload, 1) := by decide +kernel
theorem dL_law_1019 : decode cL_law 1019 = .ok (.invokevirtual 107, 3) := by decide +kernel
theorem dL_law_1022 : decode cL_law 1022 = .ok (.aload_n 2, 1) := by decide +kernel
theorem dL_law_1023 : decode cL_law 1023 = .ok (.aload_n 0, 1) := by decide +kernel
theorem dL_law_1024 : decode cL_law 1024 = .ok (.iload_n 3, 1) := by decide +kernel
theorem dL_law_1025 : decode cL_law 1025 = .ok (.iconst 1, 1) := by decide +kernel
theorem dL_law_1026 : decode cL_law 1026 = .ok (.iadd, 1) := by decide +kernel
theorem dL_law_1027 : decode cL_law 1027 = .ok (.iaload, 1) := by decide +kernel
theorem dL_law_1028 : decode cL_law 1028 = .ok (.aload_n 0, 1) := by decide +kernel
theorem dL_law_1029 : decode cL_law 1029 = .ok (.iload_n 3, 1) := by decide +kernel
theorem dL_law_1030 : decode cL_law 1030 = .ok (.iconst 2, 1) := by decide +kernel
theorem dL_law_1031 : decode cL_law 1031 = .ok (.iadd, 1) := by decide +kernel
theorem dL_law_1032 : decode cL_law 1032 = .ok (.iaload, 1) := by decide +kernel
theorem dL_law_1033 : decode cL_law 1033 = .ok (.invokevirtual 110, 3) := by decide +kernel
theorem dL_law_1036 : decode cL_law 1036 = .ok (.if_icmp .eq 574, 3) := by decide +kernel
theorem dL_law_1039 : decode cL_law 1039 = .ok (.iconst 0, 1) := by decide +kernel
theorem dL_law_1040 : decode cL_law 1040 = .ok (.ireturn, 1) := by decide +kernel
theorem dL_law_1041 : decode cL_law 1041 = .ok (.aload_n 1, 1) := by decide +kernel
theorem dL_law_1042 : decode cL_law 1042 = .ok (.aload_n 0, 1) := by decide +kernel
theorem dL_law_1043 : decode cL_law 1043 = .ok (.iload_n 3, 1) := by decide +kernel
theorem dL_law_1044 : decode cL_law 1044 = .ok (.iconst 1, 1) := by decide +kernel
theorem dL_law_1045 : decode cL_law 1045 = .ok (.iadd, 1) := by decide +kernel
theorem dL_law_1046 : decode cL_law 1046 = .ok (.iaload, 1) := by decide +kernel
theorem dL_law_1047 : decode cL_law 1047 = .ok (.invokevirtual 111, 3) := by decide +kernel
theorem dL_law_1050 : decode cL_law 1050 = .ok (.aload_n 2, 1) := by decide +kernel
theorem dL_law_1051 : decode cL_law 1051 = .ok (.aload_n 0, 1) := by decide +kernel
theorem dL_law_1052 : decode cL_law 1052 = .ok (.iload_n 3, 1) := by decide +kernel
theorem dL_law_1053 : decode cL_law 1053 = .ok (.iconst 1, 1) := by decide +kernel
theorem dL_law_1054 : decode cL_law 1054 = .ok (.iadd, 1) := by decide +kernel
theorem dL_law_1055 : decode cL_law 1055 = .ok (.iaload, 1) := by decide +kernel
theorem dL_law_1056 : decode cL_law 1056 = .ok (.invokevirtual 114, 3) := by decide +kernel
theorem dL_law_1059 : decode cL_law 1059 = .ok (.if_icmp .eq 551, 3) := by decide +kernel
theorem dL_law_1062 : decode cL_law 1062 = .ok (.iconst 0, 1) := by decide +kernel
theorem dL_law_1063 : decode cL_law 1063 = .ok (.ireturn, 1) := by decide +kernel
theorem dL_law_1064 : decode cL_law 1064 = .ok (.aload_n 1, 1) := by decide +kernel
theorem dL_law_1065 : decode cL_law 1065 = .ok (.aload_n 0, 1) := by decide +kernel
theorem dL_law_1066 : decode cL_law 1066 = .ok (.iload_n 3, 1) := by decide +kernel
theorem dL_law_1067 : decode cL_law 1067 = .ok (.iconst 1, 1) := by decide +kernel
theorem dL_law_1068 : decode cL_law 1068 = .ok (.iadd, 1) := by decide +kernel
theorem dL_law_1069 : decode cL_law 1069 = .ok (.iaload, 1) := by decide +kernel
theorem dL_law_1070 : decode cL_law 1070 = .ok (.invokevirtual 115, 3) := by decide +kernel
theorem dL_law_1073 : decode cL_law 1073 = .ok (.aload_n 2, 1) := by decide +kernel
theorem dL_law_1074 : decode cL_law 1074 = .ok (.aload_n 0, 1) := by decide +kernel
theorem dL_law_1075 : decode cL_law 1075 = .ok (.iload_n 3, 1) := by decide +kernel
theorem dL_law_1076 : decode cL_law 1076 = .ok (.iconst 1, 1) := by decide +kernel
theorem dL_law_1077 : decode cL_law 1077 = .ok (.iadd, 1) := by decide +kernel
theorem dL_law_1078 : decode cL_law 1078 = .ok (.iaload, 1) := by decide +kernel
theorem dL_law_1079 : decode cL_law 1079 = .ok (.invokevirtual 118, 3) := by decide +kernel
theorem dL_law_1082 : decode cL_law 1082 = .ok (.if_icmp .eq 528, 3) := by decide +kernel
theorem dL_law_1085 : decode cL_law 1085 = .ok (.iconst 0, 1) := by decide +kernel
theorem dL_law_1086 : decode cL_law 1086 = .ok (.ireturn, 1) := by decide +kernel
theorem dL_law_1087 : decode cL_law 1087 = .ok (.aload_n 1, 1) := by decide +kernel
theorem dL_law_1088 : decode cL_law 1088 = .ok (.invokevirtual 119, 3) := by decide +kernel
theorem dL_law_1091 : decode cL_law 1091 = .ok (.aload_n 2, 1) := by decide +kernel
theorem dL_law_1092 : decode cL_law 1092 = .ok (.invokevirtual 122, 3) := by decide +kernel
theorem dL_law_1095 : decode cL_law 1095 = .ok (.if_icmp .eq 515, 3) := by decide +kernel
theorem dL_law_1098 : decode cL_law 1098 = .ok (.iconst 0, 1) := by decide +kernel
theorem dL_law_1099 : decode cL_law 1099 = .ok (.ireturn, 1) := by decide +kernel
theorem dL_law_1100 : decode cL_law 1100 = .ok (.aload_n 1, 1) := by decide +kernel
theorem dL_law_1101 : decode cL_law 1101 = .ok (.invokevirtual 123, 3) := by decide +kernel
theorem dL_law_1104 : decode cL_law 1104 = .ok (.aload_n 2, 1) := by decide +kernel
theorem dL_law_1105 : decode cL_law 1105 = .ok (.invokevirtual 126, 3) := by decide +kernel
theorem dL_law_1108 : decode cL_law 1108 = .ok (.if_icmp .eq 502, 3) := by decide +kernel
theorem dL_law_1111 : decode cL_law 1111 = .ok (.iconst 0, 1) := by decide +kernel
theorem dL_law_1112 : decode cL_law 1112 = .ok (.ireturn, 1) := by decide +kernel
theorem dL_law_1113 : decode cL_law 1113 = .ok (.aload_n 1, 1) := by decide +kernel
theorem dL_law_1114 : decode cL_law 1114 = .ok (.aload_n 0, 1) := by decide +kernel
theorem dL_law_1115 : decode cL_law 1115 = .ok (.iload_n 3, 1) := by decide +kernel
theorem dL_law_1116 : decode cL_law 1116 = .ok (.iconst 1, 1) := by decide +kernel
theorem dL_law_1117 : decode cL_law 1117 = .ok (.iadd, 1) := by decide +kernel
theorem dL_law_1118 : decode cL_law 1118 = .ok (.iaload, 1) := by decide +kernel
theorem dL_law_1119 : decode cL_law 1119 = .ok (.aload_n 0, 1) := by decide +kernel
theorem dL_law_1120 : decode cL_law 1120 = .ok (.iload_n 3, 1) := by decide +kernel
theorem dL_law_1121 : decode cL_law 1121 = .ok (.iconst 2, 1) := by decide +kernel
theorem dL_law_1122 : decode cL_law 1122 = .ok (.iadd, 1) := by decide +kernel
theorem dL_law_1123 : decode cL_law 1123 = .ok (.iaload, 1) := by decide +kernel
theorem dL_law_1124 : decode cL_law 1124 = .ok (.invokevirtual 127, 3) := by decide +kernel
theorem dL_law_1127 : decode cL_law 1127 = .ok (.aload_n 2, 1) := by decide +kernel
theorem dL_law_1128 : decode cL_law 1128 = .ok (.aload_n 0, 1) := by decide +kernel
theorem dL_law_1129 : decode cL_law 1129 = .ok (.iload_n 3, 1) := by decide +kernel
theorem dL_law_1130 : decode cL_law 1130 = .ok (.iconst 1, 1) := by decide +kernel
theorem dL_law_1131 : decode cL_law 1131 = .ok (.iadd, 1) := by decide +kernel
theorem dL_law_1132 : decode cL_law 1132 = .ok (.iaload, 1) := by decide +kernel
theorem dL_law_1133 : decode cL_law 1133 = .ok (.aload_n 0, 1) := by decide +kernel
theorem dL_law_1134 : decode cL_law 1134 = .ok (.iload_n 3, 1) := by decide +kernel
theorem dL_law_1135 : decode cL_law 1135 = .ok (.iconst 2, 1) := by decide +kernel
theorem dL_law_1136 : decode cL_law 1136 = .ok (.iadd, 1) := by decide +kernel
theorem dL_law_1137 : decode cL_law 1137 = .ok (.iaload, 1) := by decide +kernel
theorem dL_law_1138 : decode cL_law 1138 = .ok (.invokevirtual 130, 3) := by decide +kernel
theorem dL_law_1141 : decode cL_law 1141 = .ok (.if_icmp .eq 469, 3) := by decide +kernel
theorem dL_law_1144 : decode cL_law 1144 = .ok (.iconst 0, 1) := by decide +kernel
theorem dL_law_1145 : decode cL_law 1145 = .ok (.ireturn, 1) := by decide +kernel
theorem dL_law_1146 : decode cL_law 1146 = .ok (.aload_n 1, 1) := by decide +kernel
theorem dL_law_1147 : decode cL_law 1147 = .ok (.invokevirtual 131, 3) := by decide +kernel
theorem dL_law_1150 : decode cL_law 1150 = .ok (.aload_n 2, 1) := by decide +kernel
theorem dL_law_1151 : decode cL_law 1151 = .ok (.invokevirtual 134, 3) := by decide +kernel
theorem dL_law_1154 : decode cL_law 1154 = .ok (.if_icmp .eq 456, 3) := by decide +kernel
theorem dL_law_1157 : decode cL_law 1157 = .ok (.iconst 0, 1) := by decide +kernel
theorem dL_law_1158 : decode cL_law 1158 = .ok (.ireturn, 1) := by decide +kernel
theorem dL_law_1159 : decode cL_law 1159 = .ok (.aload_n 1, 1) := by decide +kernel
theorem dL_law_1160 : decode cL_law 1160 = .ok (.invokevirtual 135, 3) := by decide +kernel
theorem dL_law_1163 : decode cL_law 1163 = .ok (.aload_n 2, 1) := by decide +kernel
theorem dL_law_1164 : decode cL_law 1164 = .ok (.invokevirtual 138, 3) := by decide +kernel
theorem dL_law_1167 : decode cL_law 1167 = .ok (.if_icmp .eq 443, 3) := by decide +kernel
theorem dL_law_1170 : decode cL_law 1170 = .ok (.iconst 0, 1) := by decide +kernel
theorem dL_law_1171 : decode cL_law 1171 = .ok (.ireturn, 1) := by decide +kernel
theorem dL_law_1172 : decode cL_law 1172 = .ok (.aload_n 1, 1) := by decide +kernel
theorem dL_law_1173 : decode cL_law 1173 = .ok (.aload_n 0, 1) := by decide +kernel
theorem dL_law_1174 : decode cL_law 1174 = .ok (.iload_n 3, 1) := by decide +kernel
theorem dL_law_1175 : decode cL_law 1175 = .ok (.iconst 1, 1) := by decide +kernel
theorem dL_law_1176 : decode cL_law 1176 = .ok (.iadd, 1) := by decide +kernel
theorem dL_law_1177 : decode cL_law 1177 = .ok (.iaload, 1) := by decide +kernel
theorem dL_law_1178 : decode cL_law 1178 = .ok (.invokevirtual 139, 3) := by decide +kernel
theorem dL_law_1181 : decode cL_law 1181 = .ok (.aload_n 2, 1) := by decide +kernel
theorem dL_law_1182 : decode cL_law 1182 = .ok (.aload_n 0, 1) := by decide +kernel
theorem dL_law_1183 : decode cL_law 1183 = .ok (.iload_n 3, 1) := by decide +kernel
theorem dL_law_1184 : decode cL_law 1184 = .ok (.iconst 1, 1) := by decide +kernel
theorem dL_law_1185 : decode cL_law 1185 = .ok (.iadd, 1) := by decide +kernel
theorem dL_law_1186 : decode cL_law 1186 = .ok (.iaload, 1) := by decide +kernel
theorem dL_law_1187 : decode cL_law 1187 = .ok (.invokevirtual 142, 3) := by decide +kernel
theorem dL_law_1190 : decode cL_law 1190 = .ok (.if_icmp .eq 420, 3) := by decide +kernel
theorem dL_law_1193 : decode cL_law 1193 = .ok (.iconst 0, 1) := by decide +kernel
theorem dL_law_1194 : decode cL_law 1194 = .ok (.ireturn, 1) := by decide +kernel
theorem dL_law_1195 : decode cL_law 1195 = .ok (.aload_n 1, 1) := by decide +kernel
theorem dL_law_1196 : decode cL_law 1196 = .ok (.aload_n 0, 1) := by decide +kernel
theorem dL_law_1197 : decode cL_law 1197 = .ok (.iload_n 3, 1) := by decide +kernel
theorem dL_law_1198 : decode cL_law 1198 = .ok (.iconst 1, 1) := by decide +kernel
theorem dL_law_1199 : decode cL_law 1199 = .ok (.iadd, 1) := by decide +kernel
theorem dL_law_1200 : decode cL_law 1200 = .ok (.iaload, 1) := by decide +kernel
theorem dL_law_1201 : decode cL_law 1201 = .ok (.aload_n 0, 1) := by decide +kernel
theorem dL_law_1202 : decode cL_law 1202 = .ok (.iload_n 3, 1) := by decide +kernel
theorem dL_law_1203 : decode cL_law 1203 = .ok (.iconst 2, 1) := by decide +kernel
theorem dL_law_1204 : decode cL_law 1204 = .ok (.iadd, 1) := by decide +kernel
theorem dL_law_1205 : decode cL_law 1205 = .ok (.iaload, 1) := by decide +kernel
theorem dL_law_1206 : decode cL_law 1206 = .ok (.aload_n 0, 1) := by decide +kernel
theorem dL_law_1207 : decode cL_law 1207 = .ok (.iload_n 3, 1) := by decide +kernel
theorem dL_law_1208 : decode cL_law 1208 = .ok (.iconst 3, 1) := by decide +kernel
theorem dL_law_1209 : decode cL_law 1209 = .ok (.iadd, 1) := by decide +kernel
theorem dL_law_1210 : decode cL_law 1210 = .ok (.iaload, 1) := by decide +kernel
theorem dL_law_1211 : decode cL_law 1211 = .ok (.invokevirtual 143, 3) := by decide +kernel
theorem dL_law_1214 : decode cL_law 1214 = .ok (.aload_n 2, 1) := by decide +kernel
theorem dL_law_1215 : decode cL_law 1215 = .ok (.aload_n 0, 1) := by decide +kernel
theorem dL_law_1216 : decode cL_law 1216 = .ok (.iload_n 3, 1) := by decide +kernel
theorem dL_law_1217 : decode cL_law 1217 = .ok (.iconst 1, 1) := by decide +kernel
theorem dL_law_1218 : decode cL_law 1218 = .ok (.iadd, 1) := by decide +kernel
theorem dL_law_1219 : decode cL_law 1219 = .ok (.iaload, 1) := by decide +kernel
theorem dL_law_1220 : decode cL_law 1220 = .ok (.aload_n 0, 1) := by decide +kernel
theorem dL_law_1221 : decode cL_law 1221 = .ok (.iload_n 3, 1) := by decide +kernel
theorem dL_law_1222 : decode cL_law 1222 = .ok (.iconst 2, 1) := by decide +kernel
theorem dL_law_1223 : decode cL_law 1223 = .ok (.iadd, 1) := by decide +kernel
theorem dL_law_1224 : decode cL_law 1224 = .ok (.iaload, 1) := by decide +kernel
theorem dL_law_1225 : decode cL_law 1225 = .ok (.aload_n 0, 1) := by decide +kernel
theorem dL_law_1226 : decode cL_law 1226 = .ok (.iload_n 3, 1) := by decide +kernel
theorem dL_law_1227 : decode cL_law 1227 = .ok (.iconst 3, 1) := by decide +kernel
theorem dL_law_1228 : decode cL_law 1228 = .ok (.iadd, 1) := by decide +kernel
theorem dL_law_1229 : decode cL_law 1229 = .ok (.iaload, 1) := by decide +kernel
theorem dL_law_1230 : decode cL_law 1230 = .ok (.invokevirtual 146, 3) := by decide +kernel
theorem dL_law_1233 : decode cL_law 1233 = .ok (.if_icmp .eq 377, 3) := by decide +kernel
theorem dL_law_1236 : decode cL_law 1236 = .ok (.iconst 0, 1) := by decide +kernel
theorem dL_law_1237 : decode cL_law 1237 = .ok (.ireturn, 1) := by decide +kernel
theorem dL_law_1238 : decode cL_law 1238 = .ok (.aload_n 1, 1) := by decide +kernel
theorem dL_law_1239 : decode cL_law 1239 = .ok (.aload_n 0, 1) := by decide +kernel
theorem dL_law_1240 : decode cL_law 1240 = .ok (.iload_n 3, 1) := by decide +kernel
theorem dL_law_1241 : decode cL_law 1241 = .ok (.iconst 1, 1) := by decide +kernel
theorem dL_law_1242 : decode cL_law 1242 = .ok (.iadd, 1) := by decide +kernel
theorem dL_law_1243 : decode cL_law 1243 = .ok (.iaload, 1) := by decide +kernel
theorem dL_law_1244 : decode cL_law 1244 = .ok (.aload_n 0, 1) := by decide +kernel
theorem dL_law_1245 : decode cL_law 1245 = .ok (.iload_n 3, 1) := by decide +kernel
theorem dL_law_1246 : decode cL_law 1246 = .ok (.iconst 2, 1) := by decide +kernel
theorem dL_law_1247 : decode cL_law 1247 = .ok (.iadd, 1) := by decide +kernel
theorem dL_law_1248 : decode cL_law 1248 = .ok (.iaload, 1) := by decide +kernel
theorem dL_law_1249 : decode cL_law 1249 = .ok (.invokevirtual 147, 3) := by decide +kernel
theorem dL_law_1252 : decode cL_law 1252 = .ok (.aload_n 2, 1) := by decide +kernel
theorem dL_law_1253 : decode cL_law 1253 = .ok (.aload_n 0, 1) := by decide +kernel
theorem dL_law_1254 : decode cL_law 1254 = .ok (.iload_n 3, 1) := by decide +kernel
theorem dL_law_1255 : decode cL_law 1255 = .ok (.iconst 1, 1) := by decide +kernel
theorem dL_law_1256 : decode cL_law 1256 = .ok (.iadd, 1) := by decide +kernel
theorem dL_law_1257 : decode cL_law 1257 = .ok (.iaload, 1) := by decide +kernel
theorem dL_law_1258 : decode cL_law 1258 = .ok (.aload_n 0, 1) := by decide +kernel
theorem dL_law_1259 : decode cL_law 1259 = .ok (.iload_n 3, 1) := by decide +kernel
theorem dL_law_1260 : decode cL_law 1260 = .ok (.iconst 2, 1) := by decide +kernel
theorem dL_law_1261 : decode cL_law 1261 = .ok (.iadd, 1) := by decide +kernel
theorem dL_law_1262 : decode cL_law 1262 = .ok (.iaload, 1) := by decide +kernel
theorem dL_law_1263 : decode cL_law 1263 = .ok (.invokevirtual 150, 3) := by decide +kernel
theorem dL_law_1266 : decode cL_law 1266 = .ok (.if_icmp .eq 344, 3) := by decide +kernel
theorem dL_law_1269 : decode cL_law 1269 = .ok (.iconst 0, 1) := by decide +kernel
theorem dL_law_1270 : decode cL_law 1270 = .ok (.ireturn, 1) := by decide +kernel
theorem dL_law_1271 : decode cL_law 1271 = .ok (.aload_n 1, 1) := by decide +kernel
theorem dL_law_1272 : decode cL_law 1272 = .ok (.aload_n 0, 1) := by decide +kernel
theorem dL_law_1273 : decode cL_law 1273 = .ok (.iload_n 3, 1) := by decide +kernel
theorem dL_law_1274 : decode cL_law 1274 = .ok (.iconst 1, 1) := by decide +kernel
theorem dL_law_1275 : decode cL_law 1275 = .ok (.iadd, 1) := by decide +kernel
theorem dL_law_1276 : decode cL_law 1276 = .ok (.iaload, 1) := by decide +kernel
theorem dL_law_1277 : decode cL_law 1277 = .ok (.aload_n 0, 1) := by decide +kernel
theorem dL_law_1278 : decode cL_law 1278 = .ok (.iload_n 3, 1) := by decide +kernel
theorem dL_law_1279 : decode cL_law 1279 = .ok (.iconst 2, 1) := by decide +kernel
theorem dL_law_1280 : decode cL_law 1280 = .ok (.iadd, 1) := by decide +kernel
theorem dL_law_1281 : decode cL_law 1281 = .ok (.iaload, 1) := by decide +kernel
theorem dL_law_1282 : decode cL_law 1282 = .ok (.invokevirtual 151, 3) := by decide +kernel
theorem dL_law_1285 : decode cL_law 1285 = .ok (.aload_n 2, 1) := by decide +kernel
theorem dL_law_1286 : decode cL_law 1286 = .ok (.aload_n 0, 1) := by decide +kernel
theorem dL_law_1287 : decode cL_law 1287 = .ok (.iload_n 3, 1) := by decide +kernel
theorem dL_law_1288 : decode cL_law 1288 = .ok (.iconst 1, 1) := by decide +kernel
theorem dL_law_1289 : decode cL_law 1289 = .ok (.iadd, 1) := by decide +kernel
theorem dL_law_1290 : decode cL_law 1290 = .ok (.iaload, 1) := by decide +kernel
theorem dL_law_1291 : decode cL_law 1291 = .ok (.aload_n 0, 1) := by decide +kernel
theorem dL_law_1292 : decode cL_law 1292 = .ok (.iload_n 3, 1) := by decide +kernel
theorem dL_law_1293 : decode cL_law 1293 = .ok (.iconst 2, 1) := by decide +kernel
theorem dL_law_1294 : decode cL_law 1294 = .ok (.iadd, 1) := by decide +kernel
theorem dL_law_1295 : decode cL_law 1295 = .ok (.iaload, 1) := by decide +kernel
theorem dL_law_1296 : decode cL_law 1296 = .ok (.invokevirtual 154, 3) := by decide +kernel
theorem dL_law_1299 : decode cL_law 1299 = .ok (.if_icmp .eq 311, 3) := by decide +kernel
theorem dL_law_1302 : decode cL_law 1302 = .ok (.iconst 0, 1) := by decide +kernel
theorem dL_law_1303 : decode cL_law 1303 = .ok (.ireturn, 1) := by decide +kernel
theorem dL_law_1304 : decode cL_law 1304 = .ok (.aload_n 1, 1) := by decide +kernel
theorem dL_law_1305 : decode cL_law 1305 = .ok (.invokevirtual 155, 3) := by decide +kernel
theorem dL_law_1308 : decode cL_law 1308 = .ok (.aload_n 2, 1) := by decide +kernel
theorem dL_law_1309 : decode cL_law 1309 = .ok (.invokevirtual 158, 3) := by decide +kernel
theorem dL_law_1312 : decode cL_law 1312 = .ok (.if_icmp .eq 298, 3) := by decide +kernel
theorem dL_law_1315 : decode cL_law 1315 = .ok (.iconst 0, 1) := by decide +kernel
theorem dL_law_1316 : decode cL_law 1316 = .ok (.ireturn, 1) := by decide +kernel
theorem dL_law_1317 : decode cL_law 1317 = .ok (.aload_n 1, 1) := by decide +kernel
theorem dL_law_1318 : decode cL_law 1318 = .ok (.aload_n 0, 1) := by decide +kernel
theorem dL_law_1319 : decode cL_law 1319 = .ok (.iload_n 3, 1) := by decide +kernel
theorem dL_law_1320 : decode cL_law 1320 = .ok (.iconst 1, 1) := by decide +kernel
theorem dL_law_1321 : decode cL_law 1321 = .ok (.iadd, 1) := by decide +kernel
theorem dL_law_1322 : decode cL_law 1322 = .ok (.iaload, 1) := by decide +kernel
theorem dL_law_1323 : decode cL_law 1323 = .ok (.invokevirtual 159, 3) := by decide +kernel
theorem dL_law_1326 : decode cL_law 1326 = .ok (.aload_n 2, 1) := by decide +kernel
theorem dL_law_1327 : decode cL_law 1327 = .ok (.aload_n 0, 1) := by decide +kernel
theorem dL_law_1328 : decode cL_law 1328 = .ok (.iload_n 3, 1) := by decide +kernel
theorem dL_law_1329 : decode cL_law 1329 = .ok (.iconst 1, 1) := by decide +kernel
theorem dL_law_1330 : decode cL_law 1330 = .ok (.iadd, 1) := by decide +kernel
theorem dL_law_1331 : decode cL_law 1331 = .ok (.iaload, 1) := by decide +kernel
theorem dL_law_1332 : decode cL_law 1332 = .ok (.invokevirtual 162, 3) := by decide +kernel
theorem dL_law_1335 : decode cL_law 1335 = .ok (.if_icmp .eq 275, 3) := by decide +kernel
theorem dL_law_1338 : decode cL_law 1338 = .ok (.iconst 0, 1) := by decide +kernel
theorem dL_law_1339 : decode cL_law 1339 = .ok (.ireturn, 1) := by decide +kernel
theorem dL_law_1340 : decode cL_law 1340 = .ok (.aload_n 1, 1) := by decide +kernel
theorem dL_law_1341 : decode cL_law 1341 = .ok (.aload_n 0, 1) := by decide +kernel
theorem dL_law_1342 : decode cL_law 1342 = .ok (.iload_n 3, 1) := by decide +kernel
theorem dL_law_1343 : decode cL_law 1343 = .ok (.iconst 1, 1) := by decide +kernel
theorem dL_law_1344 : decode cL_law 1344 = .ok (.iadd, 1) := by decide +kernel
theorem dL_law_1345 : decode cL_law 1345 = .ok (.iaload, 1) := by decide +kernel
theorem dL_law_1346 : decode cL_law 1346 = .ok (.aload_n 0, 1) := by decide +kernel
theorem dL_law_1347 : decode cL_law 1347 = .ok (.iload_n 3, 1) := by decide +kernel
theorem dL_law_1348 : decode cL_law 1348 = .ok (.iconst 2, 1) := by decide +kernel
theorem dL_law_1349 : decode cL_law 1349 = .ok (.iadd, 1) := by decide +kernel
theorem dL_law_1350 : decode cL_law 1350 = .ok (.iaload, 1) := by decide +kernel
theorem dL_law_1351 : decode cL_law 1351 = .ok (.invokevirtual 163, 3) := by decide +kernel
theorem dL_law_1354 : decode cL_law 1354 = .ok (.aload_n 2, 1) := by decide +kernel
theorem dL_law_1355 : decode cL_law 1355 = .ok (.aload_n 0, 1) := by decide +kernel
theorem dL_law_1356 : decode cL_law 1356 = .ok (.iload_n 3, 1) := by decide +kernel
theorem dL_law_1357 : decode cL_law 1357 = .ok (.iconst 1, 1) := by decide +kernel
theorem dL_law_1358 : decode cL_law 1358 = .ok (.iadd, 1) := by decide +kernel
theorem dL_law_1359 : decode cL_law 1359 = .ok (.iaload, 1) := by decide +kernel
theorem dL_law_1360 : decode cL_law 1360 = .ok (.aload_n 0, 1) := by decide +kernel
theorem dL_law_1361 : decode cL_law 1361 = .ok (.iload_n 3, 1) := by decide +kernel
theorem dL_law_1362 : decode cL_law 1362 = .ok (.iconst 2, 1) := by decide +kernel
theorem dL_law_1363 : decode cL_law 1363 = .ok (.iadd, 1) := by decide +kernel
theorem dL_law_1364 : decode cL_law 1364 = .ok (.iaload, 1) := by decide +kernel
theorem dL_law_1365 : decode cL_law 1365 = .ok (.invokevirtual 166, 3) := by decide +kernel
theorem dL_law_1368 : decode cL_law 1368 = .ok (.if_icmp .eq 242, 3) := by decide +kernel
theorem dL_law_1371 : decode cL_law 1371 = .ok (.iconst 0, 1) := by decide +kernel
theorem dL_law_1372 : decode cL_law 1372 = .ok (.ireturn, 1) := by decide +kernel
theorem dL_law_1373 : decode cL_law 1373 = .ok (.aload_n 1, 1) := by decide +kernel
theorem dL_law_1374 : decode cL_law 1374 = .ok (.aload_n 0, 1) := by decide +kernel
theorem dL_law_1375 : decode cL_law 1375 = .ok (.iload_n 3, 1) := by decide +kernel
theorem dL_law_1376 : decode cL_law 1376 = .ok (.iconst 1, 1) := by decide +kernel
theorem dL_law_1377 : decode cL_law 1377 = .ok (.iadd, 1) := by decide +kernel
theorem dL_law_1378 : decode cL_law 1378 = .ok (.iaload, 1) := by decide +kernel
theorem dL_law_1379 : decode cL_law 1379 = .ok (.aload_n 0, 1) := by decide +kernel
theorem dL_law_1380 : decode cL_law 1380 = .ok (.iload_n 3, 1) := by decide +kernel
theorem dL_law_1381 : decode cL_law 1381 = .ok (.iconst 2, 1) := by decide +kernel
theorem dL_law_1382 : decode cL_law 1382 = .ok (.iadd, 1) := by decide +kernel
theorem dL_law_1383 : decode cL_law 1383 = .ok (.iaload, 1) := by decide +kernel
theorem dL_law_1384 : decode cL_law 1384 = .ok (.aload_n 0, 1) := by decide +kernel
theorem dL_law_1385 : decode cL_law 1385 = .ok (.iload_n 3, 1) := by decide +kernel
theorem dL_law_1386 : decode cL_law 1386 = .ok (.iconst 3, 1) := by decide +kernel
theorem dL_law_1387 : decode cL_law 1387 = .ok (.iadd, 1) := by decide +kernel
theorem dL_law_1388 : decode cL_law 1388 = .ok (.iaload, 1) := by decide +kernel
theorem dL_law_1389 : decode cL_law 1389 = .ok (.invokevirtual 167, 3) := by decide +kernel
theorem dL_law_1392 : decode cL_law 1392 = .ok (.aload_n 2, 1) := by decide +kernel
theorem dL_law_1393 : decode cL_law 1393 = .ok (.aload_n 0, 1) := by decide +kernel
theorem dL_law_1394 : decode cL_law 1394 = .ok (.iload_n 3, 1) := by decide +kernel
theorem dL_law_1395 : decode cL_law 1395 = .ok (.iconst 1, 1) := by decide +kernel
theorem dL_law_1396 : decode cL_law 1396 = .ok (.iadd, 1) := by decide +kernel
theorem dL_law_1397 : decode cL_law 1397 = .ok (.iaload, 1) := by decide +kernel
theorem dL_law_1398 : decode cL_law 1398 = .ok (.aload_n 0, 1) := by decide +kernel
theorem dL_law_1399 : decode cL_law 1399 = .ok (.iload_n 3, 1) := by decide +kernel
theorem dL_law_1400 : decode cL_law 1400 = .ok (.iconst 2, 1) := by decide +kernel
theorem dL_law_1401 : decode cL_law 1401 = .ok (.iadd, 1) := by decide +kernel
theorem dL_law_1402 : decode cL_law 1402 = .ok (.iaload, 1) := by decide +kernel
theorem dL_law_1403 : decode cL_law 1403 = .ok (.aload_n 0, 1) := by decide +kernel
theorem dL_law_1404 : decode cL_law 1404 = .ok (.iload_n 3, 1) := by decide +kernel
theorem dL_law_1405 : decode cL_law 1405 = .ok (.iconst 3, 1) := by decide +kernel
theorem dL_law_1406 : decode cL_law 1406 = .ok (.iadd, 1) := by decide +kernel
theorem dL_law_1407 : decode cL_law 1407 = .ok (.iaload, 1) := by decide +kernel
theorem dL_law_1408 : decode cL_law 1408 = .ok (.invokevirtual 170, 3) := by decide +kernel
theorem dL_law_1411 : decode cL_law 1411 = .ok (.if_icmp .eq 199, 3) := by decide +kernel
theorem dL_law_1414 : decode cL_law 1414 = .ok (.iconst 0, 1) := by decide +kernel
theorem dL_law_1415 : decode cL_law 1415 = .ok (.ireturn, 1) := by decide +kernel
theorem dL_law_1416 : decode cL_law 1416 = .ok (.aload_n 1, 1) := by decide +kernel
theorem dL_law_1417 : decode cL_law 1417 = .ok (.aload_n 0, 1) := by decide +kernel
theorem dL_law_1418 : decode cL_law 1418 = .ok (.iload_n 3, 1) := by decide +kernel
theorem dL_law_1419 : decode cL_law 1419 = .ok (.iconst 1, 1) := by decide +kernel
theorem dL_law_1420 : decode cL_law 1420 = .ok (.iadd, 1) := by decide +kernel
theorem dL_law_1421 : decode cL_law 1421 = .ok (.iaload, 1) := by decide +kernel
theorem dL_law_1422 : decode cL_law 1422 = .ok (.aload_n 0, 1) := by decide +kernel
theorem dL_law_1423 : decode cL_law 1423 = .ok (.iload_n 3, 1) := by decide +kernel
theorem dL_law_1424 : decode cL_law 1424 = .ok (.iconst 2, 1) := by decide +kernel
theorem dL_law_1425 : decode cL_law 1425 = .ok (.iadd, 1) := by decide +kernel
theorem dL_law_1426 : decode cL_law 1426 = .ok (.iaload, 1) := by decide +kernel
theorem dL_law_1427 : decode cL_law 1427 = .ok (.invokevirtual 171, 3) := by decide +kernel
theorem dL_law_1430 : decode cL_law 1430 = .ok (.aload_n 2, 1) := by decide +kernel
theorem dL_law_1431 : decode cL_law 1431 = .ok (.aload_n 0, 1) := by decide +kernel
theorem dL_law_1432 : decode cL_law 1432 = .ok (.iload_n 3, 1) := by decide +kernel
theorem dL_law_1433 : decode cL_law 1433 = .ok (.iconst 1, 1) := by decide +kernel
theorem dL_law_1434 : decode cL_law 1434 = .ok (.iadd, 1) := by decide +kernel
theorem dL_law_1435 : decode cL_law 1435 = .ok (.iaload, 1) := by decide +kernel
theorem dL_law_1436 : decode cL_law 1436 = .ok (.aload_n 0, 1) := by decide +kernel
theorem dL_law_1437 : decode cL_law 1437 = .ok (.iload_n 3, 1) := by decide +kernel
theorem dL_law_1438 : decode cL_law 1438 = .ok (.iconst 2, 1) := by decide +kernel
theorem dL_law_1439 : decode cL_law 1439 = .ok (.iadd, 1) := by decide +kernel
theorem dL_law_1440 : decode cL_law 1440 = .ok (.iaload, 1) := by decide +kernel
theorem dL_law_1441 : decode cL_law 1441 = .ok (.invokevirtual 174, 3) := by decide +kernel
theorem dL_law_1444 : decode cL_law 1444 = .ok (.if_icmp .eq 166, 3) := by decide +kernel
theorem dL_law_1447 : decode cL_law 1447 = .ok (.iconst 0, 1) := by decide +kernel
theorem dL_law_1448 : decode cL_law 1448 = .ok (.ireturn, 1) := by decide +kernel
theorem dL_law_1449 : decode cL_law 1449 = .ok (.aload_n 1, 1) := by decide +kernel
theorem dL_law_1450 : decode cL_law 1450 = .ok (.aload_n 0, 1) := by decide +kernel
theorem dL_law_1451 : decode cL_law 1451 = .ok (.iload_n 3, 1) := by decide +kernel
theorem dL_law_1452 : decode cL_law 1452 = .ok (.iconst 1, 1) := by decide +kernel
theorem dL_law_1453 : decode cL_law 1453 = .ok (.iadd, 1) := by decide +kernel
theorem dL_law_1454 : decode cL_law 1454 = .ok (.iaload, 1) := by decide +kernel
theorem dL_law_1455 : decode cL_law 1455 = .ok (.invokevirtual 175, 3) := by decide +kernel
theorem dL_law_1458 : decode cL_law 1458 = .ok (.aload_n 2, 1) := by decide +kernel
theorem dL_law_1459 : decode cL_law 1459 = .ok (.aload_n 0, 1) := by decide +kernel
theorem dL_law_1460 : decode cL_law 1460 = .ok (.iload_n 3, 1) := by decide +kernel
theorem dL_law_1461 : decode cL_law 1461 = .ok (.iconst 1, 1) := by decide +kernel
theorem dL_law_1462 : decode cL_law 1462 = .ok (.iadd, 1) := by decide +kernel
theorem dL_law_1463 : decode cL_law 1463 = .ok (.iaload, 1) := by decide +kernel
theorem dL_law_1464 : decode cL_law 1464 = .ok (.invokevirtual 178, 3) := by decide +kernel
theorem dL_law_1467 : decode cL_law 1467 = .ok (.if_icmp .eq 143, 3) := by decide +kernel
theorem dL_law_1470 : decode cL_law 1470 = .ok (.iconst 0, 1) := by decide +kernel
theorem dL_law_1471 : decode cL_law 1471 = .ok (.ireturn, 1) := by decide +kernel
theorem dL_law_1472 : decode cL_law 1472 = .ok (.aload_n 1, 1) := by decide +kernel
theorem dL_law_1473 : decode cL_law 1473 = .ok (.aload_n 0, 1) := by decide +kernel
theorem dL_law_1474 : decode cL_law 1474 = .ok (.iload_n 3, 1) := by decide +kernel
theorem dL_law_1475 : decode cL_law 1475 = .ok (.iconst 1, 1) := by decide +kernel
theorem dL_law_1476 : decode cL_law 1476 = .ok (.iadd, 1) := by decide +kernel
theorem dL_law_1477 : decode cL_law 1477 = .ok (.iaload, 1) := by decide +kernel
theorem dL_law_1478 : decode cL_law 1478 = .ok (.invokevirtual 179, 3) := by decide +kernel
theorem dL_law_1481 : decode cL_law 1481 = .ok (.aload_n 2, 1) := by decide +kernel
theorem dL_law_1482 : decode cL_law 1482 = .ok (.aload_n 0, 1) := by decide +kernel
theorem dL_law_1483 : decode cL_law 1483 = .ok (.iload_n 3, 1) := by decide +kernel
theorem dL_law_1484 : decode cL_law 1484 = .ok (.iconst 1, 1) := by decide +kernel
theorem dL_law_1485 : decode cL_law 1485 = .ok (.iadd, 1) := by decide +kernel
theorem dL_law_1486 : decode cL_law 1486 = .ok (.iaload, 1) := by decide +kernel
theorem dL_law_1487 : decode cL_law 1487 = .ok (.invokevirtual 182, 3) := by decide +kernel
theorem dL_law_1490 : decode cL_law 1490 = .ok (.if_icmp .eq 120, 3) := by decide +kernel
theorem dL_law_1493 : decode cL_law 1493 = .ok (.iconst 0, 1) := by decide +kernel
theorem dL_law_1494 : decode cL_law 1494 = .ok (.ireturn, 1) := by decide +kernel
theorem dL_law_1495 : decode cL_law 1495 = .ok (.aload_n 1, 1) := by decide +kernel
theorem dL_law_1496 : decode cL_law 1496 = .ok (.aload_n 0, 1) := by decide +kernel
theorem dL_law_1497 : decode cL_law 1497 = .ok (.iload_n 3, 1) := by decide +kernel
theorem dL_law_1498 : decode cL_law 1498 = .ok (.iconst 1, 1) := by decide +kernel
theorem dL_law_1499 : decode cL_law 1499 = .ok (.iadd, 1) := by decide +kernel
theorem dL_law_1500 : decode cL_law 1500 = .ok (.iaload, 1) := by decide +kernel
theorem dL_law_1501 : decode cL_law 1501 = .ok (.aload_n 0, 1) := by decide +kernel
theorem dL_law_1502 : decode cL_law 1502 = .ok (.iload_n 3, 1) := by decide +kernel
theorem dL_law_1503 : decode cL_law 1503 = .ok (.iconst 2, 1) := by decide +kernel
theorem dL_law_1504 : decode cL_law 1504 = .ok (.iadd, 1) := by decide +kernel
theorem dL_law_1505 : decode cL_law 1505 = .ok (.iaload, 1) := by decide +kernel
theorem dL_law_1506 : decode cL_law 1506 = .ok (.aload_n 0, 1) := by decide +kernel
theorem dL_law_1507 : decode cL_law 1507 = .ok (.iload_n 3, 1) := by decide +kernel
theorem dL_law_1508 : decode cL_law 1508 = .ok (.iconst 3, 1) := by decide +kernel
theorem dL_law_1509 : decode cL_law 1509 = .ok (.iadd, 1) := by decide +kernel
theorem dL_law_1510 : decode cL_law 1510 = .ok (.iaload, 1) := by decide +kernel
theorem dL_law_1511 : decode cL_law 1511 = .ok (.invokevirtual 183, 3) := by decide +kernel
theorem dL_law_1514 : decode cL_law 1514 = .ok (.aload_n 2, 1) := by decide +kernel
theorem dL_law_1515 : decode cL_law 1515 = .ok (.aload_n 0, 1) := by decide +kernel
theorem dL_law_1516 : decode cL_law 1516 = .ok (.iload_n 3, 1) := by decide +kernel
theorem dL_law_1517 : decode cL_law 1517 = .ok (.iconst 1, 1) := by decide +kernel
theorem dL_law_1518 : decode cL_law 1518 = .ok (.iadd, 1) := by decide +kernel
theorem dL_law_1519 : decode cL_law 1519 = .ok (.iaload, 1) := by decide +kernel
theorem dL_law_1520 : decode cL_law 1520 = .ok (.aload_n 0, 1) := by decide +kernel
theorem dL_law_1521 : decode cL_law 1521 = .ok (.iload_n 3, 1) := by decide +kernel
theorem dL_law_1522 : decode cL_law 1522 = .ok (.iconst 2, 1) := by decide +kernel
theorem dL_law_1523 : decode cL_law 1523 = .ok (.iadd, 1) := by decide +kernel
theorem dL_law_1524 : decode cL_law 1524 = .ok (.iaload, 1) := by decide +kernel
theorem dL_law_1525 : decode cL_law 1525 = .ok (.aload_n 0, 1) := by decide +kernel
theorem dL_law_1526 : decode cL_law 1526 = .ok (.iload_n 3, 1) := by decide +kernel
theorem dL_law_1527 : decode cL_law 1527 = .ok (.iconst 3, 1) := by decide +kernel
theorem dL_law_1528 : decode cL_law 1528 = .ok (.iadd, 1) := by decide +kernel
theorem dL_law_1529 : decode cL_law 1529 = .ok (.iaload, 1) := by decide +kernel
theorem dL_law_1530 : decode cL_law 1530 = .ok (.invokevirtual 186, 3) := by decide +kernel
theorem dL_law_1533 : decode cL_law 1533 = .ok (.if_icmp .eq 77, 3) := by decide +kernel
theorem dL_law_1536 : decode cL_law 1536 = .ok (.iconst 0, 1) := by decide +kernel
theorem dL_law_1537 : decode cL_law 1537 = .ok (.ireturn, 1) := by decide +kernel
theorem dL_law_1538 : decode cL_law 1538 = .ok (.aload_n 1, 1) := by decide +kernel
theorem dL_law_1539 : decode cL_law 1539 = .ok (.aload_n 0, 1) := by decide +kernel
theorem dL_law_1540 : decode cL_law 1540 = .ok (.iload_n 3, 1) := by decide +kernel
theorem dL_law_1541 : decode cL_law 1541 = .ok (.iconst 1, 1) := by decide +kernel
theorem dL_law_1542 : decode cL_law 1542 = .ok (.iadd, 1) := by decide +kernel
theorem dL_law_1543 : decode cL_law 1543 = .ok (.iaload, 1) := by decide +kernel
theorem dL_law_1544 : decode cL_law 1544 = .ok (.invokevirtual 187, 3) := by decide +kernel
theorem dL_law_1547 : decode cL_law 1547 = .ok (.aload_n 2, 1) := by decide +kernel
theorem dL_law_1548 : decode cL_law 1548 = .ok (.aload_n 0, 1) := by decide +kernel
theorem dL_law_1549 : decode cL_law 1549 = .ok (.iload_n 3, 1) := by decide +kernel
theorem dL_law_1550 : decode cL_law 1550 = .ok (.iconst 1, 1) := by decide +kernel
theorem dL_law_1551 : decode cL_law 1551 = .ok (.iadd, 1) := by decide +kernel
theorem dL_law_1552 : decode cL_law 1552 = .ok (.iaload, 1) := by decide +kernel
theorem dL_law_1553 : decode cL_law 1553 = .ok (.invokevirtual 190, 3) := by decide +kernel
theorem dL_law_1556 : decode cL_law 1556 = .ok (.if_icmp .eq 54, 3) := by decide +kernel
theorem dL_law_1559 : decode cL_law 1559 = .ok (.iconst 0, 1) := by decide +kernel
theorem dL_law_1560 : decode cL_law 1560 = .ok (.ireturn, 1) := by decide +kernel
theorem dL_law_1561 : decode cL_law 1561 = .ok (.aload_n 1, 1) := by decide +kernel
theorem dL_law_1562 : decode cL_law 1562 = .ok (.invokevirtual 191, 3) := by decide +kernel
theorem dL_law_1565 : decode cL_law 1565 = .ok (.aload_n 2, 1) := by decide +kernel
theorem dL_law_1566 : decode cL_law 1566 = .ok (.invokevirtual 194, 3) := by decide +kernel
theorem dL_law_1569 : decode cL_law 1569 = .ok (.if_icmp .eq 41, 3) := by decide +kernel
theorem dL_law_1572 : decode cL_law 1572 = .ok (.iconst 0, 1) := by decide +kernel
theorem dL_law_1573 : decode cL_law 1573 = .ok (.ireturn, 1) := by decide +kernel
theorem dL_law_1574 : decode cL_law 1574 = .ok (.aload_n 1, 1) := by decide +kernel
theorem dL_law_1575 : decode cL_law 1575 = .ok (.invokevirtual 195, 3) := by decide +kernel
theorem dL_law_1578 : decode cL_law 1578 = .ok (.aload_n 2, 1) := by decide +kernel
theorem dL_law_1579 : decode cL_law 1579 = .ok (.invokevirtual 198, 3) := by decide +kernel
theorem dL_law_1582 : decode cL_law 1582 = .ok (.if_icmp .eq 28, 3) := by decide +kernel
theorem dL_law_1585 : decode cL_law 1585 = .ok (.iconst 0, 1) := by decide +kernel
theorem dL_law_1586 : decode cL_law 1586 = .ok (.ireturn, 1) := by decide +kernel
theorem dL_law_1587 : decode cL_law 1587 = .ok (.aload_n 1, 1) := by decide +kernel
theorem dL_law_1588 : decode cL_law 1588 = .ok (.aload_n 0, 1) := by decide +kernel
theorem dL_law_1589 : decode cL_law 1589 = .ok (.iload_n 3, 1) := by decide +kernel
theorem dL_law_1590 : decode cL_law 1590 = .ok (.iconst 1, 1) := by decide +kernel
theorem dL_law_1591 : decode cL_law 1591 = .ok (.iadd, 1) := by decide +kernel
theorem dL_law_1592 : decode cL_law 1592 = .ok (.iaload, 1) := by decide +kernel
theorem dL_law_1593 : decode cL_law 1593 = .ok (.invokevirtual 199, 3) := by decide +kernel
theorem dL_law_1596 : decode cL_law 1596 = .ok (.aload_n 2, 1) := by decide +kernel
theorem dL_law_1597 : decode cL_law 1597 = .ok (.aload_n 0, 1) := by decide +kernel
theorem dL_law_1598 : decode cL_law 1598 = .ok (.iload_n 3, 1) := by decide +kernel
theorem dL_law_1599 : decode cL_law 1599 = .ok (.iconst 1, 1) := by decide +kernel
theorem dL_law_1600 : decode cL_law 1600 = .ok (.iadd, 1) := by decide +kernel
theorem dL_law_1601 : decode cL_law 1601 = .ok (.iaload, 1) := by decide +kernel
theorem dL_law_1602 : decode cL_law 1602 = .ok (.invokevirtual 202, 3) := by decide +kernel
theorem dL_law_1605 : decode cL_law 1605 = .ok (.if_icmp .eq 5, 3) := by decide +kernel
theorem dL_law_1608 : decode cL_law 1608 = .ok (.iconst 0, 1) := by decide +kernel
theorem dL_law_1609 : decode cL_law 1609 = .ok (.ireturn, 1) := by decide +kernel
theorem dL_law_1610 : decode cL_law 1610 = .ok (.iinc 3 6, 3) := by decide +kernel
theorem dL_law_1613 : decode cL_law 1613 = .ok (.goto (-1595), 3) := by decide +kernel
theorem dL_law_1616 : decode cL_law 1616 = .ok (.iconst 1, 1) := by decide +kernel
theorem dL_law_1617 : decode cL_law 1617 = .ok (.ireturn, 1) := by decide +kernel
