theorem dX0_init_0 : decode cX0_init 0 = .ok (.aload_n 0, 1) := by decide +kernel
theorem dX0_init_1 : decode cX0_init 1 = .ok (.invokespecial 3, 3) := by decide +kernel
theorem dX0_init_4 : decode cX0_init 4 = .ok (.aload_n 0, 1) := by decide +kernel
theorem dX0_init_5 : decode cX0_init 5 = .ok (.bipush 80, 2) := by decide +kernel
theorem dX0_init_7 : decode cX0_init 7 = .ok (.newarray .int, 2) := by decide +kernel
theorem dX0_init_9 : decode cX0_init 9 = .ok (.putfield 9, 3) := by decide +kernel
theorem dX0_init_12 : decode cX0_init 12 = .ok (.aload_n 0, 1) := by decide +kernel
theorem dX0_init_13 : decode cX0_init 13 = .ok (.bipush 80, 2) := by decide +kernel
theorem dX0_init_15 : decode cX0_init 15 = .ok (.newarray .int, 2) := by decide +kernel
theorem dX0_init_17 : decode cX0_init 17 = .ok (.putfield 15, 3) := by decide +kernel
theorem dX0_init_20 : decode cX0_init 20 = .ok (.aload_n 0, 1) := by decide +kernel
theorem dX0_init_21 : decode cX0_init 21 = .ok (.bipush 80, 2) := by decide +kernel
theorem dX0_init_23 : decode cX0_init 23 = .ok (.newarray .int, 2) := by decide +kernel
theorem dX0_init_25 : decode cX0_init 25 = .ok (.putfield 18, 3) := by decide +kernel
theorem dX0_init_28 : decode cX0_init 28 = .ok (.aload_n 0, 1) := by decide +kernel
theorem dX0_init_29 : decode cX0_init 29 = .ok (.bipush 80, 2) := by decide +kernel
theorem dX0_init_31 : decode cX0_init 31 = .ok (.newarray .int, 2) := by decide +kernel
theorem dX0_init_33 : decode cX0_init 33 = .ok (.putfield 21, 3) := by decide +kernel
theorem dX0_init_36 : decode cX0_init 36 = .ok (.aload_n 0, 1) := by decide +kernel
theorem dX0_init_37 : decode cX0_init 37 = .ok (.sipush 480, 3) := by decide +kernel
theorem dX0_init_40 : decode cX0_init 40 = .ok (.newarray .int, 2) := by decide +kernel
theorem dX0_init_42 : decode cX0_init 42 = .ok (.putfield 24, 3) := by decide +kernel
theorem dX0_init_45 : decode cX0_init 45 = .ok (.aload_n 0, 1) := by decide +kernel
theorem dX0_init_46 : decode cX0_init 46 = .ok (.iconst 0, 1) := by decide +kernel
theorem dX0_init_47 : decode cX0_init 47 = .ok (.putfield 27, 3) := by decide +kernel
theorem dX0_init_50 : decode cX0_init 50 = .ok (.aload_n 0, 1) := by decide +kernel
theorem dX0_init_51 : decode cX0_init 51 = .ok (.aload_n 1, 1) := by decide +kernel
theorem dX0_init_52 : decode cX0_init 52 = .ok (.putfield 31, 3) := by decide +kernel
theorem dX0_init_55 : decode cX0_init 55 = .ok (.return_, 1) := by decide +kernel
theorem dX0_lay_0 : decode cX0_lay 0 = .ok (.aload_n 0, 1) := by decide +kernel
theorem dX0_lay_1 : decode cX0_lay 1 = .ok (.invokevirtual 35, 3) := by decide +kernel
theorem dX0_lay_4 : decode cX0_lay 4 = .ok (.aload_n 0, 1) := by decide +kernel
theorem dX0_lay_5 : decode cX0_lay 5 = .ok (.invokevirtual 38, 3) := by decide +kernel
theorem dX0_lay_8 : decode cX0_lay 8 = .ok (.aload_n 0, 1) := by decide +kernel
theorem dX0_lay_9 : decode cX0_lay 9 = .ok (.aload_n 0, 1) := by decide +kernel
theorem dX0_lay_10 : decode cX0_lay 10 = .ok (.getfield 31, 3) := by decide +kernel
theorem dX0_lay_13 : decode cX0_lay 13 = .ok (.aload_n 0, 1) := by decide +kernel
theorem dX0_lay_14 : decode cX0_lay 14 = .ok (.getfield 31, 3) := by decide +kernel
theorem dX0_lay_17 : decode cX0_lay 17 = .ok (.getfield 41, 3) := by decide +kernel
theorem dX0_lay_20 : decode cX0_lay 20 = .ok (.invokevirtual 46, 3) := by decide +kernel
theorem dX0_lay_23 : decode cX0_lay 23 = .ok (.putfield 27, 3) := by decide +kernel
theorem dX0_lay_26 : decode cX0_lay 26 = .ok (.return_, 1) := by decide +kernel
theorem dX0_layLoss_0 : decode cX0_layLoss 0 = .ok (.aload_n 0, 1) := by decide +kernel
theorem dX0_layLoss_1 : decode cX0_layLoss 1 = .ok (.getfield 9, 3) := by decide +kernel
theorem dX0_layLoss_4 : decode cX0_layLoss 4 = .ok (.iconst 0, 1) := by decide +kernel
theorem dX0_layLoss_5 : decode cX0_layLoss 5 = .ok (.invokestatic 50, 3) := by decide +kernel
theorem dX0_layLoss_8 : decode cX0_layLoss 8 = .ok (.iconst 0, 1) := by decide +kernel
theorem dX0_layLoss_9 : decode cX0_layLoss 9 = .ok (.istore_n 1, 1) := by decide +kernel
theorem dX0_layLoss_10 : decode cX0_layLoss 10 = .ok (.iload_n 1, 1) := by decide +kernel
theorem dX0_layLoss_11 : decode cX0_layLoss 11 = .ok (.aload_n 0, 1) := by decide +kernel
theorem dX0_layLoss_12 : decode cX0_layLoss 12 = .ok (.getfield 31, 3) := by decide +kernel
theorem dX0_layLoss_15 : decode cX0_layLoss 15 = .ok (.getfield 56, 3) := by decide +kernel
theorem dX0_layLoss_18 : decode cX0_layLoss 18 = .ok (.if_icmp .ge 48, 3) := by decide +kernel
theorem dX0_layLoss_21 : decode cX0_layLoss 21 = .ok (.aload_n 0, 1) := by decide +kernel
theorem dX0_layLoss_22 : decode cX0_layLoss 22 = .ok (.getfield 31, 3) := by decide +kernel
theorem dX0_layLoss_25 : decode cX0_layLoss 25 = .ok (.iload_n 1, 1) := by decide +kernel
theorem dX0_layLoss_26 : decode cX0_layLoss 26 = .ok (.invokevirtual 59, 3) := by decide +kernel
theorem dX0_layLoss_29 : decode cX0_layLoss 29 = .ok (.astore_n 2, 1) := by decide +kernel
theorem dX0_layLoss_30 : decode cX0_layLoss 30 = .ok (.aload_n 2, 1) := by decide +kernel
theorem dX0_layLoss_31 : decode cX0_layLoss 31 = .ok (.ifnull 29, 3) := by decide +kernel
theorem dX0_layLoss_34 : decode cX0_layLoss 34 = .ok (.aload_n 2, 1) := by decide +kernel
theorem dX0_layLoss_35 : decode cX0_layLoss 35 = .ok (.getfield 63, 3) := by decide +kernel
theorem dX0_layLoss_38 : decode cX0_layLoss 38 = .ok (.invokestatic 68, 3) := by decide +kernel
theorem dX0_layLoss_41 : decode cX0_layLoss 41 = .ok (.ifCond .eq 19, 3) := by decide +kernel
theorem dX0_layLoss_44 : decode cX0_layLoss 44 = .ok (.aload_n 0, 1) := by decide +kernel
theorem dX0_layLoss_45 : decode cX0_layLoss 45 = .ok (.getfield 9, 3) := by decide +kernel
theorem dX0_layLoss_48 : decode cX0_layLoss 48 = .ok (.aload_n 2, 1) := by decide +kernel
theorem dX0_layLoss_49 : decode cX0_layLoss 49 = .ok (.getfield 63, 3) := by decide +kernel
theorem dX0_layLoss_52 : decode cX0_layLoss 52 = .ok (.dup2, 1) := by decide +kernel
theorem dX0_layLoss_53 : decode cX0_layLoss 53 = .ok (.iaload, 1) := by decide +kernel
theorem dX0_layLoss_54 : decode cX0_layLoss 54 = .ok (.aload_n 2, 1) := by decide +kernel
theorem dX0_layLoss_55 : decode cX0_layLoss 55 = .ok (.invokevirtual 72, 3) := by decide +kernel
theorem dX0_layLoss_58 : decode cX0_layLoss 58 = .ok (.iadd, 1) := by decide +kernel
theorem dX0_layLoss_59 : decode cX0_layLoss 59 = .ok (.iastore, 1) := by decide +kernel
theorem dX0_layLoss_60 : decode cX0_layLoss 60 = .ok (.iinc 1 1, 3) := by decide +kernel
theorem dX0_layLoss_63 : decode cX0_layLoss 63 = .ok (.goto (-53), 3) := by decide +kernel
theorem dX0_layLoss_66 : decode cX0_layLoss 66 = .ok (.iconst 0, 1) := by decide +kernel
theorem dX0_layLoss_67 : decode cX0_layLoss 67 = .ok (.istore_n 1, 1) := by decide +kernel
theorem dX0_layLoss_68 : decode cX0_layLoss 68 = .ok (.iload_n 1, 1) := by decide +kernel
theorem dX0_layLoss_69 : decode cX0_layLoss 69 = .ok (.bipush 80, 2) := by decide +kernel
theorem dX0_layLoss_71 : decode cX0_layLoss 71 = .ok (.if_icmp .ge 73, 3) := by decide +kernel
theorem dX0_layLoss_74 : decode cX0_layLoss 74 = .ok (.aload_n 0, 1) := by decide +kernel
theorem dX0_layLoss_75 : decode cX0_layLoss 75 = .ok (.getfield 15, 3) := by decide +kernel
theorem dX0_layLoss_78 : decode cX0_layLoss 78 = .ok (.iload_n 1, 1) := by decide +kernel
theorem dX0_layLoss_79 : decode cX0_layLoss 79 = .ok (.aload_n 0, 1) := by decide +kernel
theorem dX0_layLoss_80 : decode cX0_layLoss 80 = .ok (.getfield 9, 3) := by decide +kernel
theorem dX0_layLoss_83 : decode cX0_layLoss 83 = .ok (.iload_n 1, 1) := by decide +kernel
theorem dX0_layLoss_84 : decode cX0_layLoss 84 = .ok (.iaload, 1) := by decide +kernel
theorem dX0_layLoss_85 : decode cX0_layLoss 85 = .ok (.iload_n 1, 1) := by decide +kernel
theorem dX0_layLoss_86 : decode cX0_layLoss 86 = .ok (.bipush 10, 2) := by decide +kernel
theorem dX0_layLoss_88 : decode cX0_layLoss 88 = .ok (.irem, 1) := by decide +kernel
theorem dX0_layLoss_89 : decode cX0_layLoss 89 = .ok (.ifCond .ne 7, 3) := by decide +kernel
theorem dX0_layLoss_92 : decode cX0_layLoss 92 = .ok (.iconst 0, 1) := by decide +kernel
theorem dX0_layLoss_93 : decode cX0_layLoss 93 = .ok (.goto 11, 3) := by decide +kernel
theorem dX0_layLoss_96 : decode cX0_layLoss 96 = .ok (.aload_n 0, 1) := by decide +kernel
theorem dX0_layLoss_97 : decode cX0_layLoss 97 = .ok (.getfield 15, 3) := by decide +kernel
theorem dX0_layLoss_100 : decode cX0_layLoss 100 = .ok (.iload_n 1, 1) := by decide +kernel
theorem dX0_layLoss_101 : decode cX0_layLoss 101 = .ok (.iconst 1, 1) := by decide +kernel
theorem dX0_layLoss_102 : decode cX0_layLoss 102 = .ok (.isub, 1) := by decide +kernel
theorem dX0_layLoss_103 : decode cX0_layLoss 103 = .ok (.iaload, 1) := by decide +kernel
theorem dX0_layLoss_104 : decode cX0_layLoss 104 = .ok (.iadd, 1) := by decide +kernel
theorem dX0_layLoss_105 : decode cX0_layLoss 105 = .ok (.iastore, 1) := by decide +kernel
theorem dX0_layLoss_106 : decode cX0_layLoss 106 = .ok (.aload_n 0, 1) := by decide +kernel
theorem dX0_layLoss_107 : decode cX0_layLoss 107 = .ok (.getfield 18, 3) := by decide +kernel
theorem dX0_layLoss_110 : decode cX0_layLoss 110 = .ok (.iload_n 1, 1) := by decide +kernel
theorem dX0_layLoss_111 : decode cX0_layLoss 111 = .ok (.aload_n 0, 1) := by decide +kernel
theorem dX0_layLoss_112 : decode cX0_layLoss 112 = .ok (.getfield 9, 3) := by decide +kernel
theorem dX0_layLoss_115 : decode cX0_layLoss 115 = .ok (.iload_n 1, 1) := by decide +kernel
theorem dX0_layLoss_116 : decode cX0_layLoss 116 = .ok (.iaload, 1) := by decide +kernel
theorem dX0_layLoss_117 : decode cX0_layLoss 117 = .ok (.iload_n 1, 1) := by decide +kernel
theorem dX0_layLoss_118 : decode cX0_layLoss 118 = .ok (.bipush 10, 2) := by decide +kernel
theorem dX0_layLoss_120 : decode cX0_layLoss 120 = .ok (.if_icmp .ge 7, 3) := by decide +kernel
theorem dX0_layLoss_123 : decode cX0_layLoss 123 = .ok (.iconst 0, 1) := by decide +kernel
theorem dX0_layLoss_124 : decode cX0_layLoss 124 = .ok (.goto 12, 3) := by decide +kernel
theorem dX0_layLoss_127 : decode cX0_layLoss 127 = .ok (.aload_n 0, 1) := by decide +kernel
theorem dX0_layLoss_128 : decode cX0_layLoss 128 = .ok (.getfield 18, 3) := by decide +kernel
theorem dX0_layLoss_131 : decode cX0_layLoss 131 = .ok (.iload_n 1, 1) := by decide +kernel
theorem dX0_layLoss_132 : decode cX0_layLoss 132 = .ok (.bipush 10, 2) := by decide +kernel
theorem dX0_layLoss_134 : decode cX0_layLoss 134 = .ok (.isub, 1) := by decide +kernel
theorem dX0_layLoss_135 : decode cX0_layLoss 135 = .ok (.iaload, 1) := by decide +kernel
theorem dX0_layLoss_136 : decode cX0_layLoss 136 = .ok (.iadd, 1) := by decide +kernel
theorem dX0_layLoss_137 : decode cX0_layLoss 137 = .ok (.iastore, 1) := by decide +kernel
theorem dX0_layLoss_138 : decode cX0_layLoss 138 = .ok (.iinc 1 1, 3) := by decide +kernel
theorem dX0_layLoss_141 : decode cX0_layLoss 141 = .ok (.goto (-73), 3) := by decide +kernel
theorem dX0_layLoss_144 : decode cX0_layLoss 144 = .ok (.return_, 1) := by decide +kernel
theorem dX0_layHum_0 : decode cX0_layHum 0 = .ok (.aload_n 0, 1) := by decide +kernel
theorem dX0_layHum_1 : decode cX0_layHum 1 = .ok (.getfield 21, 3) := by decide +kernel
theorem dX0_layHum_4 : decode cX0_layHum 4 = .ok (.iconst (-1), 1) := by decide +kernel
theorem dX0_layHum_5 : decode cX0_layHum 5 = .ok (.invokestatic 50, 3) := by decide +kernel
theorem dX0_layHum_8 : decode cX0_layHum 8 = .ok (.return_, 1) := by decide +kernel
theorem dX0_humAt_0 : decode cX0_humAt 0 = .ok (.iload_n 1, 1) := by decide +kernel
theorem dX0_humAt_1 : decode cX0_humAt 1 = .ok (.invokestatic 68, 3) := by decide +kernel
theorem dX0_humAt_4 : decode cX0_humAt 4 = .ok (.ifCond .ne 5, 3) := by decide +kernel
theorem dX0_humAt_7 : decode cX0_humAt 7 = .ok (.iconst 0, 1) := by decide +kernel
theorem dX0_humAt_8 : decode cX0_humAt 8 = .ok (.ireturn, 1) := by decide +kernel
theorem dX0_humAt_9 : decode cX0_humAt 9 = .ok (.aload_n 0, 1) := by decide +kernel
theorem dX0_humAt_10 : decode cX0_humAt 10 = .ok (.getfield 21, 3) := by decide +kernel
theorem dX0_humAt_13 : decode cX0_humAt 13 = .ok (.iload_n 1, 1) := by decide +kernel
theorem dX0_humAt_14 : decode cX0_humAt 14 = .ok (.iaload, 1) := by decide +kernel
theorem dX0_humAt_15 : decode cX0_humAt 15 = .ok (.iconst (-1), 1) := by decide +kernel
theorem dX0_humAt_16 : decode cX0_humAt 16 = .ok (.if_icmp .ne 70, 3) := by decide +kernel
theorem dX0_humAt_19 : decode cX0_humAt 19 = .ok (.iconst 0, 1) := by decide +kernel
theorem dX0_humAt_20 : decode cX0_humAt 20 = .ok (.istore_n 2, 1) := by decide +kernel
theorem dX0_humAt_21 : decode cX0_humAt 21 = .ok (.iconst 0, 1) := by decide +kernel
theorem dX0_humAt_22 : decode cX0_humAt 22 = .ok (.istore_n 3, 1) := by decide +kernel
theorem dX0_humAt_23 : decode cX0_humAt 23 = .ok (.iload_n 3, 1) := by decide +kernel
theorem dX0_humAt_24 : decode cX0_humAt 24 = .ok (.aload_n 0, 1) := by decide +kernel
theorem dX0_humAt_25 : decode cX0_humAt 25 = .ok (.getfield 31, 3) := by decide +kernel
theorem dX0_humAt_28 : decode cX0_humAt 28 = .ok (.getfield 56, 3) := by decide +kernel
theorem dX0_humAt_31 : decode cX0_humAt 31 = .ok (.if_icmp .ge 48, 3) := by decide +kernel
theorem dX0_humAt_34 : decode cX0_humAt 34 = .ok (.aload_n 0, 1) := by decide +kernel
theorem dX0_humAt_35 : decode cX0_humAt 35 = .ok (.getfield 31, 3) := by decide +kernel
theorem dX0_humAt_38 : decode cX0_humAt 38 = .ok (.iload_n 3, 1) := by decide +kernel
theorem dX0_humAt_39 : decode cX0_humAt 39 = .ok (.invokevirtual 59, 3) := by decide +kernel
theorem dX0_humAt_42 : decode cX0_humAt 42 = .ok (.astore 4, 2) := by decide +kernel
theorem dX0_humAt_44 : decode cX0_humAt 44 = .ok (.aload 4, 2) := by decide +kernel
theorem dX0_humAt_46 : decode cX0_humAt 46 = .ok (.ifnull 27, 3) := by decide +kernel
theorem dX0_humAt_49 : decode cX0_humAt 49 = .ok (.iload_n 2, 1) := by decide +kernel
theorem dX0_humAt_50 : decode cX0_humAt 50 = .ok (.aload 4, 2) := by decide +kernel
theorem dX0_humAt_52 : decode cX0_humAt 52 = .ok (.aload 4, 2) := by decide +kernel
theorem dX0_humAt_54 : decode cX0_humAt 54 = .ok (.getfield 63, 3) := by decide +kernel
theorem dX0_humAt_57 : decode cX0_humAt 57 = .ok (.iload_n 1, 1) := by decide +kernel
theorem dX0_humAt_58 : decode cX0_humAt 58 = .ok (.invokestatic 76, 3) := by decide +kernel
theorem dX0_humAt_61 : decode cX0_humAt 61 = .ok (.aload_n 0, 1) := by decide +kernel
theorem dX0_humAt_62 : decode cX0_humAt 62 = .ok (.getfield 31, 3) := by decide +kernel
theorem dX0_humAt_65 : decode cX0_humAt 65 = .ok (.getfield 80, 3) := by decide +kernel
theorem dX0_humAt_68 : decode cX0_humAt 68 = .ok (.invokevirtual 83, 3) := by decide +kernel
theorem dX0_humAt_71 : decode cX0_humAt 71 = .ok (.iadd, 1) := by decide +kernel
theorem dX0_humAt_72 : decode cX0_humAt 72 = .ok (.istore_n 2, 1) := by decide +kernel
theorem dX0_humAt_73 : decode cX0_humAt 73 = .ok (.iinc 3 1, 3) := by decide +kernel
theorem dX0_humAt_76 : decode cX0_humAt 76 = .ok (.goto (-53), 3) := by decide +kernel
theorem dX0_humAt_79 : decode cX0_humAt 79 = .ok (.aload_n 0, 1) := by decide +kernel
theorem dX0_humAt_80 : decode cX0_humAt 80 = .ok (.getfield 21, 3) := by decide +kernel
theorem dX0_humAt_83 : decode cX0_humAt 83 = .ok (.iload_n 1, 1) := by decide +kernel
theorem dX0_humAt_84 : decode cX0_humAt 84 = .ok (.iload_n 2, 1) := by decide +kernel
theorem dX0_humAt_85 : decode cX0_humAt 85 = .ok (.iastore, 1) := by decide +kernel
theorem dX0_humAt_86 : decode cX0_humAt 86 = .ok (.aload_n 0, 1) := by decide +kernel
theorem dX0_humAt_87 : decode cX0_humAt 87 = .ok (.getfield 21, 3) := by decide +kernel
theorem dX0_humAt_90 : decode cX0_humAt 90 = .ok (.iload_n 1, 1) := by decide +kernel
theorem dX0_humAt_91 : decode cX0_humAt 91 = .ok (.iaload, 1) := by decide +kernel
theorem dX0_humAt_92 : decode cX0_humAt 92 = .ok (.ireturn, 1) := by decide +kernel
theorem dX0_wayLoss_0 : decode cX0_wayLoss 0 = .ok (.iload_n 1, 1) := by decide +kernel
theorem dX0_wayLoss_1 : decode cX0_wayLoss 1 = .ok (.bipush 10, 2) := by decide +kernel
theorem dX0_wayLoss_3 : decode cX0_wayLoss 3 = .ok (.idiv, 1) := by decide +kernel
theorem dX0_wayLoss_4 : decode cX0_wayLoss 4 = .ok (.bipush 10, 2) := by decide +kernel
theorem dX0_wayLoss_6 : decode cX0_wayLoss 6 = .ok (.imul, 1) := by decide +kernel
theorem dX0_wayLoss_7 : decode cX0_wayLoss 7 = .ok (.iload_n 2, 1) := by decide +kernel
theorem dX0_wayLoss_8 : decode cX0_wayLoss 8 = .ok (.bipush 10, 2) := by decide +kernel
theorem dX0_wayLoss_10 : decode cX0_wayLoss 10 = .ok (.irem, 1) := by decide +kernel
theorem dX0_wayLoss_11 : decode cX0_wayLoss 11 = .ok (.iadd, 1) := by decide +kernel
theorem dX0_wayLoss_12 : decode cX0_wayLoss 12 = .ok (.istore_n 3, 1) := by decide +kernel
theorem dX0_wayLoss_13 : decode cX0_wayLoss 13 = .ok (.iload_n 2, 1) := by decide +kernel
theorem dX0_wayLoss_14 : decode cX0_wayLoss 14 = .ok (.bipush 10, 2) := by decide +kernel
theorem dX0_wayLoss_16 : decode cX0_wayLoss 16 = .ok (.idiv, 1) := by decide +kernel
theorem dX0_wayLoss_17 : decode cX0_wayLoss 17 = .ok (.bipush 10, 2) := by decide +kernel
theorem dX0_wayLoss_19 : decode cX0_wayLoss 19 = .ok (.imul, 1) := by decide +kernel
theorem dX0_wayLoss_20 : decode cX0_wayLoss 20 = .ok (.iload_n 1, 1) := by decide +kernel
theorem dX0_wayLoss_21 : decode cX0_wayLoss 21 = .ok (.bipush 10, 2) := by decide +kernel
theorem dX0_wayLoss_23 : decode cX0_wayLoss 23 = .ok (.irem, 1) := by decide +kernel
theorem dX0_wayLoss_24 : decode cX0_wayLoss 24 = .ok (.iadd, 1) := by decide +kernel
theorem dX0_wayLoss_25 : decode cX0_wayLoss 25 = .ok (.istore 4, 2) := by decide +kernel
theorem dX0_wayLoss_27 : decode cX0_wayLoss 27 = .ok (.aload_n 0, 1) := by decide +kernel
theorem dX0_wayLoss_28 : decode cX0_wayLoss 28 = .ok (.aload_n 0, 1) := by decide +kernel
theorem dX0_wayLoss_29 : decode cX0_wayLoss 29 = .ok (.getfield 15, 3) := by decide +kernel
theorem dX0_wayLoss_32 : decode cX0_wayLoss 32 = .ok (.iload_n 1, 1) := by decide +kernel
theorem dX0_wayLoss_33 : decode cX0_wayLoss 33 = .ok (.iload_n 3, 1) := by decide +kernel
theorem dX0_wayLoss_34 : decode cX0_wayLoss 34 = .ok (.invokevirtual 86, 3) := by decide +kernel
theorem dX0_wayLoss_37 : decode cX0_wayLoss 37 = .ok (.aload_n 0, 1) := by decide +kernel
theorem dX0_wayLoss_38 : decode cX0_wayLoss 38 = .ok (.aload_n 0, 1) := by decide +kernel
theorem dX0_wayLoss_39 : decode cX0_wayLoss 39 = .ok (.getfield 18, 3) := by decide +kernel
theorem dX0_wayLoss_42 : decode cX0_wayLoss 42 = .ok (.iload_n 3, 1) := by decide +kernel
theorem dX0_wayLoss_43 : decode cX0_wayLoss 43 = .ok (.iload_n 2, 1) := by decide +kernel
theorem dX0_wayLoss_44 : decode cX0_wayLoss 44 = .ok (.invokevirtual 86, 3) := by decide +kernel
theorem dX0_wayLoss_47 : decode cX0_wayLoss 47 = .ok (.iadd, 1) := by decide +kernel
theorem dX0_wayLoss_48 : decode cX0_wayLoss 48 = .ok (.istore 5, 2) := by decide +kernel
theorem dX0_wayLoss_50 : decode cX0_wayLoss 50 = .ok (.aload_n 0, 1) := by decide +kernel
theorem dX0_wayLoss_51 : decode cX0_wayLoss 51 = .ok (.aload_n 0, 1) := by decide +kernel
theorem dX0_wayLoss_52 : decode cX0_wayLoss 52 = .ok (.getfield 18, 3) := by decide +kernel
theorem dX0_wayLoss_55 : decode cX0_wayLoss 55 = .ok (.iload_n 1, 1) := by decide +kernel
theorem dX0_wayLoss_56 : decode cX0_wayLoss 56 = .ok (.iload 4, 2) := by decide +kernel
theorem dX0_wayLoss_58 : decode cX0_wayLoss 58 = .ok (.invokevirtual 86, 3) := by decide +kernel
theorem dX0_wayLoss_61 : decode cX0_wayLoss 61 = .ok (.aload_n 0, 1) := by decide +kernel
theorem dX0_wayLoss_62 : decode cX0_wayLoss 62 = .ok (.aload_n 0, 1) := by decide +kernel
theorem dX0_wayLoss_63 : decode cX0_wayLoss 63 = .ok (.getfield 15, 3) := by decide +kernel
theorem dX0_wayLoss_66 : decode cX0_wayLoss 66 = .ok (.iload 4, 2) := by decide +kernel
theorem dX0_wayLoss_68 : decode cX0_wayLoss 68 = .ok (.iload_n 2, 1) := by decide +kernel
theorem dX0_wayLoss_69 : decode cX0_wayLoss 69 = .ok (.invokevirtual 86, 3) := by decide +kernel
theorem dX0_wayLoss_72 : decode cX0_wayLoss 72 = .ok (.iadd, 1) := by decide +kernel
theorem dX0_wayLoss_73 : decode cX0_wayLoss 73 = .ok (.istore 6, 2) := by decide +kernel
theorem dX0_wayLoss_75 : decode cX0_wayLoss 75 = .ok (.iload 5, 2) := by decide +kernel
theorem dX0_wayLoss_77 : decode cX0_wayLoss 77 = .ok (.iload 6, 2) := by decide +kernel
theorem dX0_wayLoss_79 : decode cX0_wayLoss 79 = .ok (.invokestatic 90, 3) := by decide +kernel
theorem dX0_wayLoss_82 : decode cX0_wayLoss 82 = .ok (.ireturn, 1) := by decide +kernel
theorem dX0_along_0 : decode cX0_along 0 = .ok (.iload_n 2, 1) := by decide +kernel
theorem dX0_along_1 : decode cX0_along 1 = .ok (.invokestatic 68, 3) := by decide +kernel
theorem dX0_along_4 : decode cX0_along 4 = .ok (.ifCond .eq 10, 3) := by decide +kernel
theorem dX0_along_7 : decode cX0_along 7 = .ok (.iload_n 3, 1) := by decide +kernel
theorem dX0_along_8 : decode cX0_along 8 = .ok (.invokestatic 68, 3) := by decide +kernel
theorem dX0_along_11 : decode cX0_along 11 = .ok (.ifCond .ne 5, 3) := by decide +kernel
theorem dX0_along_14 : decode cX0_along 14 = .ok (.iconst 0, 1) := by decide +kernel
theorem dX0_along_15 : decode cX0_along 15 = .ok (.ireturn, 1) := by decide +kernel
theorem dX0_along_16 : decode cX0_along 16 = .ok (.iload_n 3, 1) := by decide +kernel
theorem dX0_along_17 : decode cX0_along 17 = .ok (.iload_n 2, 1) := by decide +kernel
theorem dX0_along_18 : decode cX0_along 18 = .ok (.if_icmp .le 11, 3) := by decide +kernel
theorem dX0_along_21 : decode cX0_along 21 = .ok (.aload_n 1, 1) := by decide +kernel
theorem dX0_along_22 : decode cX0_along 22 = .ok (.iload_n 3, 1) := by decide +kernel
theorem dX0_along_23 : decode cX0_along 23 = .ok (.iaload, 1) := by decide +kernel
theorem dX0_along_24 : decode cX0_along 24 = .ok (.aload_n 1, 1) := by decide +kernel
theorem dX0_along_25 : decode cX0_along 25 = .ok (.iload_n 2, 1) := by decide +kernel
theorem dX0_along_26 : decode cX0_along 26 = .ok (.iaload, 1) := by decide +kernel
theorem dX0_along_27 : decode cX0_along 27 = .ok (.isub, 1) := by decide +kernel
theorem dX0_along_28 : decode cX0_along 28 = .ok (.ireturn, 1) := by decide +kernel
theorem dX0_along_29 : decode cX0_along 29 = .ok (.aload_n 1, 1) := by decide +kernel
theorem dX0_along_30 : decode cX0_along 30 = .ok (.iload_n 2, 1) := by decide +kernel
theorem dX0_along_31 : decode cX0_along 31 = .ok (.iaload, 1) := by decide +kernel
theorem dX0_along_32 : decode cX0_along 32 = .ok (.aload_n 0, 1) := by decide +kernel
theorem dX0_along_33 : decode cX0_along 33 = .ok (.getfield 9, 3) := by decide +kernel
theorem dX0_along_36 : decode cX0_along 36 = .ok (.iload_n 2, 1) := by decide +kernel
theorem dX0_along_37 : decode cX0_along 37 = .ok (.iaload, 1) := by decide +kernel
theorem dX0_along_38 : decode cX0_along 38 = .ok (.isub, 1) := by decide +kernel
theorem dX0_along_39 : decode cX0_along 39 = .ok (.aload_n 1, 1) := by decide +kernel
theorem dX0_along_40 : decode cX0_along 40 = .ok (.iload_n 3, 1) := by decide +kernel
theorem dX0_along_41 : decode cX0_along 41 = .ok (.iaload, 1) := by decide +kernel
theorem dX0_along_42 : decode cX0_along 42 = .ok (.isub, 1) := by decide +kernel
theorem dX0_along_43 : decode cX0_along 43 = .ok (.aload_n 0, 1) := by decide +kernel
theorem dX0_along_44 : decode cX0_along 44 = .ok (.getfield 9, 3) := by decide +kernel
theorem dX0_along_47 : decode cX0_along 47 = .ok (.iload_n 3, 1) := by decide +kernel
theorem dX0_along_48 : decode cX0_along 48 = .ok (.iaload, 1) := by decide +kernel
theorem dX0_along_49 : decode cX0_along 49 = .ok (.iadd, 1) := by decide +kernel
theorem dX0_along_50 : decode cX0_along 50 = .ok (.ireturn, 1) := by decide +kernel
theorem dX0_strengthFrom_0 : decode cX0_strengthFrom 0 = .ok (.iload_n 1, 1) := by decide +kernel
theorem dX0_strengthFrom_1 : decode cX0_strengthFrom 1 = .ok (.invokestatic 68, 3) := by decide +kernel
theorem dX0_strengthFrom_4 : decode cX0_strengthFrom 4 = .ok (.ifCond .eq 10, 3) := by decide +kernel
theorem dX0_strengthFrom_7 : decode cX0_strengthFrom 7 = .ok (.iload_n 2, 1) := by decide +kernel
theorem dX0_strengthFrom_8 : decode cX0_strengthFrom 8 = .ok (.invokestatic 68, 3) := by decide +kernel
theorem dX0_strengthFrom_11 : decode cX0_strengthFrom 11 = .ok (.ifCond .ne 5, 3) := by decide +kernel
theorem dX0_strengthFrom_14 : decode cX0_strengthFrom 14 = .ok (.iconst 0, 1) := by decide +kernel
theorem dX0_strengthFrom_15 : decode cX0_strengthFrom 15 = .ok (.ireturn, 1) := by decide +kernel
theorem dX0_strengthFrom_16 : decode cX0_strengthFrom 16 = .ok (.iconst 0, 1) := by decide +kernel
theorem dX0_strengthFrom_17 : decode cX0_strengthFrom 17 = .ok (.aload_n 0, 1) := by decide +kernel
theorem dX0_strengthFrom_18 : decode cX0_strengthFrom 18 = .ok (.getfield 31, 3) := by decide +kernel
theorem dX0_strengthFrom_21 : decode cX0_strengthFrom 21 = .ok (.getfield 95, 3) := by decide +kernel
theorem dX0_strengthFrom_24 : decode cX0_strengthFrom 24 = .ok (.iconst 2, 1) := by decide +kernel
theorem dX0_strengthFrom_25 : decode cX0_strengthFrom 25 = .ok (.iload_n 1, 1) := by decide +kernel
theorem dX0_strengthFrom_26 : decode cX0_strengthFrom 26 = .ok (.iload_n 2, 1) := by decide +kernel
theorem dX0_strengthFrom_27 : decode cX0_strengthFrom 27 = .ok (.invokestatic 76, 3) := by decide +kernel
theorem dX0_strengthFrom_30 : decode cX0_strengthFrom 30 = .ok (.imul, 1) := by decide +kernel
theorem dX0_strengthFrom_31 : decode cX0_strengthFrom 31 = .ok (.isub, 1) := by decide +kernel
theorem dX0_strengthFrom_32 : decode cX0_strengthFrom 32 = .ok (.aload_n 0, 1) := by decide +kernel
theorem dX0_strengthFrom_33 : decode cX0_strengthFrom 33 = .ok (.iload_n 1, 1) := by decide +kernel
theorem dX0_strengthFrom_34 : decode cX0_strengthFrom 34 = .ok (.iload_n 2, 1) := by decide +kernel
theorem dX0_strengthFrom_35 : decode cX0_strengthFrom 35 = .ok (.invokevirtual 98, 3) := by decide +kernel
theorem dX0_strengthFrom_38 : decode cX0_strengthFrom 38 = .ok (.isub, 1) := by decide +kernel
theorem dX0_strengthFrom_39 : decode cX0_strengthFrom 39 = .ok (.aload_n 0, 1) := by decide +kernel
theorem dX0_strengthFrom_40 : decode cX0_strengthFrom 40 = .ok (.iload_n 2, 1) := by decide +kernel
theorem dX0_strengthFrom_41 : decode cX0_strengthFrom 41 = .ok (.invokevirtual 101, 3) := by decide +kernel
theorem dX0_strengthFrom_44 : decode cX0_strengthFrom 44 = .ok (.isub, 1) := by decide +kernel
theorem dX0_strengthFrom_45 : decode cX0_strengthFrom 45 = .ok (.aload_n 0, 1) := by decide +kernel
theorem dX0_strengthFrom_46 : decode cX0_strengthFrom 46 = .ok (.getfield 27, 3) := by decide +kernel
theorem dX0_strengthFrom_49 : decode cX0_strengthFrom 49 = .ok (.isub, 1) := by decide +kernel
theorem dX0_strengthFrom_50 : decode cX0_strengthFrom 50 = .ok (.invokestatic 104, 3) := by decide +kernel
theorem dX0_strengthFrom_53 : decode cX0_strengthFrom 53 = .ok (.ireturn, 1) := by decide +kernel
theorem dX0_barsOf_0 : decode cX0_barsOf 0 = .ok (.aload_n 0, 1) := by decide +kernel
theorem dX0_barsOf_1 : decode cX0_barsOf 1 = .ok (.aload_n 0, 1) := by decide +kernel
theorem dX0_barsOf_2 : decode cX0_barsOf 2 = .ok (.getfield 31, 3) := by decide +kernel
theorem dX0_barsOf_5 : decode cX0_barsOf 5 = .ok (.iload_n 1, 1) := by decide +kernel
theorem dX0_barsOf_6 : decode cX0_barsOf 6 = .ok (.invokevirtual 107, 3) := by decide +kernel
theorem dX0_barsOf_9 : decode cX0_barsOf 9 = .ok (.iload_n 2, 1) := by decide +kernel
theorem dX0_barsOf_10 : decode cX0_barsOf 10 = .ok (.invokevirtual 110, 3) := by decide +kernel
theorem dX0_barsOf_13 : decode cX0_barsOf 13 = .ok (.invokestatic 113, 3) := by decide +kernel
theorem dX0_barsOf_16 : decode cX0_barsOf 16 = .ok (.ireturn, 1) := by decide +kernel
theorem dX0_betterBars_0 : decode cX0_betterBars 0 = .ok (.aload_n 0, 1) := by decide +kernel
theorem dX0_betterBars_1 : decode cX0_betterBars 1 = .ok (.iconst 0, 1) := by decide +kernel
theorem dX0_betterBars_2 : decode cX0_betterBars 2 = .ok (.iload_n 1, 1) := by decide +kernel
theorem dX0_betterBars_3 : decode cX0_betterBars 3 = .ok (.invokevirtual 116, 3) := by decide +kernel
theorem dX0_betterBars_6 : decode cX0_betterBars 6 = .ok (.aload_n 0, 1) := by decide +kernel
theorem dX0_betterBars_7 : decode cX0_betterBars 7 = .ok (.iconst 1, 1) := by decide +kernel
theorem dX0_betterBars_8 : decode cX0_betterBars 8 = .ok (.iload_n 1, 1) := by decide +kernel
theorem dX0_betterBars_9 : decode cX0_betterBars 9 = .ok (.invokevirtual 116, 3) := by decide +kernel
theorem dX0_betterBars_12 : decode cX0_betterBars 12 = .ok (.invokestatic 104, 3) := by decide +kernel
theorem dX0_betterBars_15 : decode cX0_betterBars 15 = .ok (.ireturn, 1) := by decide +kernel
theorem dX0_paceOf_0 : decode cX0_paceOf 0 = .ok (.iload_n 1, 1) := by decide +kernel
theorem dX0_paceOf_1 : decode cX0_paceOf 1 = .ok (.ifCond .ne 10, 3) := by decide +kernel
theorem dX0_paceOf_4 : decode cX0_paceOf 4 = .ok (.aload_n 0, 1) := by decide +kernel
theorem dX0_paceOf_5 : decode cX0_paceOf 5 = .ok (.iconst 0, 1) := by decide +kernel
theorem dX0_paceOf_6 : decode cX0_paceOf 6 = .ok (.iload_n 2, 1) := by decide +kernel
theorem dX0_paceOf_7 : decode cX0_paceOf 7 = .ok (.invokevirtual 116, 3) := by decide +kernel
theorem dX0_paceOf_10 : decode cX0_paceOf 10 = .ok (.ireturn, 1) := by decide +kernel
theorem dX0_paceOf_11 : decode cX0_paceOf 11 = .ok (.aload_n 0, 1) := by decide +kernel
theorem dX0_paceOf_12 : decode cX0_paceOf 12 = .ok (.iconst 1, 1) := by decide +kernel
theorem dX0_paceOf_13 : decode cX0_paceOf 13 = .ok (.iload_n 2, 1) := by decide +kernel
theorem dX0_paceOf_14 : decode cX0_paceOf 14 = .ok (.invokevirtual 116, 3) := by decide +kernel
theorem dX0_paceOf_17 : decode cX0_paceOf 17 = .ok (.iconst 2, 1) := by decide +kernel
theorem dX0_paceOf_18 : decode cX0_paceOf 18 = .ok (.idiv, 1) := by decide +kernel
theorem dX0_paceOf_19 : decode cX0_paceOf 19 = .ok (.aload_n 0, 1) := by decide +kernel
theorem dX0_paceOf_20 : decode cX0_paceOf 20 = .ok (.iconst 0, 1) := by decide +kernel
theorem dX0_paceOf_21 : decode cX0_paceOf 21 = .ok (.aload_n 0, 1) := by decide +kernel
theorem dX0_paceOf_22 : decode cX0_paceOf 22 = .ok (.getfield 31, 3) := by decide +kernel
theorem dX0_paceOf_25 : decode cX0_paceOf 25 = .ok (.getfield 119, 3) := by decide +kernel
theorem dX0_paceOf_28 : decode cX0_paceOf 28 = .ok (.invokevirtual 116, 3) := by decide +kernel
theorem dX0_paceOf_31 : decode cX0_paceOf 31 = .ok (.invokestatic 90, 3) := by decide +kernel
theorem dX0_paceOf_34 : decode cX0_paceOf 34 = .ok (.ireturn, 1) := by decide +kernel
theorem dX0_clingsThen_0 : decode cX0_clingsThen 0 = .ok (.aload_n 0, 1) := by decide +kernel
theorem dX0_clingsThen_1 : decode cX0_clingsThen 1 = .ok (.aload_n 0, 1) := by decide +kernel
theorem dX0_clingsThen_2 : decode cX0_clingsThen 2 = .ok (.getfield 31, 3) := by decide +kernel
theorem dX0_clingsThen_5 : decode cX0_clingsThen 5 = .ok (.iload_n 1, 1) := by decide +kernel
theorem dX0_clingsThen_6 : decode cX0_clingsThen 6 = .ok (.invokevirtual 107, 3) := by decide +kernel
theorem dX0_clingsThen_9 : decode cX0_clingsThen 9 = .ok (.iload_n 2, 1) := by decide +kernel
theorem dX0_clingsThen_10 : decode cX0_clingsThen 10 = .ok (.invokevirtual 110, 3) := by decide +kernel
theorem dX0_clingsThen_13 : decode cX0_clingsThen 13 = .ok (.invokestatic 113, 3) := by decide +kernel
theorem dX0_clingsThen_16 : decode cX0_clingsThen 16 = .ok (.istore 4, 2) := by decide +kernel
theorem dX0_clingsThen_18 : decode cX0_clingsThen 18 = .ok (.aload_n 0, 1) := by decide +kernel
theorem dX0_clingsThen_19 : decode cX0_clingsThen 19 = .ok (.aload_n 0, 1) := by decide +kernel
theorem dX0_clingsThen_20 : decode cX0_clingsThen 20 = .ok (.getfield 31, 3) := by decide +kernel
theorem dX0_clingsThen_23 : decode cX0_clingsThen 23 = .ok (.iconst 1, 1) := by decide +kernel
theorem dX0_clingsThen_24 : decode cX0_clingsThen 24 = .ok (.iload_n 1, 1) := by decide +kernel
theorem dX0_clingsThen_25 : decode cX0_clingsThen 25 = .ok (.isub, 1) := by decide +kernel
theorem dX0_clingsThen_26 : decode cX0_clingsThen 26 = .ok (.invokevirtual 107, 3) := by decide +kernel
theorem dX0_clingsThen_29 : decode cX0_clingsThen 29 = .ok (.iload_n 2, 1) := by decide +kernel
theorem dX0_clingsThen_30 : decode cX0_clingsThen 30 = .ok (.invokevirtual 110, 3) := by decide +kernel
theorem dX0_clingsThen_33 : decode cX0_clingsThen 33 = .ok (.invokestatic 113, 3) := by decide +kernel
theorem dX0_clingsThen_36 : decode cX0_clingsThen 36 = .ok (.istore 5, 2) := by decide +kernel
theorem dX0_clingsThen_38 : decode cX0_clingsThen 38 = .ok (.iload 4, 2) := by decide +kernel
theorem dX0_clingsThen_40 : decode cX0_clingsThen 40 = .ok (.iload_n 3, 1) := by decide +kernel
theorem dX0_clingsThen_41 : decode cX0_clingsThen 41 = .ok (.if_icmp .gt 16, 3) := by decide +kernel
theorem dX0_clingsThen_44 : decode cX0_clingsThen 44 = .ok (.iload 5, 2) := by decide +kernel
theorem dX0_clingsThen_46 : decode cX0_clingsThen 46 = .ok (.iload 4, 2) := by decide +kernel
theorem dX0_clingsThen_48 : decode cX0_clingsThen 48 = .ok (.if_icmp .le 9, 3) := by decide +kernel
theorem dX0_clingsThen_51 : decode cX0_clingsThen 51 = .ok (.iconst 1, 1) := by decide +kernel
theorem dX0_clingsThen_52 : decode cX0_clingsThen 52 = .ok (.iload_n 1, 1) := by decide +kernel
theorem dX0_clingsThen_53 : decode cX0_clingsThen 53 = .ok (.isub, 1) := by decide +kernel
theorem dX0_clingsThen_54 : decode cX0_clingsThen 54 = .ok (.goto 4, 3) := by decide +kernel
theorem dX0_clingsThen_57 : decode cX0_clingsThen 57 = .ok (.iload_n 1, 1) := by decide +kernel
theorem dX0_clingsThen_58 : decode cX0_clingsThen 58 = .ok (.ireturn, 1) := by decide +kernel
theorem dX0_filledNow_0 : decode cX0_filledNow 0 = .ok (.iconst 0, 1) := by decide +kernel
theorem dX0_filledNow_1 : decode cX0_filledNow 1 = .ok (.istore_n 1, 1) := by decide +kernel
theorem dX0_filledNow_2 : decode cX0_filledNow 2 = .ok (.iconst 0, 1) := by decide +kernel
theorem dX0_filledNow_3 : decode cX0_filledNow 3 = .ok (.istore_n 2, 1) := by decide +kernel
theorem dX0_filledNow_4 : decode cX0_filledNow 4 = .ok (.iload_n 2, 1) := by decide +kernel
theorem dX0_filledNow_5 : decode cX0_filledNow 5 = .ok (.aload_n 0, 1) := by decide +kernel
theorem dX0_filledNow_6 : decode cX0_filledNow 6 = .ok (.getfield 31, 3) := by decide +kernel
theorem dX0_filledNow_9 : decode cX0_filledNow 9 = .ok (.getfield 122, 3) := by decide +kernel
theorem dX0_filledNow_12 : decode cX0_filledNow 12 = .ok (.if_icmp .ge 48, 3) := by decide +kernel
theorem dX0_filledNow_15 : decode cX0_filledNow 15 = .ok (.aload_n 0, 1) := by decide +kernel
theorem dX0_filledNow_16 : decode cX0_filledNow 16 = .ok (.getfield 31, 3) := by decide +kernel
theorem dX0_filledNow_19 : decode cX0_filledNow 19 = .ok (.iload_n 2, 1) := by decide +kernel
theorem dX0_filledNow_20 : decode cX0_filledNow 20 = .ok (.invokevirtual 125, 3) := by decide +kernel
theorem dX0_filledNow_23 : decode cX0_filledNow 23 = .ok (.astore_n 3, 1) := by decide +kernel
theorem dX0_filledNow_24 : decode cX0_filledNow 24 = .ok (.aload_n 3, 1) := by decide +kernel
theorem dX0_filledNow_25 : decode cX0_filledNow 25 = .ok (.ifnull 29, 3) := by decide +kernel
theorem dX0_filledNow_28 : decode cX0_filledNow 28 = .ok (.aload_n 0, 1) := by decide +kernel
theorem dX0_filledNow_29 : decode cX0_filledNow 29 = .ok (.aload_n 3, 1) := by decide +kernel
theorem dX0_filledNow_30 : decode cX0_filledNow 30 = .ok (.getfield 129, 3) := by decide +kernel
theorem dX0_filledNow_33 : decode cX0_filledNow 33 = .ok (.aload_n 3, 1) := by decide +kernel
theorem dX0_filledNow_34 : decode cX0_filledNow 34 = .ok (.getfield 134, 3) := by decide +kernel
theorem dX0_filledNow_37 : decode cX0_filledNow 37 = .ok (.invokevirtual 135, 3) := by decide +kernel
theorem dX0_filledNow_40 : decode cX0_filledNow 40 = .ok (.aload_n 3, 1) := by decide +kernel
theorem dX0_filledNow_41 : decode cX0_filledNow 41 = .ok (.getfield 138, 3) := by decide +kernel
theorem dX0_filledNow_44 : decode cX0_filledNow 44 = .ok (.if_icmp .lt 10, 3) := by decide +kernel
theorem dX0_filledNow_47 : decode cX0_filledNow 47 = .ok (.iload_n 1, 1) := by decide +kernel
theorem dX0_filledNow_48 : decode cX0_filledNow 48 = .ok (.aload_n 3, 1) := by decide +kernel
theorem dX0_filledNow_49 : decode cX0_filledNow 49 = .ok (.getfield 141, 3) := by decide +kernel
theorem dX0_filledNow_52 : decode cX0_filledNow 52 = .ok (.iadd, 1) := by decide +kernel
theorem dX0_filledNow_53 : decode cX0_filledNow 53 = .ok (.istore_n 1, 1) := by decide +kernel
theorem dX0_filledNow_54 : decode cX0_filledNow 54 = .ok (.iinc 2 1, 3) := by decide +kernel
theorem dX0_filledNow_57 : decode cX0_filledNow 57 = .ok (.goto (-53), 3) := by decide +kernel
theorem dX0_filledNow_60 : decode cX0_filledNow 60 = .ok (.iload_n 1, 1) := by decide +kernel
theorem dX0_filledNow_61 : decode cX0_filledNow 61 = .ok (.ireturn, 1) := by decide +kernel
theorem dX0_servedNow_0 : decode cX0_servedNow 0 = .ok (.aload_n 0, 1) := by decide +kernel
theorem dX0_servedNow_1 : decode cX0_servedNow 1 = .ok (.aload_n 0, 1) := by decide +kernel
theorem dX0_servedNow_2 : decode cX0_servedNow 2 = .ok (.getfield 31, 3) := by decide +kernel
theorem dX0_servedNow_5 : decode cX0_servedNow 5 = .ok (.getfield 144, 3) := by decide +kernel
theorem dX0_servedNow_8 : decode cX0_servedNow 8 = .ok (.invokevirtual 147, 3) := by decide +kernel
theorem dX0_servedNow_11 : decode cX0_servedNow 11 = .ok (.aload_n 0, 1) := by decide +kernel
theorem dX0_servedNow_12 : decode cX0_servedNow 12 = .ok (.aload_n 0, 1) := by decide +kernel
theorem dX0_servedNow_13 : decode cX0_servedNow 13 = .ok (.getfield 31, 3) := by decide +kernel
theorem dX0_servedNow_16 : decode cX0_servedNow 16 = .ok (.getfield 119, 3) := by decide +kernel
theorem dX0_servedNow_19 : decode cX0_servedNow 19 = .ok (.invokevirtual 147, 3) := by decide +kernel
theorem dX0_servedNow_22 : decode cX0_servedNow 22 = .ok (.aload_n 0, 1) := by decide +kernel
theorem dX0_servedNow_23 : decode cX0_servedNow 23 = .ok (.aload_n 0, 1) := by decide +kernel
theorem dX0_servedNow_24 : decode cX0_servedNow 24 = .ok (.getfield 31, 3) := by decide +kernel
theorem dX0_servedNow_27 : decode cX0_servedNow 27 = .ok (.getfield 144, 3) := by decide +kernel
theorem dX0_servedNow_30 : decode cX0_servedNow 30 = .ok (.aload_n 0, 1) := by decide +kernel
theorem dX0_servedNow_31 : decode cX0_servedNow 31 = .ok (.getfield 31, 3) := by decide +kernel
theorem dX0_servedNow_34 : decode cX0_servedNow 34 = .ok (.getfield 119, 3) := by decide +kernel
theorem dX0_servedNow_37 : decode cX0_servedNow 37 = .ok (.invokevirtual 151, 3) := by decide +kernel
theorem dX0_servedNow_40 : decode cX0_servedNow 40 = .ok (.ireturn, 1) := by decide +kernel
theorem dX0_reachFrom_0 : decode cX0_reachFrom 0 = .ok (.iconst 0, 1) := by decide +kernel
theorem dX0_reachFrom_1 : decode cX0_reachFrom 1 = .ok (.istore_n 2, 1) := by decide +kernel
theorem dX0_reachFrom_2 : decode cX0_reachFrom 2 = .ok (.iload_n 2, 1) := by decide +kernel
theorem dX0_reachFrom_3 : decode cX0_reachFrom 3 = .ok (.aload_n 0, 1) := by decide +kernel
theorem dX0_reachFrom_4 : decode cX0_reachFrom 4 = .ok (.getfield 31, 3) := by decide +kernel
theorem dX0_reachFrom_7 : decode cX0_reachFrom 7 = .ok (.getfield 122, 3) := by decide +kernel
theorem dX0_reachFrom_10 : decode cX0_reachFrom 10 = .ok (.if_icmp .ge 58, 3) := by decide +kernel
theorem dX0_reachFrom_13 : decode cX0_reachFrom 13 = .ok (.aload_n 0, 1) := by decide +kernel
theorem dX0_reachFrom_14 : decode cX0_reachFrom 14 = .ok (.getfield 31, 3) := by decide +kernel
theorem dX0_reachFrom_17 : decode cX0_reachFrom 17 = .ok (.iload_n 2, 1) := by decide +kernel
theorem dX0_reachFrom_18 : decode cX0_reachFrom 18 = .ok (.invokevirtual 125, 3) := by decide +kernel
theorem dX0_reachFrom_21 : decode cX0_reachFrom 21 = .ok (.astore_n 3, 1) := by decide +kernel
theorem dX0_reachFrom_22 : decode cX0_reachFrom 22 = .ok (.aload_n 3, 1) := by decide +kernel
theorem dX0_reachFrom_23 : decode cX0_reachFrom 23 = .ok (.ifnull 39, 3) := by decide +kernel
theorem dX0_reachFrom_26 : decode cX0_reachFrom 26 = .ok (.iload_n 1, 1) := by decide +kernel
theorem dX0_reachFrom_27 : decode cX0_reachFrom 27 = .ok (.invokestatic 68, 3) := by decide +kernel
theorem dX0_reachFrom_30 : decode cX0_reachFrom 30 = .ok (.ifCond .eq 32, 3) := by decide +kernel
theorem dX0_reachFrom_33 : decode cX0_reachFrom 33 = .ok (.iload_n 2, 1) := by decide +kernel
theorem dX0_reachFrom_34 : decode cX0_reachFrom 34 = .ok (.bipush 6, 2) := by decide +kernel
theorem dX0_reachFrom_36 : decode cX0_reachFrom 36 = .ok (.if_icmp .ge 26, 3) := by decide +kernel
theorem dX0_reachFrom_39 : decode cX0_reachFrom 39 = .ok (.aload_n 0, 1) := by decide +kernel
theorem dX0_reachFrom_40 : decode cX0_reachFrom 40 = .ok (.getfield 24, 3) := by decide +kernel
theorem dX0_reachFrom_43 : decode cX0_reachFrom 43 = .ok (.iload_n 2, 1) := by decide +kernel
theorem dX0_reachFrom_44 : decode cX0_reachFrom 44 = .ok (.bipush 80, 2) := by decide +kernel
theorem dX0_reachFrom_46 : decode cX0_reachFrom 46 = .ok (.imul, 1) := by decide +kernel
theorem dX0_reachFrom_47 : decode cX0_reachFrom 47 = .ok (.iload_n 1, 1) := by decide +kernel
theorem dX0_reachFrom_48 : decode cX0_reachFrom 48 = .ok (.iadd, 1) := by decide +kernel
theorem dX0_reachFrom_49 : decode cX0_reachFrom 49 = .ok (.aload_n 0, 1) := by decide +kernel
theorem dX0_reachFrom_50 : decode cX0_reachFrom 50 = .ok (.iload_n 1, 1) := by decide +kernel
theorem dX0_reachFrom_51 : decode cX0_reachFrom 51 = .ok (.aload_n 3, 1) := by decide +kernel
theorem dX0_reachFrom_52 : decode cX0_reachFrom 52 = .ok (.getfield 134, 3) := by decide +kernel
theorem dX0_reachFrom_55 : decode cX0_reachFrom 55 = .ok (.invokevirtual 110, 3) := by decide +kernel
theorem dX0_reachFrom_58 : decode cX0_reachFrom 58 = .ok (.invokestatic 113, 3) := by decide +kernel
theorem dX0_reachFrom_61 : decode cX0_reachFrom 61 = .ok (.iastore, 1) := by decide +kernel
theorem dX0_reachFrom_62 : decode cX0_reachFrom 62 = .ok (.iinc 2 1, 3) := by decide +kernel
theorem dX0_reachFrom_65 : decode cX0_reachFrom 65 = .ok (.goto (-63), 3) := by decide +kernel
theorem dX0_reachFrom_68 : decode cX0_reachFrom 68 = .ok (.return_, 1) := by decide +kernel
theorem dX0_servedBy_0 : decode cX0_servedBy 0 = .ok (.aload_n 0, 1) := by decide +kernel
theorem dX0_servedBy_1 : decode cX0_servedBy 1 = .ok (.iload_n 1, 1) := by decide +kernel
theorem dX0_servedBy_2 : decode cX0_servedBy 2 = .ok (.iload_n 2, 1) := by decide +kernel
theorem dX0_servedBy_3 : decode cX0_servedBy 3 = .ok (.invokevirtual 110, 3) := by decide +kernel
theorem dX0_servedBy_6 : decode cX0_servedBy 6 = .ok (.invokestatic 113, 3) := by decide +kernel
theorem dX0_servedBy_9 : decode cX0_servedBy 9 = .ok (.istore_n 3, 1) := by decide +kernel
theorem dX0_servedBy_10 : decode cX0_servedBy 10 = .ok (.iconst 0, 1) := by decide +kernel
theorem dX0_servedBy_11 : decode cX0_servedBy 11 = .ok (.istore 4, 2) := by decide +kernel
theorem dX0_servedBy_13 : decode cX0_servedBy 13 = .ok (.iconst 0, 1) := by decide +kernel
theorem dX0_servedBy_14 : decode cX0_servedBy 14 = .ok (.istore 5, 2) := by decide +kernel
theorem dX0_servedBy_16 : decode cX0_servedBy 16 = .ok (.iload 5, 2) := by decide +kernel
theorem dX0_servedBy_18 : decode cX0_servedBy 18 = .ok (.aload_n 0, 1) := by decide +kernel
theorem dX0_servedBy_19 : decode cX0_servedBy 19 = .ok (.getfield 31, 3) := by decide +kernel
theorem dX0_servedBy_22 : decode cX0_servedBy 22 = .ok (.getfield 122, 3) := by decide +kernel
theorem dX0_servedBy_25 : decode cX0_servedBy 25 = .ok (.if_icmp .ge 74, 3) := by decide +kernel
theorem dX0_servedBy_28 : decode cX0_servedBy 28 = .ok (.aload_n 0, 1) := by decide +kernel
theorem dX0_servedBy_29 : decode cX0_servedBy 29 = .ok (.getfield 31, 3) := by decide +kernel
theorem dX0_servedBy_32 : decode cX0_servedBy 32 = .ok (.iload 5, 2) := by decide +kernel
theorem dX0_servedBy_34 : decode cX0_servedBy 34 = .ok (.invokevirtual 125, 3) := by decide +kernel
theorem dX0_servedBy_37 : decode cX0_servedBy 37 = .ok (.astore 6, 2) := by decide +kernel
theorem dX0_servedBy_39 : decode cX0_servedBy 39 = .ok (.aload 6, 2) := by decide +kernel
theorem dX0_servedBy_41 : decode cX0_servedBy 41 = .ok (.ifnull 52, 3) := by decide +kernel
theorem dX0_servedBy_44 : decode cX0_servedBy 44 = .ok (.aload_n 0, 1) := by decide +kernel
theorem dX0_servedBy_45 : decode cX0_servedBy 45 = .ok (.iload 5, 2) := by decide +kernel
theorem dX0_servedBy_47 : decode cX0_servedBy 47 = .ok (.iload_n 1, 1) := by decide +kernel
theorem dX0_servedBy_48 : decode cX0_servedBy 48 = .ok (.invokevirtual 154, 3) := by decide +kernel
theorem dX0_servedBy_51 : decode cX0_servedBy 51 = .ok (.aload_n 0, 1) := by decide +kernel
theorem dX0_servedBy_52 : decode cX0_servedBy 52 = .ok (.iload 5, 2) := by decide +kernel
theorem dX0_servedBy_54 : decode cX0_servedBy 54 = .ok (.iload_n 2, 1) := by decide +kernel
theorem dX0_servedBy_55 : decode cX0_servedBy 55 = .ok (.invokevirtual 154, 3) := by decide +kernel
theorem dX0_servedBy_58 : decode cX0_servedBy 58 = .ok (.iconst 2, 1) := by decide +kernel
theorem dX0_servedBy_59 : decode cX0_servedBy 59 = .ok (.idiv, 1) := by decide +kernel
theorem dX0_servedBy_60 : decode cX0_servedBy 60 = .ok (.iload_n 3, 1) := by decide +kernel
theorem dX0_servedBy_61 : decode cX0_servedBy 61 = .ok (.invokestatic 90, 3) := by decide +kernel
theorem dX0_servedBy_64 : decode cX0_servedBy 64 = .ok (.invokestatic 104, 3) := by decide +kernel
theorem dX0_servedBy_67 : decode cX0_servedBy 67 = .ok (.istore 7, 2) := by decide +kernel
theorem dX0_servedBy_69 : decode cX0_servedBy 69 = .ok (.iload 4, 2) := by decide +kernel
theorem dX0_servedBy_71 : decode cX0_servedBy 71 = .ok (.iload 7, 2) := by decide +kernel
theorem dX0_servedBy_73 : decode cX0_servedBy 73 = .ok (.aload 6, 2) := by decide +kernel
theorem dX0_servedBy_75 : decode cX0_servedBy 75 = .ok (.getfield 138, 3) := by decide +kernel
theorem dX0_servedBy_78 : decode cX0_servedBy 78 = .ok (.if_icmp .lt 11, 3) := by decide +kernel
theorem dX0_servedBy_81 : decode cX0_servedBy 81 = .ok (.aload 6, 2) := by decide +kernel
theorem dX0_servedBy_83 : decode cX0_servedBy 83 = .ok (.getfield 141, 3) := by decide +kernel
theorem dX0_servedBy_86 : decode cX0_servedBy 86 = .ok (.goto 4, 3) := by decide +kernel
theorem dX0_servedBy_89 : decode cX0_servedBy 89 = .ok (.iconst 0, 1) := by decide +kernel
theorem dX0_servedBy_90 : decode cX0_servedBy 90 = .ok (.iadd, 1) := by decide +kernel
theorem dX0_servedBy_91 : decode cX0_servedBy 91 = .ok (.istore 4, 2) := by decide +kernel
theorem dX0_servedBy_93 : decode cX0_servedBy 93 = .ok (.iinc 5 1, 3) := by decide +kernel
theorem dX0_servedBy_96 : decode cX0_servedBy 96 = .ok (.goto (-80), 3) := by decide +kernel
theorem dX0_servedBy_99 : decode cX0_servedBy 99 = .ok (.iload 4, 2) := by decide +kernel
theorem dX0_servedBy_101 : decode cX0_servedBy 101 = .ok (.ireturn, 1) := by decide +kernel
theorem dX0_reachOf_0 : decode cX0_reachOf 0 = .ok (.iload_n 1, 1) := by decide +kernel
theorem dX0_reachOf_1 : decode cX0_reachOf 1 = .ok (.ifCond .lt 30, 3) := by decide +kernel
theorem dX0_reachOf_4 : decode cX0_reachOf 4 = .ok (.iload_n 1, 1) := by decide +kernel
theorem dX0_reachOf_5 : decode cX0_reachOf 5 = .ok (.bipush 6, 2) := by decide +kernel
theorem dX0_reachOf_7 : decode cX0_reachOf 7 = .ok (.if_icmp .ge 24, 3) := by decide +kernel
theorem dX0_reachOf_10 : decode cX0_reachOf 10 = .ok (.iload_n 2, 1) := by decide +kernel
theorem dX0_reachOf_11 : decode cX0_reachOf 11 = .ok (.invokestatic 68, 3) := by decide +kernel
theorem dX0_reachOf_14 : decode cX0_reachOf 14 = .ok (.ifCond .eq 17, 3) := by decide +kernel
theorem dX0_reachOf_17 : decode cX0_reachOf 17 = .ok (.aload_n 0, 1) := by decide +kernel
theorem dX0_reachOf_18 : decode cX0_reachOf 18 = .ok (.getfield 24, 3) := by decide +kernel
theorem dX0_reachOf_21 : decode cX0_reachOf 21 = .ok (.iload_n 1, 1) := by decide +kernel
theorem dX0_reachOf_22 : decode cX0_reachOf 22 = .ok (.bipush 80, 2) := by decide +kernel
theorem dX0_reachOf_24 : decode cX0_reachOf 24 = .ok (.imul, 1) := by decide +kernel
theorem dX0_reachOf_25 : decode cX0_reachOf 25 = .ok (.iload_n 2, 1) := by decide +kernel
theorem dX0_reachOf_26 : decode cX0_reachOf 26 = .ok (.iadd, 1) := by decide +kernel
theorem dX0_reachOf_27 : decode cX0_reachOf 27 = .ok (.iaload, 1) := by decide +kernel
theorem dX0_reachOf_28 : decode cX0_reachOf 28 = .ok (.goto 4, 3) := by decide +kernel
theorem dX0_reachOf_31 : decode cX0_reachOf 31 = .ok (.iconst 0, 1) := by decide +kernel
theorem dX0_reachOf_32 : decode cX0_reachOf 32 = .ok (.ireturn, 1) := by decide +kernel
theorem dX1_init_0 : decode cX1_init 0 = .ok (.aload_n 0, 1) := by decide +kernel
theorem dX1_init_1 : decode cX1_init 1 = .ok (.invokespecial 1, 3) := by decide +kernel
theorem dX1_init_4 : decode cX1_init 4 = .ok (.aload_n 0, 1) := by decide +kernel
theorem dX1_init_5 : decode cX1_init 5 = .ok (.iconst 0, 1) := by decide +kernel
theorem dX1_init_6 : decode cX1_init 6 = .ok (.putfield 7, 3) := by decide +kernel
theorem dX1_init_9 : decode cX1_init 9 = .ok (.aload_n 0, 1) := by decide +kernel
theorem dX1_init_10 : decode cX1_init 10 = .ok (.iconst 1, 1) := by decide +kernel
theorem dX1_init_11 : decode cX1_init 11 = .ok (.putfield 13, 3) := by decide +kernel
theorem dX1_init_14 : decode cX1_init 14 = .ok (.aload_n 0, 1) := by decide +kernel
theorem dX1_init_15 : decode cX1_init 15 = .ok (.iconst 1, 1) := by decide +kernel
theorem dX1_init_16 : decode cX1_init 16 = .ok (.putfield 16, 3) := by decide +kernel
theorem dX1_init_19 : decode cX1_init 19 = .ok (.aload_n 0, 1) := by decide +kernel
theorem dX1_init_20 : decode cX1_init 20 = .ok (.iconst 0, 1) := by decide +kernel
theorem dX1_init_21 : decode cX1_init 21 = .ok (.putfield 19, 3) := by decide +kernel
theorem dX1_init_24 : decode cX1_init 24 = .ok (.return_, 1) := by decide +kernel
theorem dX1_become_0 : decode cX1_become 0 = .ok (.aload_n 1, 1) := by decide +kernel
theorem dX1_become_1 : decode cX1_become 1 = .ok (.ifnonnull 4, 3) := by decide +kernel
theorem dX1_become_4 : decode cX1_become 4 = .ok (.return_, 1) := by decide +kernel
theorem dX1_become_5 : decode cX1_become 5 = .ok (.aload_n 0, 1) := by decide +kernel
theorem dX1_become_6 : decode cX1_become 6 = .ok (.aload_n 1, 1) := by decide +kernel
theorem dX1_become_7 : decode cX1_become 7 = .ok (.getfield 7, 3) := by decide +kernel
theorem dX1_become_10 : decode cX1_become 10 = .ok (.putfield 7, 3) := by decide +kernel
theorem dX1_become_13 : decode cX1_become 13 = .ok (.aload_n 0, 1) := by decide +kernel
theorem dX1_become_14 : decode cX1_become 14 = .ok (.aload_n 1, 1) := by decide +kernel
theorem dX1_become_15 : decode cX1_become 15 = .ok (.getfield 13, 3) := by decide +kernel
theorem dX1_become_18 : decode cX1_become 18 = .ok (.putfield 13, 3) := by decide +kernel
theorem dX1_become_21 : decode cX1_become 21 = .ok (.aload_n 0, 1) := by decide +kernel
theorem dX1_become_22 : decode cX1_become 22 = .ok (.aload_n 1, 1) := by decide +kernel
theorem dX1_become_23 : decode cX1_become 23 = .ok (.getfield 16, 3) := by decide +kernel
theorem dX1_become_26 : decode cX1_become 26 = .ok (.putfield 16, 3) := by decide +kernel
theorem dX1_become_29 : decode cX1_become 29 = .ok (.aload_n 0, 1) := by decide +kernel
theorem dX1_become_30 : decode cX1_become 30 = .ok (.aload_n 1, 1) := by decide +kernel
theorem dX1_become_31 : decode cX1_become 31 = .ok (.getfield 19, 3) := by decide +kernel
theorem dX1_become_34 : decode cX1_become 34 = .ok (.putfield 19, 3) := by decide +kernel
theorem dX1_become_37 : decode cX1_become 37 = .ok (.return_, 1) := by decide +kernel
theorem dX2_init_0 : decode cX2_init 0 = .ok (.aload_n 0, 1) := by decide +kernel
theorem dX2_init_1 : decode cX2_init 1 = .ok (.invokespecial 3, 3) := by decide +kernel
theorem dX2_init_4 : decode cX2_init 4 = .ok (.aload_n 0, 1) := by decide +kernel
theorem dX2_init_5 : decode cX2_init 5 = .ok (.iconst 4, 1) := by decide +kernel
theorem dX2_init_6 : decode cX2_init 6 = .ok (.putfield 9, 3) := by decide +kernel
theorem dX2_init_9 : decode cX2_init 9 = .ok (.aload_n 0, 1) := by decide +kernel
theorem dX2_init_10 : decode cX2_init 10 = .ok (.bipush 50, 2) := by decide +kernel
theorem dX2_init_12 : decode cX2_init 12 = .ok (.putfield 15, 3) := by decide +kernel
theorem dX2_init_15 : decode cX2_init 15 = .ok (.aload_n 0, 1) := by decide +kernel
theorem dX2_init_16 : decode cX2_init 16 = .ok (.bipush 6, 2) := by decide +kernel
theorem dX2_init_18 : decode cX2_init 18 = .ok (.putfield 18, 3) := by decide +kernel
theorem dX2_init_21 : decode cX2_init 21 = .ok (.aload_n 0, 1) := by decide +kernel
theorem dX2_init_22 : decode cX2_init 22 = .ok (.iconst 0, 1) := by decide +kernel
theorem dX2_init_23 : decode cX2_init 23 = .ok (.putfield 21, 3) := by decide +kernel
theorem dX2_init_26 : decode cX2_init 26 = .ok (.aload_n 0, 1) := by decide +kernel
theorem dX2_init_27 : decode cX2_init 27 = .ok (.iconst 1, 1) := by decide +kernel
theorem dX2_init_28 : decode cX2_init 28 = .ok (.putfield 24, 3) := by decide +kernel
theorem dX2_init_31 : decode cX2_init 31 = .ok (.aload_n 0, 1) := by decide +kernel
theorem dX2_init_32 : decode cX2_init 32 = .ok (.iconst 0, 1) := by decide +kernel
theorem dX2_init_33 : decode cX2_init 33 = .ok (.putfield 27, 3) := by decide +kernel
theorem dX2_init_36 : decode cX2_init 36 = .ok (.aload_n 0, 1) := by decide +kernel
theorem dX2_init_37 : decode cX2_init 37 = .ok (.iconst (-1), 1) := by decide +kernel
theorem dX2_init_38 : decode cX2_init 38 = .ok (.putfield 30, 3) := by decide +kernel
theorem dX2_init_41 : decode cX2_init 41 = .ok (.aload_n 0, 1) := by decide +kernel
theorem dX2_init_42 : decode cX2_init 42 = .ok (.iconst 0, 1) := by decide +kernel
theorem dX2_init_43 : decode cX2_init 43 = .ok (.putfield 33, 3) := by decide +kernel
theorem dX2_init_46 : decode cX2_init 46 = .ok (.aload_n 0, 1) := by decide +kernel
theorem dX2_init_47 : decode cX2_init 47 = .ok (.iconst 0, 1) := by decide +kernel
theorem dX2_init_48 : decode cX2_init 48 = .ok (.putfield 36, 3) := by decide +kernel
theorem dX2_init_51 : decode cX2_init 51 = .ok (.aload_n 0, 1) := by decide +kernel
theorem dX2_init_52 : decode cX2_init 52 = .ok (.iconst 0, 1) := by decide +kernel
theorem dX2_init_53 : decode cX2_init 53 = .ok (.putfield 39, 3) := by decide +kernel
theorem dX2_init_56 : decode cX2_init 56 = .ok (.aload_n 0, 1) := by decide +kernel
theorem dX2_init_57 : decode cX2_init 57 = .ok (.bipush 16, 2) := by decide +kernel
theorem dX2_init_59 : decode cX2_init 59 = .ok (.anewarray 42, 3) := by decide +kernel
theorem dX2_init_62 : decode cX2_init 62 = .ok (.putfield 44, 3) := by decide +kernel
theorem dX2_init_65 : decode cX2_init 65 = .ok (.aload_n 0, 1) := by decide +kernel
theorem dX2_init_66 : decode cX2_init 66 = .ok (.bipush 6, 2) := by decide +kernel
theorem dX2_init_68 : decode cX2_init 68 = .ok (.anewarray 48, 3) := by decide +kernel
theorem dX2_init_71 : decode cX2_init 71 = .ok (.putfield 50, 3) := by decide +kernel
theorem dX2_init_74 : decode cX2_init 74 = .ok (.aload_n 0, 1) := by decide +kernel
theorem dX2_init_75 : decode cX2_init 75 = .ok (.bipush 8, 2) := by decide +kernel
theorem dX2_init_77 : decode cX2_init 77 = .ok (.newarray .int, 2) := by decide +kernel
theorem dX2_init_79 : decode cX2_init 79 = .ok (.putfield 54, 3) := by decide +kernel
theorem dX2_init_82 : decode cX2_init 82 = .ok (.aload_n 0, 1) := by decide +kernel
theorem dX2_init_83 : decode cX2_init 83 = .ok (.bipush 8, 2) := by decide +kernel
theorem dX2_init_85 : decode cX2_init 85 = .ok (.newarray .int, 2) := by decide +kernel
theorem dX2_init_87 : decode cX2_init 87 = .ok (.putfield 58, 3) := by decide +kernel
theorem dX2_init_90 : decode cX2_init 90 = .ok (.iconst 0, 1) := by decide +kernel
theorem dX2_init_91 : decode cX2_init 91 = .ok (.istore_n 1, 1) := by decide +kernel
theorem dX2_init_92 : decode cX2_init 92 = .ok (.iload_n 1, 1) := by decide +kernel
theorem dX2_init_93 : decode cX2_init 93 = .ok (.aload_n 0, 1) := by decide +kernel
theorem dX2_init_94 : decode cX2_init 94 = .ok (.getfield 44, 3) := by decide +kernel
theorem dX2_init_97 : decode cX2_init 97 = .ok (.arraylength, 1) := by decide +kernel
theorem dX2_init_98 : decode cX2_init 98 = .ok (.if_icmp .ge 22, 3) := by decide +kernel
theorem dX2_init_101 : decode cX2_init 101 = .ok (.aload_n 0, 1) := by decide +kernel
theorem dX2_init_102 : decode cX2_init 102 = .ok (.getfield 44, 3) := by decide +kernel
theorem dX2_init_105 : decode cX2_init 105 = .ok (.iload_n 1, 1) := by decide +kernel
theorem dX2_init_106 : decode cX2_init 106 = .ok (.new 42, 3) := by decide +kernel
theorem dX2_init_109 : decode cX2_init 109 = .ok (.dup, 1) := by decide +kernel
theorem dX2_init_110 : decode cX2_init 110 = .ok (.invokespecial 61, 3) := by decide +kernel
theorem dX2_init_113 : decode cX2_init 113 = .ok (.aastore, 1) := by decide +kernel
theorem dX2_init_114 : decode cX2_init 114 = .ok (.iinc 1 1, 3) := by decide +kernel
theorem dX2_init_117 : decode cX2_init 117 = .ok (.goto (-25), 3) := by decide +kernel
theorem dX2_init_120 : decode cX2_init 120 = .ok (.iconst 0, 1) := by decide +kernel
theorem dX2_init_121 : decode cX2_init 121 = .ok (.istore_n 1, 1) := by decide +kernel
theorem dX2_init_122 : decode cX2_init 122 = .ok (.iload_n 1, 1) := by decide +kernel
theorem dX2_init_123 : decode cX2_init 123 = .ok (.aload_n 0, 1) := by decide +kernel
theorem dX2_init_124 : decode cX2_init 124 = .ok (.getfield 50, 3) := by decide +kernel
theorem dX2_init_127 : decode cX2_init 127 = .ok (.arraylength, 1) := by decide +kernel
theorem dX2_init_128 : decode cX2_init 128 = .ok (.if_icmp .ge 22, 3) := by decide +kernel
theorem dX2_init_131 : decode cX2_init 131 = .ok (.aload_n 0, 1) := by decide +kernel
theorem dX2_init_132 : decode cX2_init 132 = .ok (.getfield 50, 3) := by decide +kernel
theorem dX2_init_135 : decode cX2_init 135 = .ok (.iload_n 1, 1) := by decide +kernel
theorem dX2_init_136 : decode cX2_init 136 = .ok (.new 48, 3) := by decide +kernel
theorem dX2_init_139 : decode cX2_init 139 = .ok (.dup, 1) := by decide +kernel
theorem dX2_init_140 : decode cX2_init 140 = .ok (.invokespecial 62, 3) := by decide +kernel
theorem dX2_init_143 : decode cX2_init 143 = .ok (.aastore, 1) := by decide +kernel
theorem dX2_init_144 : decode cX2_init 144 = .ok (.iinc 1 1, 3) := by decide +kernel
theorem dX2_init_147 : decode cX2_init 147 = .ok (.goto (-25), 3) := by decide +kernel
theorem dX2_init_150 : decode cX2_init 150 = .ok (.return_, 1) := by decide +kernel
theorem dX2_become_0 : decode cX2_become 0 = .ok (.aload_n 1, 1) := by decide +kernel
theorem dX2_become_1 : decode cX2_become 1 = .ok (.ifnonnull 4, 3) := by decide +kernel
theorem dX2_become_4 : decode cX2_become 4 = .ok (.return_, 1) := by decide +kernel
theorem dX2_become_5 : decode cX2_become 5 = .ok (.aload_n 0, 1) := by decide +kernel
theorem dX2_become_6 : decode cX2_become 6 = .ok (.aload_n 1, 1) := by decide +kernel
theorem dX2_become_7 : decode cX2_become 7 = .ok (.getfield 9, 3) := by decide +kernel
theorem dX2_become_10 : decode cX2_become 10 = .ok (.putfield 9, 3) := by decide +kernel
theorem dX2_become_13 : decode cX2_become 13 = .ok (.aload_n 0, 1) := by decide +kernel
theorem dX2_become_14 : decode cX2_become 14 = .ok (.aload_n 1, 1) := by decide +kernel
theorem dX2_become_15 : decode cX2_become 15 = .ok (.getfield 15, 3) := by decide +kernel
theorem dX2_become_18 : decode cX2_become 18 = .ok (.putfield 15, 3) := by decide +kernel
theorem dX2_become_21 : decode cX2_become 21 = .ok (.aload_n 0, 1) := by decide +kernel
theorem dX2_become_22 : decode cX2_become 22 = .ok (.aload_n 1, 1) := by decide +kernel
theorem dX2_become_23 : decode cX2_become 23 = .ok (.getfield 18, 3) := by decide +kernel
theorem dX2_become_26 : decode cX2_become 26 = .ok (.putfield 18, 3) := by decide +kernel
theorem dX2_become_29 : decode cX2_become 29 = .ok (.aload_n 0, 1) := by decide +kernel
theorem dX2_become_30 : decode cX2_become 30 = .ok (.aload_n 1, 1) := by decide +kernel
theorem dX2_become_31 : decode cX2_become 31 = .ok (.getfield 21, 3) := by decide +kernel
theorem dX2_become_34 : decode cX2_become 34 = .ok (.putfield 21, 3) := by decide +kernel
theorem dX2_become_37 : decode cX2_become 37 = .ok (.aload_n 0, 1) := by decide +kernel
theorem dX2_become_38 : decode cX2_become 38 = .ok (.aload_n 1, 1) := by decide +kernel
theorem dX2_become_39 : decode cX2_become 39 = .ok (.getfield 24, 3) := by decide +kernel
theorem dX2_become_42 : decode cX2_become 42 = .ok (.putfield 24, 3) := by decide +kernel
theorem dX2_become_45 : decode cX2_become 45 = .ok (.aload_n 0, 1) := by decide +kernel
theorem dX2_become_46 : decode cX2_become 46 = .ok (.aload_n 1, 1) := by decide +kernel
theorem dX2_become_47 : decode cX2_become 47 = .ok (.getfield 27, 3) := by decide +kernel
theorem dX2_become_50 : decode cX2_become 50 = .ok (.putfield 27, 3) := by decide +kernel
theorem dX2_become_53 : decode cX2_become 53 = .ok (.aload_n 0, 1) := by decide +kernel
theorem dX2_become_54 : decode cX2_become 54 = .ok (.aload_n 1, 1) := by decide +kernel
theorem dX2_become_55 : decode cX2_become 55 = .ok (.getfield 30, 3) := by decide +kernel
theorem dX2_become_58 : decode cX2_become 58 = .ok (.putfield 30, 3) := by decide +kernel
theorem dX2_become_61 : decode cX2_become 61 = .ok (.aload_n 0, 1) := by decide +kernel
theorem dX2_become_62 : decode cX2_become 62 = .ok (.aload_n 1, 1) := by decide +kernel
theorem dX2_become_63 : decode cX2_become 63 = .ok (.getfield 33, 3) := by decide +kernel
theorem dX2_become_66 : decode cX2_become 66 = .ok (.putfield 33, 3) := by decide +kernel
theorem dX2_become_69 : decode cX2_become 69 = .ok (.aload_n 0, 1) := by decide +kernel
theorem dX2_become_70 : decode cX2_become 70 = .ok (.aload_n 1, 1) := by decide +kernel
theorem dX2_become_71 : decode cX2_become 71 = .ok (.getfield 36, 3) := by decide +kernel
theorem dX2_become_74 : decode cX2_become 74 = .ok (.putfield 36, 3) := by decide +kernel
theorem dX2_become_77 : decode cX2_become 77 = .ok (.aload_n 0, 1) := by decide +kernel
theorem dX2_become_78 : decode cX2_become 78 = .ok (.aload_n 1, 1) := by decide +kernel
theorem dX2_become_79 : decode cX2_become 79 = .ok (.getfield 39, 3) := by decide +kernel
theorem dX2_become_82 : decode cX2_become 82 = .ok (.putfield 39, 3) := by decide +kernel
theorem dX2_become_85 : decode cX2_become 85 = .ok (.iconst 0, 1) := by decide +kernel
theorem dX2_become_86 : decode cX2_become 86 = .ok (.istore_n 2, 1) := by decide +kernel
theorem dX2_become_87 : decode cX2_become 87 = .ok (.iload_n 2, 1) := by decide +kernel
theorem dX2_become_88 : decode cX2_become 88 = .ok (.aload_n 0, 1) := by decide +kernel
theorem dX2_become_89 : decode cX2_become 89 = .ok (.getfield 33, 3) := by decide +kernel
theorem dX2_become_92 : decode cX2_become 92 = .ok (.if_icmp .ge 28, 3) := by decide +kernel
theorem dX2_become_95 : decode cX2_become 95 = .ok (.aload_n 0, 1) := by decide +kernel
theorem dX2_become_96 : decode cX2_become 96 = .ok (.iload_n 2, 1) := by decide +kernel
theorem dX2_become_97 : decode cX2_become 97 = .ok (.invokevirtual 63, 3) := by decide +kernel
theorem dX2_become_100 : decode cX2_become 100 = .ok (.astore_n 3, 1) := by decide +kernel
theorem dX2_become_101 : decode cX2_become 101 = .ok (.aload_n 3, 1) := by decide +kernel
theorem dX2_become_102 : decode cX2_become 102 = .ok (.ifnull 12, 3) := by decide +kernel
theorem dX2_become_105 : decode cX2_become 105 = .ok (.aload_n 3, 1) := by decide +kernel
theorem dX2_become_106 : decode cX2_become 106 = .ok (.aload_n 1, 1) := by decide +kernel
theorem dX2_become_107 : decode cX2_become 107 = .ok (.iload_n 2, 1) := by decide +kernel
theorem dX2_become_108 : decode cX2_become 108 = .ok (.invokevirtual 63, 3) := by decide +kernel
theorem dX2_become_111 : decode cX2_become 111 = .ok (.invokevirtual 67, 3) := by decide +kernel
theorem dX2_become_114 : decode cX2_become 114 = .ok (.iinc 2 1, 3) := by decide +kernel
theorem dX2_become_117 : decode cX2_become 117 = .ok (.goto (-30), 3) := by decide +kernel
theorem dX2_become_120 : decode cX2_become 120 = .ok (.iconst 0, 1) := by decide +kernel
theorem dX2_become_121 : decode cX2_become 121 = .ok (.istore_n 2, 1) := by decide +kernel
theorem dX2_become_122 : decode cX2_become 122 = .ok (.iload_n 2, 1) := by decide +kernel
theorem dX2_become_123 : decode cX2_become 123 = .ok (.aload_n 0, 1) := by decide +kernel
theorem dX2_become_124 : decode cX2_become 124 = .ok (.getfield 39, 3) := by decide +kernel
theorem dX2_become_127 : decode cX2_become 127 = .ok (.if_icmp .ge 28, 3) := by decide +kernel
theorem dX2_become_130 : decode cX2_become 130 = .ok (.aload_n 0, 1) := by decide +kernel
theorem dX2_become_131 : decode cX2_become 131 = .ok (.iload_n 2, 1) := by decide +kernel
theorem dX2_become_132 : decode cX2_become 132 = .ok (.invokevirtual 71, 3) := by decide +kernel
theorem dX2_become_135 : decode cX2_become 135 = .ok (.astore_n 3, 1) := by decide +kernel
theorem dX2_become_136 : decode cX2_become 136 = .ok (.aload_n 3, 1) := by decide +kernel
theorem dX2_become_137 : decode cX2_become 137 = .ok (.ifnull 12, 3) := by decide +kernel
theorem dX2_become_140 : decode cX2_become 140 = .ok (.aload_n 3, 1) := by decide +kernel
theorem dX2_become_141 : decode cX2_become 141 = .ok (.aload_n 1, 1) := by decide +kernel
theorem dX2_become_142 : decode cX2_become 142 = .ok (.iload_n 2, 1) := by decide +kernel
theorem dX2_become_143 : decode cX2_become 143 = .ok (.invokevirtual 71, 3) := by decide +kernel
theorem dX2_become_146 : decode cX2_become 146 = .ok (.invokevirtual 75, 3) := by decide +kernel
theorem dX2_become_149 : decode cX2_become 149 = .ok (.iinc 2 1, 3) := by decide +kernel
theorem dX2_become_152 : decode cX2_become 152 = .ok (.goto (-30), 3) := by decide +kernel
theorem dX2_become_155 : decode cX2_become 155 = .ok (.iconst 0, 1) := by decide +kernel
theorem dX2_become_156 : decode cX2_become 156 = .ok (.istore_n 2, 1) := by decide +kernel
theorem dX2_become_157 : decode cX2_become 157 = .ok (.iload_n 2, 1) := by decide +kernel
theorem dX2_become_158 : decode cX2_become 158 = .ok (.bipush 8, 2) := by decide +kernel
theorem dX2_become_160 : decode cX2_become 160 = .ok (.if_icmp .ge 31, 3) := by decide +kernel
theorem dX2_become_163 : decode cX2_become 163 = .ok (.aload_n 0, 1) := by decide +kernel
theorem dX2_become_164 : decode cX2_become 164 = .ok (.getfield 54, 3) := by decide +kernel
theorem dX2_become_167 : decode cX2_become 167 = .ok (.iload_n 2, 1) := by decide +kernel
theorem dX2_become_168 : decode cX2_become 168 = .ok (.aload_n 1, 1) := by decide +kernel
theorem dX2_become_169 : decode cX2_become 169 = .ok (.iload_n 2, 1) := by decide +kernel
theorem dX2_become_170 : decode cX2_become 170 = .ok (.invokevirtual 78, 3) := by decide +kernel
theorem dX2_become_173 : decode cX2_become 173 = .ok (.iastore, 1) := by decide +kernel
theorem dX2_become_174 : decode cX2_become 174 = .ok (.aload_n 0, 1) := by decide +kernel
theorem dX2_become_175 : decode cX2_become 175 = .ok (.getfield 58, 3) := by decide +kernel
theorem dX2_become_178 : decode cX2_become 178 = .ok (.iload_n 2, 1) := by decide +kernel
theorem dX2_become_179 : decode cX2_become 179 = .ok (.aload_n 1, 1) := by decide +kernel
theorem dX2_become_180 : decode cX2_become 180 = .ok (.iload_n 2, 1) := by decide +kernel
theorem dX2_become_181 : decode cX2_become 181 = .ok (.invokevirtual 82, 3) := by decide +kernel
theorem dX2_become_184 : decode cX2_become 184 = .ok (.iastore, 1) := by decide +kernel
theorem dX2_become_185 : decode cX2_become 185 = .ok (.iinc 2 1, 3) := by decide +kernel
theorem dX2_become_188 : decode cX2_become 188 = .ok (.goto (-31), 3) := by decide +kernel
theorem dX2_become_191 : decode cX2_become 191 = .ok (.return_, 1) := by decide +kernel
theorem dX2_isCell_0 : decode cX2_isCell 0 = .ok (.iload_n 1, 1) := by decide +kernel
theorem dX2_isCell_1 : decode cX2_isCell 1 = .ok (.ifCond .lt 29, 3) := by decide +kernel
theorem dX2_isCell_4 : decode cX2_isCell 4 = .ok (.iload_n 1, 1) := by decide +kernel
theorem dX2_isCell_5 : decode cX2_isCell 5 = .ok (.bipush 10, 2) := by decide +kernel
theorem dX2_isCell_7 : decode cX2_isCell 7 = .ok (.idiv, 1) := by decide +kernel
theorem dX2_isCell_8 : decode cX2_isCell 8 = .ok (.aload_n 0, 1) := by decide +kernel
theorem dX2_isCell_9 : decode cX2_isCell 9 = .ok (.getfield 9, 3) := by decide +kernel
theorem dX2_isCell_12 : decode cX2_isCell 12 = .ok (.if_icmp .ge 18, 3) := by decide +kernel
theorem dX2_isCell_15 : decode cX2_isCell 15 = .ok (.iload_n 1, 1) := by decide +kernel
theorem dX2_isCell_16 : decode cX2_isCell 16 = .ok (.bipush 10, 2) := by decide +kernel
theorem dX2_isCell_18 : decode cX2_isCell 18 = .ok (.irem, 1) := by decide +kernel
theorem dX2_isCell_19 : decode cX2_isCell 19 = .ok (.aload_n 0, 1) := by decide +kernel
theorem dX2_isCell_20 : decode cX2_isCell 20 = .ok (.getfield 9, 3) := by decide +kernel
theorem dX2_isCell_23 : decode cX2_isCell 23 = .ok (.if_icmp .ge 7, 3) := by decide +kernel
theorem dX2_isCell_26 : decode cX2_isCell 26 = .ok (.iconst 1, 1) := by decide +kernel
theorem dX2_isCell_27 : decode cX2_isCell 27 = .ok (.goto 4, 3) := by decide +kernel
theorem dX2_isCell_30 : decode cX2_isCell 30 = .ok (.iconst 0, 1) := by decide +kernel
theorem dX2_isCell_31 : decode cX2_isCell 31 = .ok (.ireturn, 1) := by decide +kernel
theorem dX2_may_0 : decode cX2_may 0 = .ok (.iload_n 1, 1) := by decide +kernel
theorem dX2_may_1 : decode cX2_may 1 = .ok (.iconst 3, 1) := by decide +kernel
theorem dX2_may_2 : decode cX2_may 2 = .ok (.if_icmp .ne 9, 3) := by decide +kernel
theorem dX2_may_5 : decode cX2_may 5 = .ok (.aload_n 0, 1) := by decide +kernel
theorem dX2_may_6 : decode cX2_may 6 = .ok (.iload_n 2, 1) := by decide +kernel
theorem dX2_may_7 : decode cX2_may 7 = .ok (.invokevirtual 85, 3) := by decide +kernel
theorem dX2_may_10 : decode cX2_may 10 = .ok (.ireturn, 1) := by decide +kernel
theorem dX2_may_11 : decode cX2_may 11 = .ok (.iload_n 1, 1) := by decide +kernel
theorem dX2_may_12 : decode cX2_may 12 = .ok (.ifCond .lt 19, 3) := by decide +kernel
theorem dX2_may_15 : decode cX2_may 15 = .ok (.iload_n 1, 1) := by decide +kernel
theorem dX2_may_16 : decode cX2_may 16 = .ok (.getstatic 89, 3) := by decide +kernel
theorem dX2_may_19 : decode cX2_may 19 = .ok (.arraylength, 1) := by decide +kernel
theorem dX2_may_20 : decode cX2_may 20 = .ok (.if_icmp .ge 11, 3) := by decide +kernel
theorem dX2_may_23 : decode cX2_may 23 = .ok (.iload_n 1, 1) := by decide +kernel
theorem dX2_may_24 : decode cX2_may 24 = .ok (.getstatic 92, 3) := by decide +kernel
theorem dX2_may_27 : decode cX2_may 27 = .ok (.arraylength, 1) := by decide +kernel
theorem dX2_may_28 : decode cX2_may 28 = .ok (.if_icmp .lt 5, 3) := by decide +kernel
theorem dX2_may_31 : decode cX2_may 31 = .ok (.iconst 0, 1) := by decide +kernel
theorem dX2_may_32 : decode cX2_may 32 = .ok (.ireturn, 1) := by decide +kernel
theorem dX2_may_33 : decode cX2_may 33 = .ok (.iload_n 1, 1) := by decide +kernel
theorem dX2_may_34 : decode cX2_may 34 = .ok (.ifCond .ne 11, 3) := by decide +kernel
theorem dX2_may_37 : decode cX2_may 37 = .ok (.iload_n 2, 1) := by decide +kernel
theorem dX2_may_38 : decode cX2_may 38 = .ok (.aload_n 0, 1) := by decide +kernel
theorem dX2_may_39 : decode cX2_may 39 = .ok (.getfield 9, 3) := by decide +kernel
theorem dX2_may_42 : decode cX2_may 42 = .ok (.if_icmp .lt 17, 3) := by decide +kernel
theorem dX2_may_45 : decode cX2_may 45 = .ok (.iload_n 1, 1) := by decide +kernel
theorem dX2_may_46 : decode cX2_may 46 = .ok (.bipush 10, 2) := by decide +kernel
theorem dX2_may_48 : decode cX2_may 48 = .ok (.if_icmp .ne 13, 3) := by decide +kernel
theorem dX2_may_51 : decode cX2_may 51 = .ok (.iload_n 2, 1) := by decide +kernel
theorem dX2_may_52 : decode cX2_may 52 = .ok (.aload_n 0, 1) := by decide +kernel
theorem dX2_may_53 : decode cX2_may 53 = .ok (.getfield 33, 3) := by decide +kernel
theorem dX2_may_56 : decode cX2_may 56 = .ok (.if_icmp .lt 5, 3) := by decide +kernel
theorem dX2_may_59 : decode cX2_may 59 = .ok (.iconst 0, 1) := by decide +kernel
theorem dX2_may_60 : decode cX2_may 60 = .ok (.ireturn, 1) := by decide +kernel
theorem dX2_may_61 : decode cX2_may 61 = .ok (.iload_n 2, 1) := by decide +kernel
theorem dX2_may_62 : decode cX2_may 62 = .ok (.getstatic 89, 3) := by decide +kernel
theorem dX2_may_65 : decode cX2_may 65 = .ok (.iload_n 1, 1) := by decide +kernel
theorem dX2_may_66 : decode cX2_may 66 = .ok (.iaload, 1) := by decide +kernel
theorem dX2_may_67 : decode cX2_may 67 = .ok (.if_icmp .lt 16, 3) := by decide +kernel
theorem dX2_may_70 : decode cX2_may 70 = .ok (.iload_n 2, 1) := by decide +kernel
theorem dX2_may_71 : decode cX2_may 71 = .ok (.getstatic 92, 3) := by decide +kernel
theorem dX2_may_74 : decode cX2_may 74 = .ok (.iload_n 1, 1) := by decide +kernel
theorem dX2_may_75 : decode cX2_may 75 = .ok (.iaload, 1) := by decide +kernel
theorem dX2_may_76 : decode cX2_may 76 = .ok (.if_icmp .gt 7, 3) := by decide +kernel
theorem dX2_may_79 : decode cX2_may 79 = .ok (.iconst 1, 1) := by decide +kernel
theorem dX2_may_80 : decode cX2_may 80 = .ok (.goto 4, 3) := by decide +kernel
theorem dX2_may_83 : decode cX2_may 83 = .ok (.iconst 0, 1) := by decide +kernel
theorem dX2_may_84 : decode cX2_may 84 = .ok (.ireturn, 1) := by decide +kernel
theorem dX2_thingAt_0 : decode cX2_thingAt 0 = .ok (.iload_n 1, 1) := by decide +kernel
theorem dX2_thingAt_1 : decode cX2_thingAt 1 = .ok (.ifCond .lt 29, 3) := by decide +kernel
theorem dX2_thingAt_4 : decode cX2_thingAt 4 = .ok (.iload_n 1, 1) := by decide +kernel
theorem dX2_thingAt_5 : decode cX2_thingAt 5 = .ok (.aload_n 0, 1) := by decide +kernel
theorem dX2_thingAt_6 : decode cX2_thingAt 6 = .ok (.getfield 33, 3) := by decide +kernel
theorem dX2_thingAt_9 : decode cX2_thingAt 9 = .ok (.if_icmp .ge 21, 3) := by decide +kernel
theorem dX2_thingAt_12 : decode cX2_thingAt 12 = .ok (.iload_n 1, 1) := by decide +kernel
theorem dX2_thingAt_13 : decode cX2_thingAt 13 = .ok (.aload_n 0, 1) := by decide +kernel
theorem dX2_thingAt_14 : decode cX2_thingAt 14 = .ok (.getfield 44, 3) := by decide +kernel
theorem dX2_thingAt_17 : decode cX2_thingAt 17 = .ok (.arraylength, 1) := by decide +kernel
theorem dX2_thingAt_18 : decode cX2_thingAt 18 = .ok (.if_icmp .ge 12, 3) := by decide +kernel
theorem dX2_thingAt_21 : decode cX2_thingAt 21 = .ok (.aload_n 0, 1) := by decide +kernel
theorem dX2_thingAt_22 : decode cX2_thingAt 22 = .ok (.getfield 44, 3) := by decide +kernel
theorem dX2_thingAt_25 : decode cX2_thingAt 25 = .ok (.iload_n 1, 1) := by decide +kernel
theorem dX2_thingAt_26 : decode cX2_thingAt 26 = .ok (.aaload, 1) := by decide +kernel
theorem dX2_thingAt_27 : decode cX2_thingAt 27 = .ok (.goto 4, 3) := by decide +kernel
theorem dX2_thingAt_30 : decode cX2_thingAt 30 = .ok (.aconst_null, 1) := by decide +kernel
theorem dX2_thingAt_31 : decode cX2_thingAt 31 = .ok (.areturn, 1) := by decide +kernel
theorem dX2_deviceAt_0 : decode cX2_deviceAt 0 = .ok (.iload_n 1, 1) := by decide +kernel
theorem dX2_deviceAt_1 : decode cX2_deviceAt 1 = .ok (.ifCond .lt 29, 3) := by decide +kernel
theorem dX2_deviceAt_4 : decode cX2_deviceAt 4 = .ok (.iload_n 1, 1) := by decide +kernel
theorem dX2_deviceAt_5 : decode cX2_deviceAt 5 = .ok (.aload_n 0, 1) := by decide +kernel
theorem dX2_deviceAt_6 : decode cX2_deviceAt 6 = .ok (.getfield 39, 3) := by decide +kernel
theorem dX2_deviceAt_9 : decode cX2_deviceAt 9 = .ok (.if_icmp .ge 21, 3) := by decide +kernel
theorem dX2_deviceAt_12 : decode cX2_deviceAt 12 = .ok (.iload_n 1, 1) := by decide +kernel
theorem dX2_deviceAt_13 : decode cX2_deviceAt 13 = .ok (.aload_n 0, 1) := by decide +kernel
theorem dX2_deviceAt_14 : decode cX2_deviceAt 14 = .ok (.getfield 50, 3) := by decide +kernel
theorem dX2_deviceAt_17 : decode cX2_deviceAt 17 = .ok (.arraylength, 1) := by decide +kernel
theorem dX2_deviceAt_18 : decode cX2_deviceAt 18 = .ok (.if_icmp .ge 12, 3) := by decide +kernel
theorem dX2_deviceAt_21 : decode cX2_deviceAt 21 = .ok (.aload_n 0, 1) := by decide +kernel
theorem dX2_deviceAt_22 : decode cX2_deviceAt 22 = .ok (.getfield 50, 3) := by decide +kernel
theorem dX2_deviceAt_25 : decode cX2_deviceAt 25 = .ok (.iload_n 1, 1) := by decide +kernel
theorem dX2_deviceAt_26 : decode cX2_deviceAt 26 = .ok (.aaload, 1) := by decide +kernel
theorem dX2_deviceAt_27 : decode cX2_deviceAt 27 = .ok (.goto 4, 3) := by decide +kernel
theorem dX2_deviceAt_30 : decode cX2_deviceAt 30 = .ok (.aconst_null, 1) := by decide +kernel
theorem dX2_deviceAt_31 : decode cX2_deviceAt 31 = .ok (.areturn, 1) := by decide +kernel
theorem dX2_channelAt_0 : decode cX2_channelAt 0 = .ok (.iload_n 1, 1) := by decide +kernel
theorem dX2_channelAt_1 : decode cX2_channelAt 1 = .ok (.ifCond .lt 21, 3) := by decide +kernel
theorem dX2_channelAt_4 : decode cX2_channelAt 4 = .ok (.iload_n 1, 1) := by decide +kernel
theorem dX2_channelAt_5 : decode cX2_channelAt 5 = .ok (.aload_n 0, 1) := by decide +kernel
theorem dX2_channelAt_6 : decode cX2_channelAt 6 = .ok (.getfield 54, 3) := by decide +kernel
theorem dX2_channelAt_9 : decode cX2_channelAt 9 = .ok (.arraylength, 1) := by decide +kernel
theorem dX2_channelAt_10 : decode cX2_channelAt 10 = .ok (.if_icmp .ge 12, 3) := by decide +kernel
theorem dX2_channelAt_13 : decode cX2_channelAt 13 = .ok (.aload_n 0, 1) := by decide +kernel
theorem dX2_channelAt_14 : decode cX2_channelAt 14 = .ok (.getfield 54, 3) := by decide +kernel
theorem dX2_channelAt_17 : decode cX2_channelAt 17 = .ok (.iload_n 1, 1) := by decide +kernel
theorem dX2_channelAt_18 : decode cX2_channelAt 18 = .ok (.iaload, 1) := by decide +kernel
theorem dX2_channelAt_19 : decode cX2_channelAt 19 = .ok (.goto 4, 3) := by decide +kernel
theorem dX2_channelAt_22 : decode cX2_channelAt 22 = .ok (.iconst 0, 1) := by decide +kernel
theorem dX2_channelAt_23 : decode cX2_channelAt 23 = .ok (.ireturn, 1) := by decide +kernel
theorem dX2_noiseAt_0 : decode cX2_noiseAt 0 = .ok (.iload_n 1, 1) := by decide +kernel
theorem dX2_noiseAt_1 : decode cX2_noiseAt 1 = .ok (.ifCond .lt 21, 3) := by decide +kernel
theorem dX2_noiseAt_4 : decode cX2_noiseAt 4 = .ok (.iload_n 1, 1) := by decide +kernel
theorem dX2_noiseAt_5 : decode cX2_noiseAt 5 = .ok (.aload_n 0, 1) := by decide +kernel
theorem dX2_noiseAt_6 : decode cX2_noiseAt 6 = .ok (.getfield 58, 3) := by decide +kernel
theorem dX2_noiseAt_9 : decode cX2_noiseAt 9 = .ok (.arraylength, 1) := by decide +kernel
theorem dX2_noiseAt_10 : decode cX2_noiseAt 10 = .ok (.if_icmp .ge 12, 3) := by decide +kernel
theorem dX2_noiseAt_13 : decode cX2_noiseAt 13 = .ok (.aload_n 0, 1) := by decide +kernel
theorem dX2_noiseAt_14 : decode cX2_noiseAt 14 = .ok (.getfield 58, 3) := by decide +kernel
theorem dX2_noiseAt_17 : decode cX2_noiseAt 17 = .ok (.iload_n 1, 1) := by decide +kernel
theorem dX2_noiseAt_18 : decode cX2_noiseAt 18 = .ok (.iaload, 1) := by decide +kernel
theorem dX2_noiseAt_19 : decode cX2_noiseAt 19 = .ok (.goto 4, 3) := by decide +kernel
theorem dX2_noiseAt_22 : decode cX2_noiseAt 22 = .ok (.iconst 0, 1) := by decide +kernel
theorem dX2_noiseAt_23 : decode cX2_noiseAt 23 = .ok (.ireturn, 1) := by decide +kernel
theorem dX2_tune_0 : decode cX2_tune 0 = .ok (.iload_n 1, 1) := by decide +kernel
theorem dX2_tune_1 : decode cX2_tune 1 = .ok (.ifCond .lt 19, 3) := by decide +kernel
theorem dX2_tune_4 : decode cX2_tune 4 = .ok (.iload_n 1, 1) := by decide +kernel
theorem dX2_tune_5 : decode cX2_tune 5 = .ok (.aload_n 0, 1) := by decide +kernel
theorem dX2_tune_6 : decode cX2_tune 6 = .ok (.getfield 54, 3) := by decide +kernel
theorem dX2_tune_9 : decode cX2_tune 9 = .ok (.arraylength, 1) := by decide +kernel
theorem dX2_tune_10 : decode cX2_tune 10 = .ok (.if_icmp .ge 10, 3) := by decide +kernel
theorem dX2_tune_13 : decode cX2_tune 13 = .ok (.aload_n 0, 1) := by decide +kernel
theorem dX2_tune_14 : decode cX2_tune 14 = .ok (.getfield 54, 3) := by decide +kernel
theorem dX2_tune_17 : decode cX2_tune 17 = .ok (.iload_n 1, 1) := by decide +kernel
theorem dX2_tune_18 : decode cX2_tune 18 = .ok (.iload_n 2, 1) := by decide +kernel
theorem dX2_tune_19 : decode cX2_tune 19 = .ok (.iastore, 1) := by decide +kernel
theorem dX2_tune_20 : decode cX2_tune 20 = .ok (.return_, 1) := by decide +kernel
theorem dX2_addThing_0 : decode cX2_addThing 0 = .ok (.aload_n 0, 1) := by decide +kernel
theorem dX2_addThing_1 : decode cX2_addThing 1 = .ok (.getfield 33, 3) := by decide +kernel
theorem dX2_addThing_4 : decode cX2_addThing 4 = .ok (.bipush 16, 2) := by decide +kernel
theorem dX2_addThing_6 : decode cX2_addThing 6 = .ok (.if_icmp .lt 5, 3) := by decide +kernel
theorem dX2_addThing_9 : decode cX2_addThing 9 = .ok (.iconst (-1), 1) := by decide +kernel
theorem dX2_addThing_10 : decode cX2_addThing 10 = .ok (.ireturn, 1) := by decide +kernel
theorem dX2_addThing_11 : decode cX2_addThing 11 = .ok (.aload_n 0, 1) := by decide +kernel
theorem dX2_addThing_12 : decode cX2_addThing 12 = .ok (.getfield 33, 3) := by decide +kernel
theorem dX2_addThing_15 : decode cX2_addThing 15 = .ok (.istore 4, 2) := by decide +kernel
theorem dX2_addThing_17 : decode cX2_addThing 17 = .ok (.aload_n 0, 1) := by decide +kernel
theorem dX2_addThing_18 : decode cX2_addThing 18 = .ok (.dup, 1) := by decide +kernel
theorem dX2_addThing_19 : decode cX2_addThing 19 = .ok (.getfield 33, 3) := by decide +kernel
theorem dX2_addThing_22 : decode cX2_addThing 22 = .ok (.iconst 1, 1) := by decide +kernel
theorem dX2_addThing_23 : decode cX2_addThing 23 = .ok (.iadd, 1) := by decide +kernel
theorem dX2_addThing_24 : decode cX2_addThing 24 = .ok (.putfield 33, 3) := by decide +kernel
theorem dX2_addThing_27 : decode cX2_addThing 27 = .ok (.aload_n 0, 1) := by decide +kernel
theorem dX2_addThing_28 : decode cX2_addThing 28 = .ok (.iload 4, 2) := by decide +kernel
theorem dX2_addThing_30 : decode cX2_addThing 30 = .ok (.invokevirtual 63, 3) := by decide +kernel
theorem dX2_addThing_33 : decode cX2_addThing 33 = .ok (.astore 5, 2) := by decide +kernel
theorem dX2_addThing_35 : decode cX2_addThing 35 = .ok (.aload 5, 2) := by decide +kernel
theorem dX2_addThing_37 : decode cX2_addThing 37 = .ok (.ifnull 27, 3) := by decide +kernel
theorem dX2_addThing_40 : decode cX2_addThing 40 = .ok (.aload 5, 2) := by decide +kernel
theorem dX2_addThing_42 : decode cX2_addThing 42 = .ok (.iload_n 1, 1) := by decide +kernel
theorem dX2_addThing_43 : decode cX2_addThing 43 = .ok (.putfield 95, 3) := by decide +kernel
theorem dX2_addThing_46 : decode cX2_addThing 46 = .ok (.aload 5, 2) := by decide +kernel
theorem dX2_addThing_48 : decode cX2_addThing 48 = .ok (.iload_n 2, 1) := by decide +kernel
theorem dX2_addThing_49 : decode cX2_addThing 49 = .ok (.putfield 98, 3) := by decide +kernel
theorem dX2_addThing_52 : decode cX2_addThing 52 = .ok (.aload 5, 2) := by decide +kernel
theorem dX2_addThing_54 : decode cX2_addThing 54 = .ok (.iload_n 3, 1) := by decide +kernel
theorem dX2_addThing_55 : decode cX2_addThing 55 = .ok (.putfield 101, 3) := by decide +kernel
theorem dX2_addThing_58 : decode cX2_addThing 58 = .ok (.aload 5, 2) := by decide +kernel
theorem dX2_addThing_60 : decode cX2_addThing 60 = .ok (.iconst 1, 1) := by decide +kernel
theorem dX2_addThing_61 : decode cX2_addThing 61 = .ok (.putfield 104, 3) := by decide +kernel
theorem dX2_addThing_64 : decode cX2_addThing 64 = .ok (.iload 4, 2) := by decide +kernel
theorem dX2_addThing_66 : decode cX2_addThing 66 = .ok (.ireturn, 1) := by decide +kernel
theorem dX2_addNeighbour_0 : decode cX2_addNeighbour 0 = .ok (.aload_n 0, 1) := by decide +kernel
theorem dX2_addNeighbour_1 : decode cX2_addNeighbour 1 = .ok (.getfield 36, 3) := by decide +kernel
theorem dX2_addNeighbour_4 : decode cX2_addNeighbour 4 = .ok (.istore_n 3, 1) := by decide +kernel
theorem dX2_addNeighbour_5 : decode cX2_addNeighbour 5 = .ok (.iload_n 3, 1) := by decide +kernel
theorem dX2_addNeighbour_6 : decode cX2_addNeighbour 6 = .ok (.ifCond .lt 9, 3) := by decide +kernel
theorem dX2_addNeighbour_9 : decode cX2_addNeighbour 9 = .ok (.iload_n 3, 1) := by decide +kernel
theorem dX2_addNeighbour_10 : decode cX2_addNeighbour 10 = .ok (.bipush 8, 2) := by decide +kernel
theorem dX2_addNeighbour_12 : decode cX2_addNeighbour 12 = .ok (.if_icmp .lt 5, 3) := by decide +kernel
theorem dX2_addNeighbour_15 : decode cX2_addNeighbour 15 = .ok (.iconst (-1), 1) := by decide +kernel
theorem dX2_addNeighbour_16 : decode cX2_addNeighbour 16 = .ok (.ireturn, 1) := by decide +kernel
theorem dX2_addNeighbour_17 : decode cX2_addNeighbour 17 = .ok (.aload_n 0, 1) := by decide +kernel
theorem dX2_addNeighbour_18 : decode cX2_addNeighbour 18 = .ok (.getfield 54, 3) := by decide +kernel
theorem dX2_addNeighbour_21 : decode cX2_addNeighbour 21 = .ok (.iload_n 3, 1) := by decide +kernel
theorem dX2_addNeighbour_22 : decode cX2_addNeighbour 22 = .ok (.iload_n 1, 1) := by decide +kernel
theorem dX2_addNeighbour_23 : decode cX2_addNeighbour 23 = .ok (.iastore, 1) := by decide +kernel
theorem dX2_addNeighbour_24 : decode cX2_addNeighbour 24 = .ok (.aload_n 0, 1) := by decide +kernel
theorem dX2_addNeighbour_25 : decode cX2_addNeighbour 25 = .ok (.getfield 58, 3) := by decide +kernel
theorem dX2_addNeighbour_28 : decode cX2_addNeighbour 28 = .ok (.iload_n 3, 1) := by decide +kernel
theorem dX2_addNeighbour_29 : decode cX2_addNeighbour 29 = .ok (.iload_n 2, 1) := by decide +kernel
theorem dX2_addNeighbour_30 : decode cX2_addNeighbour 30 = .ok (.iastore, 1) := by decide +kernel
theorem dX2_addNeighbour_31 : decode cX2_addNeighbour 31 = .ok (.aload_n 0, 1) := by decide +kernel
theorem dX2_addNeighbour_32 : decode cX2_addNeighbour 32 = .ok (.dup, 1) := by decide +kernel
theorem dX2_addNeighbour_33 : decode cX2_addNeighbour 33 = .ok (.getfield 36, 3) := by decide +kernel
theorem dX2_addNeighbour_36 : decode cX2_addNeighbour 36 = .ok (.iconst 1, 1) := by decide +kernel
theorem dX2_addNeighbour_37 : decode cX2_addNeighbour 37 = .ok (.iadd, 1) := by decide +kernel
theorem dX2_addNeighbour_38 : decode cX2_addNeighbour 38 = .ok (.putfield 36, 3) := by decide +kernel
theorem dX2_addNeighbour_41 : decode cX2_addNeighbour 41 = .ok (.iload_n 3, 1) := by decide +kernel
theorem dX2_addNeighbour_42 : decode cX2_addNeighbour 42 = .ok (.ireturn, 1) := by decide +kernel
theorem dX2_addDevice_0 : decode cX2_addDevice 0 = .ok (.aload_n 0, 1) := by decide +kernel
theorem dX2_addDevice_1 : decode cX2_addDevice 1 = .ok (.getfield 39, 3) := by decide +kernel
theorem dX2_addDevice_4 : decode cX2_addDevice 4 = .ok (.bipush 6, 2) := by decide +kernel
theorem dX2_addDevice_6 : decode cX2_addDevice 6 = .ok (.if_icmp .lt 5, 3) := by decide +kernel
theorem dX2_addDevice_9 : decode cX2_addDevice 9 = .ok (.iconst (-1), 1) := by decide +kernel
theorem dX2_addDevice_10 : decode cX2_addDevice 10 = .ok (.ireturn, 1) := by decide +kernel
theorem dX2_addDevice_11 : decode cX2_addDevice 11 = .ok (.aload_n 0, 1) := by decide +kernel
theorem dX2_addDevice_12 : decode cX2_addDevice 12 = .ok (.getfield 39, 3) := by decide +kernel
theorem dX2_addDevice_15 : decode cX2_addDevice 15 = .ok (.istore 4, 2) := by decide +kernel
theorem dX2_addDevice_17 : decode cX2_addDevice 17 = .ok (.aload_n 0, 1) := by decide +kernel
theorem dX2_addDevice_18 : decode cX2_addDevice 18 = .ok (.dup, 1) := by decide +kernel
theorem dX2_addDevice_19 : decode cX2_addDevice 19 = .ok (.getfield 39, 3) := by decide +kernel
theorem dX2_addDevice_22 : decode cX2_addDevice 22 = .ok (.iconst 1, 1) := by decide +kernel
theorem dX2_addDevice_23 : decode cX2_addDevice 23 = .ok (.iadd, 1) := by decide +kernel
theorem dX2_addDevice_24 : decode cX2_addDevice 24 = .ok (.putfield 39, 3) := by decide +kernel
theorem dX2_addDevice_27 : decode cX2_addDevice 27 = .ok (.aload_n 0, 1) := by decide +kernel
theorem dX2_addDevice_28 : decode cX2_addDevice 28 = .ok (.iload 4, 2) := by decide +kernel
theorem dX2_addDevice_30 : decode cX2_addDevice 30 = .ok (.invokevirtual 71, 3) := by decide +kernel
theorem dX2_addDevice_33 : decode cX2_addDevice 33 = .ok (.astore 5, 2) := by decide +kernel
theorem dX2_addDevice_35 : decode cX2_addDevice 35 = .ok (.aload 5, 2) := by decide +kernel
theorem dX2_addDevice_37 : decode cX2_addDevice 37 = .ok (.ifnull 27, 3) := by decide +kernel
theorem dX2_addDevice_40 : decode cX2_addDevice 40 = .ok (.aload 5, 2) := by decide +kernel
theorem dX2_addDevice_42 : decode cX2_addDevice 42 = .ok (.iload_n 1, 1) := by decide +kernel
theorem dX2_addDevice_43 : decode cX2_addDevice 43 = .ok (.putfield 108, 3) := by decide +kernel
theorem dX2_addDevice_46 : decode cX2_addDevice 46 = .ok (.aload 5, 2) := by decide +kernel
theorem dX2_addDevice_48 : decode cX2_addDevice 48 = .ok (.iload_n 2, 1) := by decide +kernel
theorem dX2_addDevice_49 : decode cX2_addDevice 49 = .ok (.putfield 109, 3) := by decide +kernel
theorem dX2_addDevice_52 : decode cX2_addDevice 52 = .ok (.aload 5, 2) := by decide +kernel
theorem dX2_addDevice_54 : decode cX2_addDevice 54 = .ok (.iload_n 3, 1) := by decide +kernel
theorem dX2_addDevice_55 : decode cX2_addDevice 55 = .ok (.putfield 112, 3) := by decide +kernel
theorem dX2_addDevice_58 : decode cX2_addDevice 58 = .ok (.aload 5, 2) := by decide +kernel
theorem dX2_addDevice_60 : decode cX2_addDevice 60 = .ok (.iconst 0, 1) := by decide +kernel
theorem dX2_addDevice_61 : decode cX2_addDevice 61 = .ok (.putfield 115, 3) := by decide +kernel
theorem dX2_addDevice_64 : decode cX2_addDevice 64 = .ok (.iload 4, 2) := by decide +kernel
theorem dX2_addDevice_66 : decode cX2_addDevice 66 = .ok (.ireturn, 1) := by decide +kernel
theorem dX2_placeOf_0 : decode cX2_placeOf 0 = .ok (.iload_n 1, 1) := by decide +kernel
theorem dX2_placeOf_1 : decode cX2_placeOf 1 = .ok (.ifCond .ne 10, 3) := by decide +kernel
theorem dX2_placeOf_4 : decode cX2_placeOf 4 = .ok (.aload_n 0, 1) := by decide +kernel
theorem dX2_placeOf_5 : decode cX2_placeOf 5 = .ok (.getfield 27, 3) := by decide +kernel
theorem dX2_placeOf_8 : decode cX2_placeOf 8 = .ok (.goto 7, 3) := by decide +kernel
theorem dX2_placeOf_11 : decode cX2_placeOf 11 = .ok (.aload_n 0, 1) := by decide +kernel
theorem dX2_placeOf_12 : decode cX2_placeOf 12 = .ok (.getfield 30, 3) := by decide +kernel
theorem dX2_placeOf_15 : decode cX2_placeOf 15 = .ok (.ireturn, 1) := by decide +kernel
theorem dX2_place_0 : decode cX2_place 0 = .ok (.iload_n 1, 1) := by decide +kernel
theorem dX2_place_1 : decode cX2_place 1 = .ok (.ifCond .ne 11, 3) := by decide +kernel
theorem dX2_place_4 : decode cX2_place 4 = .ok (.aload_n 0, 1) := by decide +kernel
theorem dX2_place_5 : decode cX2_place 5 = .ok (.iload_n 2, 1) := by decide +kernel
theorem dX2_place_6 : decode cX2_place 6 = .ok (.putfield 27, 3) := by decide +kernel
theorem dX2_place_9 : decode cX2_place 9 = .ok (.goto 8, 3) := by decide +kernel
theorem dX2_place_12 : decode cX2_place 12 = .ok (.aload_n 0, 1) := by decide +kernel
theorem dX2_place_13 : decode cX2_place 13 = .ok (.iload_n 2, 1) := by decide +kernel
theorem dX2_place_14 : decode cX2_place 14 = .ok (.putfield 30, 3) := by decide +kernel
theorem dX2_place_17 : decode cX2_place 17 = .ok (.return_, 1) := by decide +kernel
theorem dX2_dinOn_0 : decode cX2_dinOn 0 = .ok (.iconst 0, 1) := by decide +kernel
theorem dX2_dinOn_1 : decode cX2_dinOn 1 = .ok (.istore_n 2, 1) := by decide +kernel
theorem dX2_dinOn_2 : decode cX2_dinOn 2 = .ok (.iconst 0, 1) := by decide +kernel
theorem dX2_dinOn_3 : decode cX2_dinOn 3 = .ok (.istore_n 3, 1) := by decide +kernel
theorem dX2_dinOn_4 : decode cX2_dinOn 4 = .ok (.iload_n 3, 1) := by decide +kernel
theorem dX2_dinOn_5 : decode cX2_dinOn 5 = .ok (.aload_n 0, 1) := by decide +kernel
theorem dX2_dinOn_6 : decode cX2_dinOn 6 = .ok (.getfield 36, 3) := by decide +kernel
theorem dX2_dinOn_9 : decode cX2_dinOn 9 = .ok (.if_icmp .ge 27, 3) := by decide +kernel
theorem dX2_dinOn_12 : decode cX2_dinOn 12 = .ok (.iload_n 2, 1) := by decide +kernel
theorem dX2_dinOn_13 : decode cX2_dinOn 13 = .ok (.aload_n 0, 1) := by decide +kernel
theorem dX2_dinOn_14 : decode cX2_dinOn 14 = .ok (.iload_n 3, 1) := by decide +kernel
theorem dX2_dinOn_15 : decode cX2_dinOn 15 = .ok (.invokevirtual 82, 3) := by decide +kernel
theorem dX2_dinOn_18 : decode cX2_dinOn 18 = .ok (.aload_n 0, 1) := by decide +kernel
theorem dX2_dinOn_19 : decode cX2_dinOn 19 = .ok (.iload_n 3, 1) := by decide +kernel
theorem dX2_dinOn_20 : decode cX2_dinOn 20 = .ok (.invokevirtual 78, 3) := by decide +kernel
theorem dX2_dinOn_23 : decode cX2_dinOn 23 = .ok (.iload_n 1, 1) := by decide +kernel
theorem dX2_dinOn_24 : decode cX2_dinOn 24 = .ok (.isub, 1) := by decide +kernel
theorem dX2_dinOn_25 : decode cX2_dinOn 25 = .ok (.invokestatic 118, 3) := by decide +kernel
theorem dX2_dinOn_28 : decode cX2_dinOn 28 = .ok (.iadd, 1) := by decide +kernel
theorem dX2_dinOn_29 : decode cX2_dinOn 29 = .ok (.istore_n 2, 1) := by decide +kernel
theorem dX2_dinOn_30 : decode cX2_dinOn 30 = .ok (.iinc 3 1, 3) := by decide +kernel
theorem dX2_dinOn_33 : decode cX2_dinOn 33 = .ok (.goto (-29), 3) := by decide +kernel
theorem dX2_dinOn_36 : decode cX2_dinOn 36 = .ok (.iload_n 2, 1) := by decide +kernel
theorem dX2_dinOn_37 : decode cX2_dinOn 37 = .ok (.ireturn, 1) := by decide +kernel
theorem dX2_wholeWorth_0 : decode cX2_wholeWorth 0 = .ok (.iconst 0, 1) := by decide +kernel
theorem dX2_wholeWorth_1 : decode cX2_wholeWorth 1 = .ok (.istore_n 1, 1) := by decide +kernel
theorem dX2_wholeWorth_2 : decode cX2_wholeWorth 2 = .ok (.iconst 0, 1) := by decide +kernel
theorem dX2_wholeWorth_3 : decode cX2_wholeWorth 3 = .ok (.istore_n 2, 1) := by decide +kernel
theorem dX2_wholeWorth_4 : decode cX2_wholeWorth 4 = .ok (.iload_n 2, 1) := by decide +kernel
theorem dX2_wholeWorth_5 : decode cX2_wholeWorth 5 = .ok (.aload_n 0, 1) := by decide +kernel
theorem dX2_wholeWorth_6 : decode cX2_wholeWorth 6 = .ok (.getfield 39, 3) := by decide +kernel
theorem dX2_wholeWorth_9 : decode cX2_wholeWorth 9 = .ok (.if_icmp .ge 30, 3) := by decide +kernel
theorem dX2_wholeWorth_12 : decode cX2_wholeWorth 12 = .ok (.aload_n 0, 1) := by decide +kernel
theorem dX2_wholeWorth_13 : decode cX2_wholeWorth 13 = .ok (.iload_n 2, 1) := by decide +kernel
theorem dX2_wholeWorth_14 : decode cX2_wholeWorth 14 = .ok (.invokevirtual 71, 3) := by decide +kernel
theorem dX2_wholeWorth_17 : decode cX2_wholeWorth 17 = .ok (.astore_n 3, 1) := by decide +kernel
theorem dX2_wholeWorth_18 : decode cX2_wholeWorth 18 = .ok (.iload_n 1, 1) := by decide +kernel
theorem dX2_wholeWorth_19 : decode cX2_wholeWorth 19 = .ok (.aload_n 3, 1) := by decide +kernel
theorem dX2_wholeWorth_20 : decode cX2_wholeWorth 20 = .ok (.ifnonnull 7, 3) := by decide +kernel
theorem dX2_wholeWorth_23 : decode cX2_wholeWorth 23 = .ok (.iconst 0, 1) := by decide +kernel
theorem dX2_wholeWorth_24 : decode cX2_wholeWorth 24 = .ok (.goto 7, 3) := by decide +kernel
theorem dX2_wholeWorth_27 : decode cX2_wholeWorth 27 = .ok (.aload_n 3, 1) := by decide +kernel
theorem dX2_wholeWorth_28 : decode cX2_wholeWorth 28 = .ok (.getfield 112, 3) := by decide +kernel
theorem dX2_wholeWorth_31 : decode cX2_wholeWorth 31 = .ok (.iadd, 1) := by decide +kernel
theorem dX2_wholeWorth_32 : decode cX2_wholeWorth 32 = .ok (.istore_n 1, 1) := by decide +kernel
theorem dX2_wholeWorth_33 : decode cX2_wholeWorth 33 = .ok (.iinc 2 1, 3) := by decide +kernel
theorem dX2_wholeWorth_36 : decode cX2_wholeWorth 36 = .ok (.goto (-32), 3) := by decide +kernel
theorem dX2_wholeWorth_39 : decode cX2_wholeWorth 39 = .ok (.iload_n 1, 1) := by decide +kernel
theorem dX2_wholeWorth_40 : decode cX2_wholeWorth 40 = .ok (.ireturn, 1) := by decide +kernel
theorem dX2_draw_0 : decode cX2_draw 0 = .ok (.aload_n 0, 1) := by decide +kernel
theorem dX2_draw_1 : decode cX2_draw 1 = .ok (.aload_n 0, 1) := by decide +kernel
theorem dX2_draw_2 : decode cX2_draw 2 = .ok (.getfield 24, 3) := by decide +kernel
theorem dX2_draw_5 : decode cX2_draw 5 = .ok (.ldc 122, 2) := by decide +kernel
theorem dX2_draw_7 : decode cX2_draw 7 = .ok (.imul, 1) := by decide +kernel
theorem dX2_draw_8 : decode cX2_draw 8 = .ok (.sipush 12345, 3) := by decide +kernel
theorem dX2_draw_11 : decode cX2_draw 11 = .ok (.iadd, 1) := by decide +kernel
theorem dX2_draw_12 : decode cX2_draw 12 = .ok (.putfield 24, 3) := by decide +kernel
theorem dX2_draw_15 : decode cX2_draw 15 = .ok (.iload_n 1, 1) := by decide +kernel
theorem dX2_draw_16 : decode cX2_draw 16 = .ok (.ifCond .le 15, 3) := by decide +kernel
theorem dX2_draw_19 : decode cX2_draw 19 = .ok (.aload_n 0, 1) := by decide +kernel
theorem dX2_draw_20 : decode cX2_draw 20 = .ok (.getfield 24, 3) := by decide +kernel
theorem dX2_draw_23 : decode cX2_draw 23 = .ok (.bipush 16, 2) := by decide +kernel
theorem dX2_draw_25 : decode cX2_draw 25 = .ok (.iushr, 1) := by decide +kernel
theorem dX2_draw_26 : decode cX2_draw 26 = .ok (.iload_n 1, 1) := by decide +kernel
theorem dX2_draw_27 : decode cX2_draw 27 = .ok (.irem, 1) := by decide +kernel
theorem dX2_draw_28 : decode cX2_draw 28 = .ok (.goto 4, 3) := by decide +kernel
theorem dX2_draw_31 : decode cX2_draw 31 = .ok (.iconst 0, 1) := by decide +kernel
theorem dX2_draw_32 : decode cX2_draw 32 = .ok (.ireturn, 1) := by decide +kernel
theorem dX3_init_0 : decode cX3_init 0 = .ok (.aload_n 0, 1) := by decide +kernel
theorem dX3_init_1 : decode cX3_init 1 = .ok (.invokespecial 3, 3) := by decide +kernel
theorem dX3_init_4 : decode cX3_init 4 = .ok (.aload_n 0, 1) := by decide +kernel
theorem dX3_init_5 : decode cX3_init 5 = .ok (.bipush 8, 2) := by decide +kernel
theorem dX3_init_7 : decode cX3_init 7 = .ok (.newarray .int, 2) := by decide +kernel
theorem dX3_init_9 : decode cX3_init 9 = .ok (.putfield 9, 3) := by decide +kernel
theorem dX3_init_12 : decode cX3_init 12 = .ok (.aload_n 0, 1) := by decide +kernel
theorem dX3_init_13 : decode cX3_init 13 = .ok (.iconst 0, 1) := by decide +kernel
theorem dX3_init_14 : decode cX3_init 14 = .ok (.putfield 15, 3) := by decide +kernel
theorem dX3_init_17 : decode cX3_init 17 = .ok (.aload_n 0, 1) := by decide +kernel
theorem dX3_init_18 : decode cX3_init 18 = .ok (.aload_n 1, 1) := by decide +kernel
theorem dX3_init_19 : decode cX3_init 19 = .ok (.putfield 19, 3) := by decide +kernel
theorem dX3_init_22 : decode cX3_init 22 = .ok (.aload_n 0, 1) := by decide +kernel
theorem dX3_init_23 : decode cX3_init 23 = .ok (.aload_n 2, 1) := by decide +kernel
theorem dX3_init_24 : decode cX3_init 24 = .ok (.putfield 23, 3) := by decide +kernel
theorem dX3_init_27 : decode cX3_init 27 = .ok (.aload_n 0, 1) := by decide +kernel
theorem dX3_init_28 : decode cX3_init 28 = .ok (.new 26, 3) := by decide +kernel
theorem dX3_init_31 : decode cX3_init 31 = .ok (.dup, 1) := by decide +kernel
theorem dX3_init_32 : decode cX3_init 32 = .ok (.aload_n 2, 1) := by decide +kernel
theorem dX3_init_33 : decode cX3_init 33 = .ok (.invokespecial 28, 3) := by decide +kernel
theorem dX3_init_36 : decode cX3_init 36 = .ok (.putfield 31, 3) := by decide +kernel
theorem dX3_init_39 : decode cX3_init 39 = .ok (.return_, 1) := by decide +kernel
theorem dX3_begin_0 : decode cX3_begin 0 = .ok (.aload_n 0, 1) := by decide +kernel
theorem dX3_begin_1 : decode cX3_begin 1 = .ok (.getfield 23, 3) := by decide +kernel
theorem dX3_begin_4 : decode cX3_begin 4 = .ok (.aload_n 0, 1) := by decide +kernel
theorem dX3_begin_5 : decode cX3_begin 5 = .ok (.getfield 19, 3) := by decide +kernel
theorem dX3_begin_8 : decode cX3_begin 8 = .ok (.invokevirtual 35, 3) := by decide +kernel
theorem dX3_begin_11 : decode cX3_begin 11 = .ok (.aload_n 0, 1) := by decide +kernel
theorem dX3_begin_12 : decode cX3_begin 12 = .ok (.getfield 31, 3) := by decide +kernel
theorem dX3_begin_15 : decode cX3_begin 15 = .ok (.invokevirtual 40, 3) := by decide +kernel
theorem dX3_begin_18 : decode cX3_begin 18 = .ok (.aload_n 0, 1) := by decide +kernel
theorem dX3_begin_19 : decode cX3_begin 19 = .ok (.aload_n 0, 1) := by decide +kernel
theorem dX3_begin_20 : decode cX3_begin 20 = .ok (.getfield 23, 3) := by decide +kernel
theorem dX3_begin_23 : decode cX3_begin 23 = .ok (.invokevirtual 43, 3) := by decide +kernel
theorem dX3_begin_26 : decode cX3_begin 26 = .ok (.putfield 15, 3) := by decide +kernel
theorem dX3_begin_29 : decode cX3_begin 29 = .ok (.return_, 1) := by decide +kernel
theorem dX3_reachFromAll_0 : decode cX3_reachFromAll 0 = .ok (.iconst 0, 1) := by decide +kernel
theorem dX3_reachFromAll_1 : decode cX3_reachFromAll 1 = .ok (.istore_n 1, 1) := by decide +kernel
theorem dX3_reachFromAll_2 : decode cX3_reachFromAll 2 = .ok (.iload_n 1, 1) := by decide +kernel
theorem dX3_reachFromAll_3 : decode cX3_reachFromAll 3 = .ok (.bipush 80, 2) := by decide +kernel
theorem dX3_reachFromAll_5 : decode cX3_reachFromAll 5 = .ok (.if_icmp .ge 28, 3) := by decide +kernel
theorem dX3_reachFromAll_8 : decode cX3_reachFromAll 8 = .ok (.aload_n 0, 1) := by decide +kernel
theorem dX3_reachFromAll_9 : decode cX3_reachFromAll 9 = .ok (.getfield 23, 3) := by decide +kernel
theorem dX3_reachFromAll_12 : decode cX3_reachFromAll 12 = .ok (.iload_n 1, 1) := by decide +kernel
theorem dX3_reachFromAll_13 : decode cX3_reachFromAll 13 = .ok (.invokevirtual 47, 3) := by decide +kernel
theorem dX3_reachFromAll_16 : decode cX3_reachFromAll 16 = .ok (.ifCond .eq 11, 3) := by decide +kernel
theorem dX3_reachFromAll_19 : decode cX3_reachFromAll 19 = .ok (.aload_n 0, 1) := by decide +kernel
theorem dX3_reachFromAll_20 : decode cX3_reachFromAll 20 = .ok (.getfield 31, 3) := by decide +kernel
theorem dX3_reachFromAll_23 : decode cX3_reachFromAll 23 = .ok (.iload_n 1, 1) := by decide +kernel
theorem dX3_reachFromAll_24 : decode cX3_reachFromAll 24 = .ok (.invokevirtual 51, 3) := by decide +kernel
theorem dX3_reachFromAll_27 : decode cX3_reachFromAll 27 = .ok (.iinc 1 1, 3) := by decide +kernel
theorem dX3_reachFromAll_30 : decode cX3_reachFromAll 30 = .ok (.goto (-28), 3) := by decide +kernel
theorem dX3_reachFromAll_33 : decode cX3_reachFromAll 33 = .ok (.return_, 1) := by decide +kernel
theorem dX3_bestPlace_0 : decode cX3_bestPlace 0 = .ok (.aload_n 0, 1) := by decide +kernel
theorem dX3_bestPlace_1 : decode cX3_bestPlace 1 = .ok (.invokevirtual 55, 3) := by decide +kernel
theorem dX3_bestPlace_4 : decode cX3_bestPlace 4 = .ok (.iconst 0, 1) := by decide +kernel
theorem dX3_bestPlace_5 : decode cX3_bestPlace 5 = .ok (.istore_n 2, 1) := by decide +kernel
theorem dX3_bestPlace_6 : decode cX3_bestPlace 6 = .ok (.iconst (-1), 1) := by decide +kernel
theorem dX3_bestPlace_7 : decode cX3_bestPlace 7 = .ok (.istore_n 3, 1) := by decide +kernel
theorem dX3_bestPlace_8 : decode cX3_bestPlace 8 = .ok (.iconst 0, 1) := by decide +kernel
theorem dX3_bestPlace_9 : decode cX3_bestPlace 9 = .ok (.istore 4, 2) := by decide +kernel
theorem dX3_bestPlace_11 : decode cX3_bestPlace 11 = .ok (.iload 4, 2) := by decide +kernel
theorem dX3_bestPlace_13 : decode cX3_bestPlace 13 = .ok (.bipush 80, 2) := by decide +kernel
theorem dX3_bestPlace_15 : decode cX3_bestPlace 15 = .ok (.if_icmp .ge 82, 3) := by decide +kernel
theorem dX3_bestPlace_18 : decode cX3_bestPlace 18 = .ok (.iload_n 3, 1) := by decide +kernel
theorem dX3_bestPlace_19 : decode cX3_bestPlace 19 = .ok (.aload_n 0, 1) := by decide +kernel
theorem dX3_bestPlace_20 : decode cX3_bestPlace 20 = .ok (.getfield 15, 3) := by decide +kernel
theorem dX3_bestPlace_23 : decode cX3_bestPlace 23 = .ok (.if_icmp .ge 74, 3) := by decide +kernel
theorem dX3_bestPlace_26 : decode cX3_bestPlace 26 = .ok (.aload_n 0, 1) := by decide +kernel
theorem dX3_bestPlace_27 : decode cX3_bestPlace 27 = .ok (.getfield 23, 3) := by decide +kernel
theorem dX3_bestPlace_30 : decode cX3_bestPlace 30 = .ok (.iload 4, 2) := by decide +kernel
theorem dX3_bestPlace_32 : decode cX3_bestPlace 32 = .ok (.invokevirtual 47, 3) := by decide +kernel
theorem dX3_bestPlace_35 : decode cX3_bestPlace 35 = .ok (.ifCond .eq 56, 3) := by decide +kernel
theorem dX3_bestPlace_38 : decode cX3_bestPlace 38 = .ok (.iload_n 1, 1) := by decide +kernel
theorem dX3_bestPlace_39 : decode cX3_bestPlace 39 = .ok (.ifCond .ne 22, 3) := by decide +kernel
theorem dX3_bestPlace_42 : decode cX3_bestPlace 42 = .ok (.aload_n 0, 1) := by decide +kernel
theorem dX3_bestPlace_43 : decode cX3_bestPlace 43 = .ok (.getfield 31, 3) := by decide +kernel
theorem dX3_bestPlace_46 : decode cX3_bestPlace 46 = .ok (.iload 4, 2) := by decide +kernel
theorem dX3_bestPlace_48 : decode cX3_bestPlace 48 = .ok (.aload_n 0, 1) := by decide +kernel
theorem dX3_bestPlace_49 : decode cX3_bestPlace 49 = .ok (.getfield 23, 3) := by decide +kernel
theorem dX3_bestPlace_52 : decode cX3_bestPlace 52 = .ok (.getfield 58, 3) := by decide +kernel
theorem dX3_bestPlace_55 : decode cX3_bestPlace 55 = .ok (.invokevirtual 61, 3) := by decide +kernel
theorem dX3_bestPlace_58 : decode cX3_bestPlace 58 = .ok (.goto 19, 3) := by decide +kernel
theorem dX3_bestPlace_61 : decode cX3_bestPlace 61 = .ok (.aload_n 0, 1) := by decide +kernel
theorem dX3_bestPlace_62 : decode cX3_bestPlace 62 = .ok (.getfield 31, 3) := by decide +kernel
theorem dX3_bestPlace_65 : decode cX3_bestPlace 65 = .ok (.aload_n 0, 1) := by decide +kernel
theorem dX3_bestPlace_66 : decode cX3_bestPlace 66 = .ok (.getfield 23, 3) := by decide +kernel
theorem dX3_bestPlace_69 : decode cX3_bestPlace 69 = .ok (.getfield 65, 3) := by decide +kernel
theorem dX3_bestPlace_72 : decode cX3_bestPlace 72 = .ok (.iload 4, 2) := by decide +kernel
theorem dX3_bestPlace_74 : decode cX3_bestPlace 74 = .ok (.invokevirtual 61, 3) := by decide +kernel
theorem dX3_bestPlace_77 : decode cX3_bestPlace 77 = .ok (.istore 5, 2) := by decide +kernel
theorem dX3_bestPlace_79 : decode cX3_bestPlace 79 = .ok (.iload 5, 2) := by decide +kernel
theorem dX3_bestPlace_81 : decode cX3_bestPlace 81 = .ok (.iload_n 3, 1) := by decide +kernel
theorem dX3_bestPlace_82 : decode cX3_bestPlace 82 = .ok (.if_icmp .le 9, 3) := by decide +kernel
theorem dX3_bestPlace_85 : decode cX3_bestPlace 85 = .ok (.iload 5, 2) := by decide +kernel
theorem dX3_bestPlace_87 : decode cX3_bestPlace 87 = .ok (.istore_n 3, 1) := by decide +kernel
theorem dX3_bestPlace_88 : decode cX3_bestPlace 88 = .ok (.iload 4, 2) := by decide +kernel
theorem dX3_bestPlace_90 : decode cX3_bestPlace 90 = .ok (.istore_n 2, 1) := by decide +kernel
theorem dX3_bestPlace_91 : decode cX3_bestPlace 91 = .ok (.iinc 4 1, 3) := by decide +kernel
theorem dX3_bestPlace_94 : decode cX3_bestPlace 94 = .ok (.goto (-83), 3) := by decide +kernel
theorem dX3_bestPlace_97 : decode cX3_bestPlace 97 = .ok (.iload_n 2, 1) := by decide +kernel
theorem dX3_bestPlace_98 : decode cX3_bestPlace 98 = .ok (.ireturn, 1) := by decide +kernel
theorem dX3_bestPair_0 : decode cX3_bestPair 0 = .ok (.aload_n 0, 1) := by decide +kernel
theorem dX3_bestPair_1 : decode cX3_bestPair 1 = .ok (.invokevirtual 55, 3) := by decide +kernel
theorem dX3_bestPair_4 : decode cX3_bestPair 4 = .ok (.iconst 0, 1) := by decide +kernel
theorem dX3_bestPair_5 : decode cX3_bestPair 5 = .ok (.istore_n 1, 1) := by decide +kernel
theorem dX3_bestPair_6 : decode cX3_bestPair 6 = .ok (.iconst (-1), 1) := by decide +kernel
theorem dX3_bestPair_7 : decode cX3_bestPair 7 = .ok (.istore_n 2, 1) := by decide +kernel
theorem dX3_bestPair_8 : decode cX3_bestPair 8 = .ok (.iconst 0, 1) := by decide +kernel
theorem dX3_bestPair_9 : decode cX3_bestPair 9 = .ok (.istore_n 3, 1) := by decide +kernel
theorem dX3_bestPair_10 : decode cX3_bestPair 10 = .ok (.iload_n 3, 1) := by decide +kernel
theorem dX3_bestPair_11 : decode cX3_bestPair 11 = .ok (.bipush 80, 2) := by decide +kernel
theorem dX3_bestPair_13 : decode cX3_bestPair 13 = .ok (.if_icmp .ge 89, 3) := by decide +kernel
theorem dX3_bestPair_16 : decode cX3_bestPair 16 = .ok (.iconst 0, 1) := by decide +kernel
theorem dX3_bestPair_17 : decode cX3_bestPair 17 = .ok (.istore 4, 2) := by decide +kernel
theorem dX3_bestPair_19 : decode cX3_bestPair 19 = .ok (.iload 4, 2) := by decide +kernel
theorem dX3_bestPair_21 : decode cX3_bestPair 21 = .ok (.bipush 80, 2) := by decide +kernel
theorem dX3_bestPair_23 : decode cX3_bestPair 23 = .ok (.if_icmp .ge 73, 3) := by decide +kernel
theorem dX3_bestPair_26 : decode cX3_bestPair 26 = .ok (.iload_n 2, 1) := by decide +kernel
theorem dX3_bestPair_27 : decode cX3_bestPair 27 = .ok (.aload_n 0, 1) := by decide +kernel
theorem dX3_bestPair_28 : decode cX3_bestPair 28 = .ok (.getfield 15, 3) := by decide +kernel
theorem dX3_bestPair_31 : decode cX3_bestPair 31 = .ok (.if_icmp .ge 65, 3) := by decide +kernel
theorem dX3_bestPair_34 : decode cX3_bestPair 34 = .ok (.aload_n 0, 1) := by decide +kernel
theorem dX3_bestPair_35 : decode cX3_bestPair 35 = .ok (.getfield 23, 3) := by decide +kernel
theorem dX3_bestPair_38 : decode cX3_bestPair 38 = .ok (.iload_n 3, 1) := by decide +kernel
theorem dX3_bestPair_39 : decode cX3_bestPair 39 = .ok (.invokevirtual 47, 3) := by decide +kernel
theorem dX3_bestPair_42 : decode cX3_bestPair 42 = .ok (.ifCond .eq 54, 3) := by decide +kernel
theorem dX3_bestPair_45 : decode cX3_bestPair 45 = .ok (.aload_n 0, 1) := by decide +kernel
theorem dX3_bestPair_46 : decode cX3_bestPair 46 = .ok (.getfield 23, 3) := by decide +kernel
theorem dX3_bestPair_49 : decode cX3_bestPair 49 = .ok (.iload 4, 2) := by decide +kernel
theorem dX3_bestPair_51 : decode cX3_bestPair 51 = .ok (.invokevirtual 47, 3) := by decide +kernel
theorem dX3_bestPair_54 : decode cX3_bestPair 54 = .ok (.ifCond .eq 16, 3) := by decide +kernel
theorem dX3_bestPair_57 : decode cX3_bestPair 57 = .ok (.aload_n 0, 1) := by decide +kernel
theorem dX3_bestPair_58 : decode cX3_bestPair 58 = .ok (.getfield 31, 3) := by decide +kernel
theorem dX3_bestPair_61 : decode cX3_bestPair 61 = .ok (.iload_n 3, 1) := by decide +kernel
theorem dX3_bestPair_62 : decode cX3_bestPair 62 = .ok (.iload 4, 2) := by decide +kernel
theorem dX3_bestPair_64 : decode cX3_bestPair 64 = .ok (.invokevirtual 61, 3) := by decide +kernel
theorem dX3_bestPair_67 : decode cX3_bestPair 67 = .ok (.goto 4, 3) := by decide +kernel
theorem dX3_bestPair_70 : decode cX3_bestPair 70 = .ok (.iconst (-1), 1) := by decide +kernel
theorem dX3_bestPair_71 : decode cX3_bestPair 71 = .ok (.istore 5, 2) := by decide +kernel
theorem dX3_bestPair_73 : decode cX3_bestPair 73 = .ok (.iload 5, 2) := by decide +kernel
theorem dX3_bestPair_75 : decode cX3_bestPair 75 = .ok (.iload_n 2, 1) := by decide +kernel
theorem dX3_bestPair_76 : decode cX3_bestPair 76 = .ok (.if_icmp .le 14, 3) := by decide +kernel
theorem dX3_bestPair_79 : decode cX3_bestPair 79 = .ok (.iload 5, 2) := by decide +kernel
theorem dX3_bestPair_81 : decode cX3_bestPair 81 = .ok (.istore_n 2, 1) := by decide +kernel
theorem dX3_bestPair_82 : decode cX3_bestPair 82 = .ok (.bipush 100, 2) := by decide +kernel
theorem dX3_bestPair_84 : decode cX3_bestPair 84 = .ok (.iload_n 3, 1) := by decide +kernel
theorem dX3_bestPair_85 : decode cX3_bestPair 85 = .ok (.imul, 1) := by decide +kernel
theorem dX3_bestPair_86 : decode cX3_bestPair 86 = .ok (.iload 4, 2) := by decide +kernel
theorem dX3_bestPair_88 : decode cX3_bestPair 88 = .ok (.iadd, 1) := by decide +kernel
theorem dX3_bestPair_89 : decode cX3_bestPair 89 = .ok (.istore_n 1, 1) := by decide +kernel
theorem dX3_bestPair_90 : decode cX3_bestPair 90 = .ok (.iinc 4 1, 3) := by decide +kernel
theorem dX3_bestPair_93 : decode cX3_bestPair 93 = .ok (.goto (-74), 3) := by decide +kernel
theorem dX3_bestPair_96 : decode cX3_bestPair 96 = .ok (.iinc 3 1, 3) := by decide +kernel
theorem dX3_bestPair_99 : decode cX3_bestPair 99 = .ok (.goto (-89), 3) := by decide +kernel
theorem dX3_bestPair_102 : decode cX3_bestPair 102 = .ok (.iload_n 1, 1) := by decide +kernel
theorem dX3_bestPair_103 : decode cX3_bestPair 103 = .ok (.ireturn, 1) := by decide +kernel
theorem dX3_bestAway_0 : decode cX3_bestAway 0 = .ok (.iconst (-1), 1) := by decide +kernel
theorem dX3_bestAway_1 : decode cX3_bestAway 1 = .ok (.istore_n 1, 1) := by decide +kernel
theorem dX3_bestAway_2 : decode cX3_bestAway 2 = .ok (.iconst (-1), 1) := by decide +kernel
theorem dX3_bestAway_3 : decode cX3_bestAway 3 = .ok (.istore_n 2, 1) := by decide +kernel
theorem dX3_bestAway_4 : decode cX3_bestAway 4 = .ok (.iconst 0, 1) := by decide +kernel
theorem dX3_bestAway_5 : decode cX3_bestAway 5 = .ok (.istore_n 3, 1) := by decide +kernel
theorem dX3_bestAway_6 : decode cX3_bestAway 6 = .ok (.iload_n 3, 1) := by decide +kernel
theorem dX3_bestAway_7 : decode cX3_bestAway 7 = .ok (.aload_n 0, 1) := by decide +kernel
theorem dX3_bestAway_8 : decode cX3_bestAway 8 = .ok (.getfield 23, 3) := by decide +kernel
theorem dX3_bestAway_11 : decode cX3_bestAway 11 = .ok (.getfield 68, 3) := by decide +kernel
theorem dX3_bestAway_14 : decode cX3_bestAway 14 = .ok (.if_icmp .ge 93, 3) := by decide +kernel
theorem dX3_bestAway_17 : decode cX3_bestAway 17 = .ok (.iload_n 2, 1) := by decide +kernel
theorem dX3_bestAway_18 : decode cX3_bestAway 18 = .ok (.aload_n 0, 1) := by decide +kernel
theorem dX3_bestAway_19 : decode cX3_bestAway 19 = .ok (.getfield 15, 3) := by decide +kernel
theorem dX3_bestAway_22 : decode cX3_bestAway 22 = .ok (.if_icmp .ge 85, 3) := by decide +kernel
theorem dX3_bestAway_25 : decode cX3_bestAway 25 = .ok (.aload_n 0, 1) := by decide +kernel
theorem dX3_bestAway_26 : decode cX3_bestAway 26 = .ok (.getfield 23, 3) := by decide +kernel
theorem dX3_bestAway_29 : decode cX3_bestAway 29 = .ok (.iload_n 3, 1) := by decide +kernel
theorem dX3_bestAway_30 : decode cX3_bestAway 30 = .ok (.invokevirtual 71, 3) := by decide +kernel
theorem dX3_bestAway_33 : decode cX3_bestAway 33 = .ok (.astore 4, 2) := by decide +kernel
theorem dX3_bestAway_35 : decode cX3_bestAway 35 = .ok (.aload_n 0, 1) := by decide +kernel
theorem dX3_bestAway_36 : decode cX3_bestAway 36 = .ok (.getfield 19, 3) := by decide +kernel
theorem dX3_bestAway_39 : decode cX3_bestAway 39 = .ok (.iload_n 3, 1) := by decide +kernel
theorem dX3_bestAway_40 : decode cX3_bestAway 40 = .ok (.invokevirtual 71, 3) := by decide +kernel
theorem dX3_bestAway_43 : decode cX3_bestAway 43 = .ok (.astore 5, 2) := by decide +kernel
theorem dX3_bestAway_45 : decode cX3_bestAway 45 = .ok (.aload 4, 2) := by decide +kernel
theorem dX3_bestAway_47 : decode cX3_bestAway 47 = .ok (.ifnull 54, 3) := by decide +kernel
theorem dX3_bestAway_50 : decode cX3_bestAway 50 = .ok (.aload 5, 2) := by decide +kernel
theorem dX3_bestAway_52 : decode cX3_bestAway 52 = .ok (.ifnull 49, 3) := by decide +kernel
theorem dX3_bestAway_55 : decode cX3_bestAway 55 = .ok (.aload 4, 2) := by decide +kernel
theorem dX3_bestAway_57 : decode cX3_bestAway 57 = .ok (.iconst 0, 1) := by decide +kernel
theorem dX3_bestAway_58 : decode cX3_bestAway 58 = .ok (.putfield 75, 3) := by decide +kernel
theorem dX3_bestAway_61 : decode cX3_bestAway 61 = .ok (.aload 4, 2) := by decide +kernel
theorem dX3_bestAway_63 : decode cX3_bestAway 63 = .ok (.iconst 0, 1) := by decide +kernel
theorem dX3_bestAway_64 : decode cX3_bestAway 64 = .ok (.putfield 80, 3) := by decide +kernel
theorem dX3_bestAway_67 : decode cX3_bestAway 67 = .ok (.aload_n 0, 1) := by decide +kernel
theorem dX3_bestAway_68 : decode cX3_bestAway 68 = .ok (.getfield 31, 3) := by decide +kernel
theorem dX3_bestAway_71 : decode cX3_bestAway 71 = .ok (.invokevirtual 40, 3) := by decide +kernel
theorem dX3_bestAway_74 : decode cX3_bestAway 74 = .ok (.aload_n 0, 1) := by decide +kernel
theorem dX3_bestAway_75 : decode cX3_bestAway 75 = .ok (.getfield 31, 3) := by decide +kernel
theorem dX3_bestAway_78 : decode cX3_bestAway 78 = .ok (.invokevirtual 83, 3) := by decide +kernel
theorem dX3_bestAway_81 : decode cX3_bestAway 81 = .ok (.istore 6, 2) := by decide +kernel
theorem dX3_bestAway_83 : decode cX3_bestAway 83 = .ok (.aload 4, 2) := by decide +kernel
theorem dX3_bestAway_85 : decode cX3_bestAway 85 = .ok (.aload 5, 2) := by decide +kernel
theorem dX3_bestAway_87 : decode cX3_bestAway 87 = .ok (.invokevirtual 86, 3) := by decide +kernel
theorem dX3_bestAway_90 : decode cX3_bestAway 90 = .ok (.iload 6, 2) := by decide +kernel
theorem dX3_bestAway_92 : decode cX3_bestAway 92 = .ok (.iload_n 2, 1) := by decide +kernel
theorem dX3_bestAway_93 : decode cX3_bestAway 93 = .ok (.if_icmp .le 8, 3) := by decide +kernel
theorem dX3_bestAway_96 : decode cX3_bestAway 96 = .ok (.iload 6, 2) := by decide +kernel
theorem dX3_bestAway_98 : decode cX3_bestAway 98 = .ok (.istore_n 2, 1) := by decide +kernel
theorem dX3_bestAway_99 : decode cX3_bestAway 99 = .ok (.iload_n 3, 1) := by decide +kernel
theorem dX3_bestAway_100 : decode cX3_bestAway 100 = .ok (.istore_n 1, 1) := by decide +kernel
theorem dX3_bestAway_101 : decode cX3_bestAway 101 = .ok (.iinc 3 1, 3) := by decide +kernel
theorem dX3_bestAway_104 : decode cX3_bestAway 104 = .ok (.goto (-98), 3) := by decide +kernel
theorem dX3_bestAway_107 : decode cX3_bestAway 107 = .ok (.iload_n 1, 1) := by decide +kernel
theorem dX3_bestAway_108 : decode cX3_bestAway 108 = .ok (.ireturn, 1) := by decide +kernel
theorem dX3_bestDoors_0 : decode cX3_bestDoors 0 = .ok (.aload_n 0, 1) := by decide +kernel
theorem dX3_bestDoors_1 : decode cX3_bestDoors 1 = .ok (.invokevirtual 89, 3) := by decide +kernel
theorem dX3_bestDoors_4 : decode cX3_bestDoors 4 = .ok (.istore_n 1, 1) := by decide +kernel
theorem dX3_bestDoors_5 : decode cX3_bestDoors 5 = .ok (.iconst 0, 1) := by decide +kernel
theorem dX3_bestDoors_6 : decode cX3_bestDoors 6 = .ok (.istore_n 2, 1) := by decide +kernel
theorem dX3_bestDoors_7 : decode cX3_bestDoors 7 = .ok (.iconst (-1), 1) := by decide +kernel
theorem dX3_bestDoors_8 : decode cX3_bestDoors 8 = .ok (.istore_n 3, 1) := by decide +kernel
theorem dX3_bestDoors_9 : decode cX3_bestDoors 9 = .ok (.iconst 0, 1) := by decide +kernel
theorem dX3_bestDoors_10 : decode cX3_bestDoors 10 = .ok (.istore 4, 2) := by decide +kernel
theorem dX3_bestDoors_12 : decode cX3_bestDoors 12 = .ok (.iload 4, 2) := by decide +kernel
theorem dX3_bestDoors_14 : decode cX3_bestDoors 14 = .ok (.iconst 1, 1) := by decide +kernel
theorem dX3_bestDoors_15 : decode cX3_bestDoors 15 = .ok (.iload_n 1, 1) := by decide +kernel
theorem dX3_bestDoors_16 : decode cX3_bestDoors 16 = .ok (.ishl, 1) := by decide +kernel
theorem dX3_bestDoors_17 : decode cX3_bestDoors 17 = .ok (.if_icmp .ge 112, 3) := by decide +kernel
theorem dX3_bestDoors_20 : decode cX3_bestDoors 20 = .ok (.iload_n 3, 1) := by decide +kernel
theorem dX3_bestDoors_21 : decode cX3_bestDoors 21 = .ok (.aload_n 0, 1) := by decide +kernel
theorem dX3_bestDoors_22 : decode cX3_bestDoors 22 = .ok (.getfield 15, 3) := by decide +kernel
theorem dX3_bestDoors_25 : decode cX3_bestDoors 25 = .ok (.if_icmp .ge 104, 3) := by decide +kernel
theorem dX3_bestDoors_28 : decode cX3_bestDoors 28 = .ok (.iconst 0, 1) := by decide +kernel
theorem dX3_bestDoors_29 : decode cX3_bestDoors 29 = .ok (.istore 5, 2) := by decide +kernel
theorem dX3_bestDoors_31 : decode cX3_bestDoors 31 = .ok (.iload 5, 2) := by decide +kernel
theorem dX3_bestDoors_33 : decode cX3_bestDoors 33 = .ok (.iload_n 1, 1) := by decide +kernel
theorem dX3_bestDoors_34 : decode cX3_bestDoors 34 = .ok (.if_icmp .ge 61, 3) := by decide +kernel
theorem dX3_bestDoors_37 : decode cX3_bestDoors 37 = .ok (.iload 5, 2) := by decide +kernel
theorem dX3_bestDoors_39 : decode cX3_bestDoors 39 = .ok (.aload_n 0, 1) := by decide +kernel
theorem dX3_bestDoors_40 : decode cX3_bestDoors 40 = .ok (.getfield 9, 3) := by decide +kernel
theorem dX3_bestDoors_43 : decode cX3_bestDoors 43 = .ok (.arraylength, 1) := by decide +kernel
theorem dX3_bestDoors_44 : decode cX3_bestDoors 44 = .ok (.if_icmp .ge 51, 3) := by decide +kernel
theorem dX3_bestDoors_47 : decode cX3_bestDoors 47 = .ok (.aload_n 0, 1) := by decide +kernel
theorem dX3_bestDoors_48 : decode cX3_bestDoors 48 = .ok (.getfield 23, 3) := by decide +kernel
theorem dX3_bestDoors_51 : decode cX3_bestDoors 51 = .ok (.aload_n 0, 1) := by decide +kernel
theorem dX3_bestDoors_52 : decode cX3_bestDoors 52 = .ok (.getfield 9, 3) := by decide +kernel
theorem dX3_bestDoors_55 : decode cX3_bestDoors 55 = .ok (.iload 5, 2) := by decide +kernel
theorem dX3_bestDoors_57 : decode cX3_bestDoors 57 = .ok (.iaload, 1) := by decide +kernel
theorem dX3_bestDoors_58 : decode cX3_bestDoors 58 = .ok (.invokevirtual 71, 3) := by decide +kernel
theorem dX3_bestDoors_61 : decode cX3_bestDoors 61 = .ok (.astore 6, 2) := by decide +kernel
theorem dX3_bestDoors_63 : decode cX3_bestDoors 63 = .ok (.aload 6, 2) := by decide +kernel
theorem dX3_bestDoors_65 : decode cX3_bestDoors 65 = .ok (.ifnull 24, 3) := by decide +kernel
theorem dX3_bestDoors_68 : decode cX3_bestDoors 68 = .ok (.aload 6, 2) := by decide +kernel
theorem dX3_bestDoors_70 : decode cX3_bestDoors 70 = .ok (.iload 4, 2) := by decide +kernel
theorem dX3_bestDoors_72 : decode cX3_bestDoors 72 = .ok (.iload 5, 2) := by decide +kernel
theorem dX3_bestDoors_74 : decode cX3_bestDoors 74 = .ok (.ishr, 1) := by decide +kernel
theorem dX3_bestDoors_75 : decode cX3_bestDoors 75 = .ok (.iconst 1, 1) := by decide +kernel
theorem dX3_bestDoors_76 : decode cX3_bestDoors 76 = .ok (.iand, 1) := by decide +kernel
theorem dX3_bestDoors_77 : decode cX3_bestDoors 77 = .ok (.iconst 1, 1) := by decide +kernel
theorem dX3_bestDoors_78 : decode cX3_bestDoors 78 = .ok (.if_icmp .ne 7, 3) := by decide +kernel
theorem dX3_bestDoors_81 : decode cX3_bestDoors 81 = .ok (.iconst 1, 1) := by decide +kernel
theorem dX3_bestDoors_82 : decode cX3_bestDoors 82 = .ok (.goto 4, 3) := by decide +kernel
theorem dX3_bestDoors_85 : decode cX3_bestDoors 85 = .ok (.iconst 0, 1) := by decide +kernel
theorem dX3_bestDoors_86 : decode cX3_bestDoors 86 = .ok (.putfield 92, 3) := by decide +kernel
theorem dX3_bestDoors_89 : decode cX3_bestDoors 89 = .ok (.iinc 5 1, 3) := by decide +kernel
theorem dX3_bestDoors_92 : decode cX3_bestDoors 92 = .ok (.goto (-61), 3) := by decide +kernel
theorem dX3_bestDoors_95 : decode cX3_bestDoors 95 = .ok (.aload_n 0, 1) := by decide +kernel
theorem dX3_bestDoors_96 : decode cX3_bestDoors 96 = .ok (.getfield 31, 3) := by decide +kernel
theorem dX3_bestDoors_99 : decode cX3_bestDoors 99 = .ok (.invokevirtual 96, 3) := by decide +kernel
theorem dX3_bestDoors_102 : decode cX3_bestDoors 102 = .ok (.aload_n 0, 1) := by decide +kernel
theorem dX3_bestDoors_103 : decode cX3_bestDoors 103 = .ok (.getfield 31, 3) := by decide +kernel
theorem dX3_bestDoors_106 : decode cX3_bestDoors 106 = .ok (.invokevirtual 83, 3) := by decide +kernel
theorem dX3_bestDoors_109 : decode cX3_bestDoors 109 = .ok (.istore 5, 2) := by decide +kernel
theorem dX3_bestDoors_111 : decode cX3_bestDoors 111 = .ok (.iload 5, 2) := by decide +kernel
theorem dX3_bestDoors_113 : decode cX3_bestDoors 113 = .ok (.iload_n 3, 1) := by decide +kernel
theorem dX3_bestDoors_114 : decode cX3_bestDoors 114 = .ok (.if_icmp .le 9, 3) := by decide +kernel
theorem dX3_bestDoors_117 : decode cX3_bestDoors 117 = .ok (.iload 5, 2) := by decide +kernel
theorem dX3_bestDoors_119 : decode cX3_bestDoors 119 = .ok (.istore_n 3, 1) := by decide +kernel
theorem dX3_bestDoors_120 : decode cX3_bestDoors 120 = .ok (.iload 4, 2) := by decide +kernel
theorem dX3_bestDoors_122 : decode cX3_bestDoors 122 = .ok (.istore_n 2, 1) := by decide +kernel
theorem dX3_bestDoors_123 : decode cX3_bestDoors 123 = .ok (.iinc 4 1, 3) := by decide +kernel
theorem dX3_bestDoors_126 : decode cX3_bestDoors 126 = .ok (.goto (-114), 3) := by decide +kernel
theorem dX3_bestDoors_129 : decode cX3_bestDoors 129 = .ok (.iload_n 2, 1) := by decide +kernel
theorem dX3_bestDoors_130 : decode cX3_bestDoors 130 = .ok (.ireturn, 1) := by decide +kernel
theorem dX3_findDoors_0 : decode cX3_findDoors 0 = .ok (.iconst 0, 1) := by decide +kernel
theorem dX3_findDoors_1 : decode cX3_findDoors 1 = .ok (.istore_n 1, 1) := by decide +kernel
theorem dX3_findDoors_2 : decode cX3_findDoors 2 = .ok (.iconst 0, 1) := by decide +kernel
theorem dX3_findDoors_3 : decode cX3_findDoors 3 = .ok (.istore_n 2, 1) := by decide +kernel
theorem dX3_findDoors_4 : decode cX3_findDoors 4 = .ok (.iload_n 2, 1) := by decide +kernel
theorem dX3_findDoors_5 : decode cX3_findDoors 5 = .ok (.aload_n 0, 1) := by decide +kernel
theorem dX3_findDoors_6 : decode cX3_findDoors 6 = .ok (.getfield 23, 3) := by decide +kernel
theorem dX3_findDoors_9 : decode cX3_findDoors 9 = .ok (.getfield 68, 3) := by decide +kernel
theorem dX3_findDoors_12 : decode cX3_findDoors 12 = .ok (.if_icmp .ge 49, 3) := by decide +kernel
theorem dX3_findDoors_15 : decode cX3_findDoors 15 = .ok (.iload_n 1, 1) := by decide +kernel
theorem dX3_findDoors_16 : decode cX3_findDoors 16 = .ok (.aload_n 0, 1) := by decide +kernel
theorem dX3_findDoors_17 : decode cX3_findDoors 17 = .ok (.getfield 9, 3) := by decide +kernel
theorem dX3_findDoors_20 : decode cX3_findDoors 20 = .ok (.arraylength, 1) := by decide +kernel
theorem dX3_findDoors_21 : decode cX3_findDoors 21 = .ok (.if_icmp .ge 40, 3) := by decide +kernel
theorem dX3_findDoors_24 : decode cX3_findDoors 24 = .ok (.aload_n 0, 1) := by decide +kernel
theorem dX3_findDoors_25 : decode cX3_findDoors 25 = .ok (.getfield 23, 3) := by decide +kernel
theorem dX3_findDoors_28 : decode cX3_findDoors 28 = .ok (.iload_n 2, 1) := by decide +kernel
theorem dX3_findDoors_29 : decode cX3_findDoors 29 = .ok (.invokevirtual 71, 3) := by decide +kernel
theorem dX3_findDoors_32 : decode cX3_findDoors 32 = .ok (.astore_n 3, 1) := by decide +kernel
theorem dX3_findDoors_33 : decode cX3_findDoors 33 = .ok (.aload_n 3, 1) := by decide +kernel
theorem dX3_findDoors_34 : decode cX3_findDoors 34 = .ok (.ifnull 21, 3) := by decide +kernel
theorem dX3_findDoors_37 : decode cX3_findDoors 37 = .ok (.aload_n 3, 1) := by decide +kernel
theorem dX3_findDoors_38 : decode cX3_findDoors 38 = .ok (.iconst 2, 1) := by decide +kernel
theorem dX3_findDoors_39 : decode cX3_findDoors 39 = .ok (.invokevirtual 99, 3) := by decide +kernel
theorem dX3_findDoors_42 : decode cX3_findDoors 42 = .ok (.ifCond .eq 13, 3) := by decide +kernel
theorem dX3_findDoors_45 : decode cX3_findDoors 45 = .ok (.aload_n 0, 1) := by decide +kernel
theorem dX3_findDoors_46 : decode cX3_findDoors 46 = .ok (.getfield 9, 3) := by decide +kernel
theorem dX3_findDoors_49 : decode cX3_findDoors 49 = .ok (.iload_n 1, 1) := by decide +kernel
theorem dX3_findDoors_50 : decode cX3_findDoors 50 = .ok (.iload_n 2, 1) := by decide +kernel
theorem dX3_findDoors_51 : decode cX3_findDoors 51 = .ok (.iastore, 1) := by decide +kernel
theorem dX3_findDoors_52 : decode cX3_findDoors 52 = .ok (.iinc 1 1, 3) := by decide +kernel
theorem dX3_findDoors_55 : decode cX3_findDoors 55 = .ok (.iinc 2 1, 3) := by decide +kernel
theorem dX3_findDoors_58 : decode cX3_findDoors 58 = .ok (.goto (-54), 3) := by decide +kernel
theorem dX3_findDoors_61 : decode cX3_findDoors 61 = .ok (.iload_n 1, 1) := by decide +kernel
theorem dX3_findDoors_62 : decode cX3_findDoors 62 = .ok (.ireturn, 1) := by decide +kernel
theorem dX3_bestMinute_0 : decode cX3_bestMinute 0 = .ok (.aload_n 0, 1) := by decide +kernel
theorem dX3_bestMinute_1 : decode cX3_bestMinute 1 = .ok (.getfield 23, 3) := by decide +kernel
theorem dX3_bestMinute_4 : decode cX3_bestMinute 4 = .ok (.getfield 102, 3) := by decide +kernel
theorem dX3_bestMinute_7 : decode cX3_bestMinute 7 = .ok (.istore_n 1, 1) := by decide +kernel
theorem dX3_bestMinute_8 : decode cX3_bestMinute 8 = .ok (.iload_n 1, 1) := by decide +kernel
theorem dX3_bestMinute_9 : decode cX3_bestMinute 9 = .ok (.istore_n 2, 1) := by decide +kernel
theorem dX3_bestMinute_10 : decode cX3_bestMinute 10 = .ok (.iconst (-1), 1) := by decide +kernel
theorem dX3_bestMinute_11 : decode cX3_bestMinute 11 = .ok (.istore_n 3, 1) := by decide +kernel
theorem dX3_bestMinute_12 : decode cX3_bestMinute 12 = .ok (.iconst 0, 1) := by decide +kernel
theorem dX3_bestMinute_13 : decode cX3_bestMinute 13 = .ok (.istore 4, 2) := by decide +kernel
theorem dX3_bestMinute_15 : decode cX3_bestMinute 15 = .ok (.iload 4, 2) := by decide +kernel
theorem dX3_bestMinute_17 : decode cX3_bestMinute 17 = .ok (.bipush 60, 2) := by decide +kernel
theorem dX3_bestMinute_19 : decode cX3_bestMinute 19 = .ok (.if_icmp .ge 64, 3) := by decide +kernel
theorem dX3_bestMinute_22 : decode cX3_bestMinute 22 = .ok (.iload_n 3, 1) := by decide +kernel
theorem dX3_bestMinute_23 : decode cX3_bestMinute 23 = .ok (.aload_n 0, 1) := by decide +kernel
theorem dX3_bestMinute_24 : decode cX3_bestMinute 24 = .ok (.getfield 15, 3) := by decide +kernel
theorem dX3_bestMinute_27 : decode cX3_bestMinute 27 = .ok (.if_icmp .ge 56, 3) := by decide +kernel
theorem dX3_bestMinute_30 : decode cX3_bestMinute 30 = .ok (.aload_n 0, 1) := by decide +kernel
theorem dX3_bestMinute_31 : decode cX3_bestMinute 31 = .ok (.getfield 23, 3) := by decide +kernel
theorem dX3_bestMinute_34 : decode cX3_bestMinute 34 = .ok (.iload_n 1, 1) := by decide +kernel
theorem dX3_bestMinute_35 : decode cX3_bestMinute 35 = .ok (.iload 4, 2) := by decide +kernel
theorem dX3_bestMinute_37 : decode cX3_bestMinute 37 = .ok (.iadd, 1) := by decide +kernel
theorem dX3_bestMinute_38 : decode cX3_bestMinute 38 = .ok (.bipush 60, 2) := by decide +kernel
theorem dX3_bestMinute_40 : decode cX3_bestMinute 40 = .ok (.irem, 1) := by decide +kernel
theorem dX3_bestMinute_41 : decode cX3_bestMinute 41 = .ok (.putfield 102, 3) := by decide +kernel
theorem dX3_bestMinute_44 : decode cX3_bestMinute 44 = .ok (.aload_n 0, 1) := by decide +kernel
theorem dX3_bestMinute_45 : decode cX3_bestMinute 45 = .ok (.getfield 31, 3) := by decide +kernel
theorem dX3_bestMinute_48 : decode cX3_bestMinute 48 = .ok (.invokevirtual 105, 3) := by decide +kernel
theorem dX3_bestMinute_51 : decode cX3_bestMinute 51 = .ok (.aload_n 0, 1) := by decide +kernel
theorem dX3_bestMinute_52 : decode cX3_bestMinute 52 = .ok (.getfield 31, 3) := by decide +kernel
theorem dX3_bestMinute_55 : decode cX3_bestMinute 55 = .ok (.invokevirtual 83, 3) := by decide +kernel
theorem dX3_bestMinute_58 : decode cX3_bestMinute 58 = .ok (.istore 5, 2) := by decide +kernel
theorem dX3_bestMinute_60 : decode cX3_bestMinute 60 = .ok (.iload 5, 2) := by decide +kernel
theorem dX3_bestMinute_62 : decode cX3_bestMinute 62 = .ok (.iload_n 3, 1) := by decide +kernel
theorem dX3_bestMinute_63 : decode cX3_bestMinute 63 = .ok (.if_icmp .le 14, 3) := by decide +kernel
theorem dX3_bestMinute_66 : decode cX3_bestMinute 66 = .ok (.iload 5, 2) := by decide +kernel
theorem dX3_bestMinute_68 : decode cX3_bestMinute 68 = .ok (.istore_n 3, 1) := by decide +kernel
theorem dX3_bestMinute_69 : decode cX3_bestMinute 69 = .ok (.aload_n 0, 1) := by decide +kernel
theorem dX3_bestMinute_70 : decode cX3_bestMinute 70 = .ok (.getfield 23, 3) := by decide +kernel
theorem dX3_bestMinute_73 : decode cX3_bestMinute 73 = .ok (.getfield 102, 3) := by decide +kernel
theorem dX3_bestMinute_76 : decode cX3_bestMinute 76 = .ok (.istore_n 2, 1) := by decide +kernel
theorem dX3_bestMinute_77 : decode cX3_bestMinute 77 = .ok (.iinc 4 1, 3) := by decide +kernel
theorem dX3_bestMinute_80 : decode cX3_bestMinute 80 = .ok (.goto (-65), 3) := by decide +kernel
theorem dX3_bestMinute_83 : decode cX3_bestMinute 83 = .ok (.iload_n 2, 1) := by decide +kernel
theorem dX3_bestMinute_84 : decode cX3_bestMinute 84 = .ok (.ireturn, 1) := by decide +kernel
theorem dX4_init_0 : decode cX4_init 0 = .ok (.aload_n 0, 1) := by decide +kernel
theorem dX4_init_1 : decode cX4_init 1 = .ok (.invokespecial 3, 3) := by decide +kernel
theorem dX4_init_4 : decode cX4_init 4 = .ok (.aload_n 0, 1) := by decide +kernel
theorem dX4_init_5 : decode cX4_init 5 = .ok (.iconst 0, 1) := by decide +kernel
theorem dX4_init_6 : decode cX4_init 6 = .ok (.putfield 9, 3) := by decide +kernel
theorem dX4_init_9 : decode cX4_init 9 = .ok (.aload_n 0, 1) := by decide +kernel
theorem dX4_init_10 : decode cX4_init 10 = .ok (.iconst 0, 1) := by decide +kernel
theorem dX4_init_11 : decode cX4_init 11 = .ok (.putfield 15, 3) := by decide +kernel
theorem dX4_init_14 : decode cX4_init 14 = .ok (.aload_n 0, 1) := by decide +kernel
theorem dX4_init_15 : decode cX4_init 15 = .ok (.iconst 0, 1) := by decide +kernel
theorem dX4_init_16 : decode cX4_init 16 = .ok (.putfield 18, 3) := by decide +kernel
theorem dX4_init_19 : decode cX4_init 19 = .ok (.aload_n 0, 1) := by decide +kernel
theorem dX4_init_20 : decode cX4_init 20 = .ok (.iconst 0, 1) := by decide +kernel
theorem dX4_init_21 : decode cX4_init 21 = .ok (.putfield 21, 3) := by decide +kernel
theorem dX4_init_24 : decode cX4_init 24 = .ok (.aload_n 0, 1) := by decide +kernel
theorem dX4_init_25 : decode cX4_init 25 = .ok (.bipush 20, 2) := by decide +kernel
theorem dX4_init_27 : decode cX4_init 27 = .ok (.newarray .int, 2) := by decide +kernel
theorem dX4_init_29 : decode cX4_init 29 = .ok (.putfield 24, 3) := by decide +kernel
theorem dX4_init_32 : decode cX4_init 32 = .ok (.return_, 1) := by decide +kernel
theorem dX4_clear_0 : decode cX4_clear 0 = .ok (.aload_n 0, 1) := by decide +kernel
theorem dX4_clear_1 : decode cX4_clear 1 = .ok (.iconst 0, 1) := by decide +kernel
theorem dX4_clear_2 : decode cX4_clear 2 = .ok (.putfield 21, 3) := by decide +kernel
theorem dX4_clear_5 : decode cX4_clear 5 = .ok (.return_, 1) := by decide +kernel
theorem dX4_cast_0 : decode cX4_cast 0 = .ok (.aload_n 1, 1) := by decide +kernel
theorem dX4_cast_1 : decode cX4_cast 1 = .ok (.ifnull 24, 3) := by decide +kernel
theorem dX4_cast_4 : decode cX4_cast 4 = .ok (.aload_n 0, 1) := by decide +kernel
theorem dX4_cast_5 : decode cX4_cast 5 = .ok (.aload_n 1, 1) := by decide +kernel
theorem dX4_cast_6 : decode cX4_cast 6 = .ok (.getfield 28, 3) := by decide +kernel
theorem dX4_cast_9 : decode cX4_cast 9 = .ok (.putfield 9, 3) := by decide +kernel
theorem dX4_cast_12 : decode cX4_cast 12 = .ok (.aload_n 0, 1) := by decide +kernel
theorem dX4_cast_13 : decode cX4_cast 13 = .ok (.aload_n 1, 1) := by decide +kernel
theorem dX4_cast_14 : decode cX4_cast 14 = .ok (.getfield 31, 3) := by decide +kernel
theorem dX4_cast_17 : decode cX4_cast 17 = .ok (.putfield 15, 3) := by decide +kernel
theorem dX4_cast_20 : decode cX4_cast 20 = .ok (.aload_n 0, 1) := by decide +kernel
theorem dX4_cast_21 : decode cX4_cast 21 = .ok (.iload_n 2, 1) := by decide +kernel
theorem dX4_cast_22 : decode cX4_cast 22 = .ok (.putfield 18, 3) := by decide +kernel
theorem dX4_cast_25 : decode cX4_cast 25 = .ok (.return_, 1) := by decide +kernel
theorem dX4_note_0 : decode cX4_note 0 = .ok (.aload_n 0, 1) := by decide +kernel
theorem dX4_note_1 : decode cX4_note 1 = .ok (.getfield 21, 3) := by decide +kernel
theorem dX4_note_4 : decode cX4_note 4 = .ok (.ifCond .lt 25, 3) := by decide +kernel
theorem dX4_note_7 : decode cX4_note 7 = .ok (.aload_n 0, 1) := by decide +kernel
theorem dX4_note_8 : decode cX4_note 8 = .ok (.getfield 21, 3) := by decide +kernel
theorem dX4_note_11 : decode cX4_note 11 = .ok (.aload_n 0, 1) := by decide +kernel
theorem dX4_note_12 : decode cX4_note 12 = .ok (.getfield 24, 3) := by decide +kernel
theorem dX4_note_15 : decode cX4_note 15 = .ok (.arraylength, 1) := by decide +kernel
theorem dX4_note_16 : decode cX4_note 16 = .ok (.if_icmp .ge 13, 3) := by decide +kernel
theorem dX4_note_19 : decode cX4_note 19 = .ok (.aload_n 0, 1) := by decide +kernel
theorem dX4_note_20 : decode cX4_note 20 = .ok (.getfield 24, 3) := by decide +kernel
theorem dX4_note_23 : decode cX4_note 23 = .ok (.aload_n 0, 1) := by decide +kernel
theorem dX4_note_24 : decode cX4_note 24 = .ok (.getfield 21, 3) := by decide +kernel
theorem dX4_note_27 : decode cX4_note 27 = .ok (.iload_n 1, 1) := by decide +kernel
theorem dX4_note_28 : decode cX4_note 28 = .ok (.iastore, 1) := by decide +kernel
theorem dX4_note_29 : decode cX4_note 29 = .ok (.aload_n 0, 1) := by decide +kernel
theorem dX4_note_30 : decode cX4_note 30 = .ok (.dup, 1) := by decide +kernel
theorem dX4_note_31 : decode cX4_note 31 = .ok (.getfield 21, 3) := by decide +kernel
theorem dX4_note_34 : decode cX4_note 34 = .ok (.iconst 1, 1) := by decide +kernel
theorem dX4_note_35 : decode cX4_note 35 = .ok (.iadd, 1) := by decide +kernel
theorem dX4_note_36 : decode cX4_note 36 = .ok (.putfield 21, 3) := by decide +kernel
theorem dX4_note_39 : decode cX4_note 39 = .ok (.return_, 1) := by decide +kernel
theorem dX4_bodyAt_0 : decode cX4_bodyAt 0 = .ok (.iload_n 1, 1) := by decide +kernel
theorem dX4_bodyAt_1 : decode cX4_bodyAt 1 = .ok (.ifCond .lt 29, 3) := by decide +kernel
theorem dX4_bodyAt_4 : decode cX4_bodyAt 4 = .ok (.iload_n 1, 1) := by decide +kernel
theorem dX4_bodyAt_5 : decode cX4_bodyAt 5 = .ok (.aload_n 0, 1) := by decide +kernel
theorem dX4_bodyAt_6 : decode cX4_bodyAt 6 = .ok (.getfield 21, 3) := by decide +kernel
theorem dX4_bodyAt_9 : decode cX4_bodyAt 9 = .ok (.if_icmp .ge 21, 3) := by decide +kernel
theorem dX4_bodyAt_12 : decode cX4_bodyAt 12 = .ok (.iload_n 1, 1) := by decide +kernel
theorem dX4_bodyAt_13 : decode cX4_bodyAt 13 = .ok (.aload_n 0, 1) := by decide +kernel
theorem dX4_bodyAt_14 : decode cX4_bodyAt 14 = .ok (.getfield 24, 3) := by decide +kernel
theorem dX4_bodyAt_17 : decode cX4_bodyAt 17 = .ok (.arraylength, 1) := by decide +kernel
theorem dX4_bodyAt_18 : decode cX4_bodyAt 18 = .ok (.if_icmp .ge 12, 3) := by decide +kernel
theorem dX4_bodyAt_21 : decode cX4_bodyAt 21 = .ok (.aload_n 0, 1) := by decide +kernel
theorem dX4_bodyAt_22 : decode cX4_bodyAt 22 = .ok (.getfield 24, 3) := by decide +kernel
theorem dX4_bodyAt_25 : decode cX4_bodyAt 25 = .ok (.iload_n 1, 1) := by decide +kernel
theorem dX4_bodyAt_26 : decode cX4_bodyAt 26 = .ok (.iaload, 1) := by decide +kernel
theorem dX4_bodyAt_27 : decode cX4_bodyAt 27 = .ok (.goto 4, 3) := by decide +kernel
theorem dX4_bodyAt_30 : decode cX4_bodyAt 30 = .ok (.iconst (-1), 1) := by decide +kernel
theorem dX4_bodyAt_31 : decode cX4_bodyAt 31 = .ok (.ireturn, 1) := by decide +kernel
theorem dX4_bodyOf_0 : decode cX4_bodyOf 0 = .ok (.iload_n 1, 1) := by decide +kernel
theorem dX4_bodyOf_1 : decode cX4_bodyOf 1 = .ok (.iconst 3, 1) := by decide +kernel
theorem dX4_bodyOf_2 : decode cX4_bodyOf 2 = .ok (.imul, 1) := by decide +kernel
theorem dX4_bodyOf_3 : decode cX4_bodyOf 3 = .ok (.iload_n 0, 1) := by decide +kernel
theorem dX4_bodyOf_4 : decode cX4_bodyOf 4 = .ok (.iadd, 1) := by decide +kernel
theorem dX4_bodyOf_5 : decode cX4_bodyOf 5 = .ok (.istore_n 2, 1) := by decide +kernel
theorem dX4_bodyOf_6 : decode cX4_bodyOf 6 = .ok (.iload_n 2, 1) := by decide +kernel
theorem dX4_bodyOf_7 : decode cX4_bodyOf 7 = .ok (.ifCond .lt 19, 3) := by decide +kernel
theorem dX4_bodyOf_10 : decode cX4_bodyOf 10 = .ok (.iload_n 2, 1) := by decide +kernel
theorem dX4_bodyOf_11 : decode cX4_bodyOf 11 = .ok (.getstatic 32, 3) := by decide +kernel
theorem dX4_bodyOf_14 : decode cX4_bodyOf 14 = .ok (.arraylength, 1) := by decide +kernel
theorem dX4_bodyOf_15 : decode cX4_bodyOf 15 = .ok (.if_icmp .ge 11, 3) := by decide +kernel
theorem dX4_bodyOf_18 : decode cX4_bodyOf 18 = .ok (.getstatic 32, 3) := by decide +kernel
theorem dX4_bodyOf_21 : decode cX4_bodyOf 21 = .ok (.iload_n 2, 1) := by decide +kernel
theorem dX4_bodyOf_22 : decode cX4_bodyOf 22 = .ok (.iaload, 1) := by decide +kernel
theorem dX4_bodyOf_23 : decode cX4_bodyOf 23 = .ok (.goto 4, 3) := by decide +kernel
theorem dX4_bodyOf_26 : decode cX4_bodyOf 26 = .ok (.iconst 0, 1) := by decide +kernel
theorem dX4_bodyOf_27 : decode cX4_bodyOf 27 = .ok (.ireturn, 1) := by decide +kernel
theorem dX4_kindWithBody_0 : decode cX4_kindWithBody 0 = .ok (.iload_n 1, 1) := by decide +kernel
theorem dX4_kindWithBody_1 : decode cX4_kindWithBody 1 = .ok (.istore_n 2, 1) := by decide +kernel
theorem dX4_kindWithBody_2 : decode cX4_kindWithBody 2 = .ok (.iconst 0, 1) := by decide +kernel
theorem dX4_kindWithBody_3 : decode cX4_kindWithBody 3 = .ok (.istore_n 3, 1) := by decide +kernel
theorem dX4_kindWithBody_4 : decode cX4_kindWithBody 4 = .ok (.iload_n 3, 1) := by decide +kernel
theorem dX4_kindWithBody_5 : decode cX4_kindWithBody 5 = .ok (.bipush 7, 2) := by decide +kernel
theorem dX4_kindWithBody_7 : decode cX4_kindWithBody 7 = .ok (.if_icmp .ge 22, 3) := by decide +kernel
theorem dX4_kindWithBody_10 : decode cX4_kindWithBody 10 = .ok (.iload_n 0, 1) := by decide +kernel
theorem dX4_kindWithBody_11 : decode cX4_kindWithBody 11 = .ok (.iload_n 2, 1) := by decide +kernel
theorem dX4_kindWithBody_12 : decode cX4_kindWithBody 12 = .ok (.invokestatic 35, 3) := by decide +kernel
theorem dX4_kindWithBody_15 : decode cX4_kindWithBody 15 = .ok (.ifCond .ne 14, 3) := by decide +kernel
theorem dX4_kindWithBody_18 : decode cX4_kindWithBody 18 = .ok (.iload_n 2, 1) := by decide +kernel
theorem dX4_kindWithBody_19 : decode cX4_kindWithBody 19 = .ok (.invokestatic 39, 3) := by decide +kernel
theorem dX4_kindWithBody_22 : decode cX4_kindWithBody 22 = .ok (.istore_n 2, 1) := by decide +kernel
theorem dX4_kindWithBody_23 : decode cX4_kindWithBody 23 = .ok (.iinc 3 1, 3) := by decide +kernel
theorem dX4_kindWithBody_26 : decode cX4_kindWithBody 26 = .ok (.goto (-22), 3) := by decide +kernel
theorem dX4_kindWithBody_29 : decode cX4_kindWithBody 29 = .ok (.iload_n 2, 1) := by decide +kernel
theorem dX4_kindWithBody_30 : decode cX4_kindWithBody 30 = .ok (.ireturn, 1) := by decide +kernel
theorem dX5_init_0 : decode cX5_init 0 = .ok (.aload_n 0, 1) := by decide +kernel
theorem dX5_init_1 : decode cX5_init 1 = .ok (.invokespecial 3, 3) := by decide +kernel
theorem dX5_init_4 : decode cX5_init 4 = .ok (.aload_n 0, 1) := by decide +kernel
theorem dX5_init_5 : decode cX5_init 5 = .ok (.iconst 3, 1) := by decide +kernel
theorem dX5_init_6 : decode cX5_init 6 = .ok (.newarray .int, 2) := by decide +kernel
theorem dX5_init_8 : decode cX5_init 8 = .ok (.putfield 11, 3) := by decide +kernel
theorem dX5_init_11 : decode cX5_init 11 = .ok (.aload_n 0, 1) := by decide +kernel
theorem dX5_init_12 : decode cX5_init 12 = .ok (.new 15, 3) := by decide +kernel
theorem dX5_init_15 : decode cX5_init 15 = .ok (.dup, 1) := by decide +kernel
theorem dX5_init_16 : decode cX5_init 16 = .ok (.invokespecial 17, 3) := by decide +kernel
theorem dX5_init_19 : decode cX5_init 19 = .ok (.putfield 18, 3) := by decide +kernel
theorem dX5_init_22 : decode cX5_init 22 = .ok (.aload_n 0, 1) := by decide +kernel
theorem dX5_init_23 : decode cX5_init 23 = .ok (.iconst 0, 1) := by decide +kernel
theorem dX5_init_24 : decode cX5_init 24 = .ok (.putfield 22, 3) := by decide +kernel
theorem dX5_init_27 : decode cX5_init 27 = .ok (.aload_n 0, 1) := by decide +kernel
theorem dX5_init_28 : decode cX5_init 28 = .ok (.iconst (-1), 1) := by decide +kernel
theorem dX5_init_29 : decode cX5_init 29 = .ok (.putfield 26, 3) := by decide +kernel
theorem dX5_init_32 : decode cX5_init 32 = .ok (.aload_n 0, 1) := by decide +kernel
theorem dX5_init_33 : decode cX5_init 33 = .ok (.aload_n 1, 1) := by decide +kernel
theorem dX5_init_34 : decode cX5_init 34 = .ok (.putfield 29, 3) := by decide +kernel
theorem dX5_init_37 : decode cX5_init 37 = .ok (.return_, 1) := by decide +kernel
theorem dX5_readAll_0 : decode cX5_readAll 0 = .ok (.aload_n 1, 1) := by decide +kernel
theorem dX5_readAll_1 : decode cX5_readAll 1 = .ok (.ifnonnull 5, 3) := by decide +kernel
theorem dX5_readAll_4 : decode cX5_readAll 4 = .ok (.iconst (-1), 1) := by decide +kernel
theorem dX5_readAll_5 : decode cX5_readAll 5 = .ok (.ireturn, 1) := by decide +kernel
theorem dX5_readAll_6 : decode cX5_readAll 6 = .ok (.aload_n 0, 1) := by decide +kernel
theorem dX5_readAll_7 : decode cX5_readAll 7 = .ok (.aload_n 1, 1) := by decide +kernel
theorem dX5_readAll_8 : decode cX5_readAll 8 = .ok (.putfield 18, 3) := by decide +kernel
theorem dX5_readAll_11 : decode cX5_readAll 11 = .ok (.aload_n 0, 1) := by decide +kernel
theorem dX5_readAll_12 : decode cX5_readAll 12 = .ok (.iconst 0, 1) := by decide +kernel
theorem dX5_readAll_13 : decode cX5_readAll 13 = .ok (.putfield 22, 3) := by decide +kernel
theorem dX5_readAll_16 : decode cX5_readAll 16 = .ok (.aload_n 0, 1) := by decide +kernel
theorem dX5_readAll_17 : decode cX5_readAll 17 = .ok (.iconst (-1), 1) := by decide +kernel
theorem dX5_readAll_18 : decode cX5_readAll 18 = .ok (.putfield 26, 3) := by decide +kernel
theorem dX5_readAll_21 : decode cX5_readAll 21 = .ok (.iconst 1, 1) := by decide +kernel
theorem dX5_readAll_22 : decode cX5_readAll 22 = .ok (.istore_n 2, 1) := by decide +kernel
theorem dX5_readAll_23 : decode cX5_readAll 23 = .ok (.iload_n 2, 1) := by decide +kernel
theorem dX5_readAll_24 : decode cX5_readAll 24 = .ok (.sipush 160, 3) := by decide +kernel
theorem dX5_readAll_27 : decode cX5_readAll 27 = .ok (.if_icmp .gt 63, 3) := by decide +kernel
theorem dX5_readAll_30 : decode cX5_readAll 30 = .ok (.aload_n 0, 1) := by decide +kernel
theorem dX5_readAll_31 : decode cX5_readAll 31 = .ok (.invokevirtual 33, 3) := by decide +kernel
theorem dX5_readAll_34 : decode cX5_readAll 34 = .ok (.ifCond .ne 5, 3) := by decide +kernel
theorem dX5_readAll_37 : decode cX5_readAll 37 = .ok (.iconst (-1), 1) := by decide +kernel
theorem dX5_readAll_38 : decode cX5_readAll 38 = .ok (.ireturn, 1) := by decide +kernel
theorem dX5_readAll_39 : decode cX5_readAll 39 = .ok (.aload_n 0, 1) := by decide +kernel
theorem dX5_readAll_40 : decode cX5_readAll 40 = .ok (.getfield 22, 3) := by decide +kernel
theorem dX5_readAll_43 : decode cX5_readAll 43 = .ok (.aload_n 0, 1) := by decide +kernel
theorem dX5_readAll_44 : decode cX5_readAll 44 = .ok (.getfield 18, 3) := by decide +kernel
theorem dX5_readAll_47 : decode cX5_readAll 47 = .ok (.getfield 37, 3) := by decide +kernel
theorem dX5_readAll_50 : decode cX5_readAll 50 = .ok (.if_icmp .ne 5, 3) := by decide +kernel
theorem dX5_readAll_53 : decode cX5_readAll 53 = .ok (.iload_n 2, 1) := by decide +kernel
theorem dX5_readAll_54 : decode cX5_readAll 54 = .ok (.ireturn, 1) := by decide +kernel
theorem dX5_readAll_55 : decode cX5_readAll 55 = .ok (.aload_n 0, 1) := by decide +kernel
theorem dX5_readAll_56 : decode cX5_readAll 56 = .ok (.bipush 59, 2) := by decide +kernel
theorem dX5_readAll_58 : decode cX5_readAll 58 = .ok (.invokevirtual 40, 3) := by decide +kernel
theorem dX5_readAll_61 : decode cX5_readAll 61 = .ok (.ifCond .ne 13, 3) := by decide +kernel
theorem dX5_readAll_64 : decode cX5_readAll 64 = .ok (.aload_n 0, 1) := by decide +kernel
theorem dX5_readAll_65 : decode cX5_readAll 65 = .ok (.aload_n 0, 1) := by decide +kernel
theorem dX5_readAll_66 : decode cX5_readAll 66 = .ok (.getfield 22, 3) := by decide +kernel
theorem dX5_readAll_69 : decode cX5_readAll 69 = .ok (.putfield 26, 3) := by decide +kernel
theorem dX5_readAll_72 : decode cX5_readAll 72 = .ok (.iconst (-1), 1) := by decide +kernel
theorem dX5_readAll_73 : decode cX5_readAll 73 = .ok (.ireturn, 1) := by decide +kernel
theorem dX5_readAll_74 : decode cX5_readAll 74 = .ok (.aload_n 0, 1) := by decide +kernel
theorem dX5_readAll_75 : decode cX5_readAll 75 = .ok (.dup, 1) := by decide +kernel
theorem dX5_readAll_76 : decode cX5_readAll 76 = .ok (.getfield 22, 3) := by decide +kernel
theorem dX5_readAll_79 : decode cX5_readAll 79 = .ok (.iconst 1, 1) := by decide +kernel
theorem dX5_readAll_80 : decode cX5_readAll 80 = .ok (.iadd, 1) := by decide +kernel
theorem dX5_readAll_81 : decode cX5_readAll 81 = .ok (.putfield 22, 3) := by decide +kernel
theorem dX5_readAll_84 : decode cX5_readAll 84 = .ok (.iinc 2 1, 3) := by decide +kernel
theorem dX5_readAll_87 : decode cX5_readAll 87 = .ok (.goto (-64), 3) := by decide +kernel
theorem dX5_readAll_90 : decode cX5_readAll 90 = .ok (.iconst (-1), 1) := by decide +kernel
theorem dX5_readAll_91 : decode cX5_readAll 91 = .ok (.ireturn, 1) := by decide +kernel
theorem dX5_readItem_0 : decode cX5_readItem 0 = .ok (.aload_n 0, 1) := by decide +kernel
theorem dX5_readItem_1 : decode cX5_readItem 1 = .ok (.getfield 22, 3) := by decide +kernel
theorem dX5_readItem_4 : decode cX5_readItem 4 = .ok (.istore_n 1, 1) := by decide +kernel
theorem dX5_readItem_5 : decode cX5_readItem 5 = .ok (.aload_n 0, 1) := by decide +kernel
theorem dX5_readItem_6 : decode cX5_readItem 6 = .ok (.invokevirtual 44, 3) := by decide +kernel
theorem dX5_readItem_9 : decode cX5_readItem 9 = .ok (.istore_n 2, 1) := by decide +kernel
theorem dX5_readItem_10 : decode cX5_readItem 10 = .ok (.iload_n 2, 1) := by decide +kernel
theorem dX5_readItem_11 : decode cX5_readItem 11 = .ok (.iconst (-1), 1) := by decide +kernel
theorem dX5_readItem_12 : decode cX5_readItem 12 = .ok (.if_icmp .ne 5, 3) := by decide +kernel
theorem dX5_readItem_15 : decode cX5_readItem 15 = .ok (.iconst 0, 1) := by decide +kernel
theorem dX5_readItem_16 : decode cX5_readItem 16 = .ok (.ireturn, 1) := by decide +kernel
theorem dX5_readItem_17 : decode cX5_readItem 17 = .ok (.aload_n 0, 1) := by decide +kernel
theorem dX5_readItem_18 : decode cX5_readItem 18 = .ok (.iload_n 2, 1) := by decide +kernel
theorem dX5_readItem_19 : decode cX5_readItem 19 = .ok (.invokevirtual 48, 3) := by decide +kernel
theorem dX5_readItem_22 : decode cX5_readItem 22 = .ok (.ifCond .ne 10, 3) := by decide +kernel
theorem dX5_readItem_25 : decode cX5_readItem 25 = .ok (.aload_n 0, 1) := by decide +kernel
theorem dX5_readItem_26 : decode cX5_readItem 26 = .ok (.iload_n 1, 1) := by decide +kernel
theorem dX5_readItem_27 : decode cX5_readItem 27 = .ok (.putfield 26, 3) := by decide +kernel
theorem dX5_readItem_30 : decode cX5_readItem 30 = .ok (.iconst 0, 1) := by decide +kernel
theorem dX5_readItem_31 : decode cX5_readItem 31 = .ok (.ireturn, 1) := by decide +kernel
theorem dX5_readItem_32 : decode cX5_readItem 32 = .ok (.iconst 0, 1) := by decide +kernel
theorem dX5_readItem_33 : decode cX5_readItem 33 = .ok (.istore_n 3, 1) := by decide +kernel
theorem dX5_readItem_34 : decode cX5_readItem 34 = .ok (.iload_n 3, 1) := by decide +kernel
theorem dX5_readItem_35 : decode cX5_readItem 35 = .ok (.iconst 3, 1) := by decide +kernel
theorem dX5_readItem_36 : decode cX5_readItem 36 = .ok (.if_icmp .ge 34, 3) := by decide +kernel
theorem dX5_readItem_39 : decode cX5_readItem 39 = .ok (.iload_n 2, 1) := by decide +kernel
theorem dX5_readItem_40 : decode cX5_readItem 40 = .ok (.iload_n 3, 1) := by decide +kernel
theorem dX5_readItem_41 : decode cX5_readItem 41 = .ok (.invokestatic 52, 3) := by decide +kernel
theorem dX5_readItem_44 : decode cX5_readItem 44 = .ok (.istore 4, 2) := by decide +kernel
theorem dX5_readItem_46 : decode cX5_readItem 46 = .ok (.iload 4, 2) := by decide +kernel
theorem dX5_readItem_48 : decode cX5_readItem 48 = .ok (.iconst (-1), 1) := by decide +kernel
theorem dX5_readItem_49 : decode cX5_readItem 49 = .ok (.if_icmp .eq 15, 3) := by decide +kernel
theorem dX5_readItem_52 : decode cX5_readItem 52 = .ok (.aload_n 0, 1) := by decide +kernel
theorem dX5_readItem_53 : decode cX5_readItem 53 = .ok (.iload_n 3, 1) := by decide +kernel
theorem dX5_readItem_54 : decode cX5_readItem 54 = .ok (.iload 4, 2) := by decide +kernel
theorem dX5_readItem_56 : decode cX5_readItem 56 = .ok (.invokevirtual 56, 3) := by decide +kernel
theorem dX5_readItem_59 : decode cX5_readItem 59 = .ok (.ifCond .ne 5, 3) := by decide +kernel
theorem dX5_readItem_62 : decode cX5_readItem 62 = .ok (.iconst 0, 1) := by decide +kernel
theorem dX5_readItem_63 : decode cX5_readItem 63 = .ok (.ireturn, 1) := by decide +kernel
theorem dX5_readItem_64 : decode cX5_readItem 64 = .ok (.iinc 3 1, 3) := by decide +kernel
theorem dX5_readItem_67 : decode cX5_readItem 67 = .ok (.goto (-33), 3) := by decide +kernel
theorem dX5_readItem_70 : decode cX5_readItem 70 = .ok (.aload_n 0, 1) := by decide +kernel
theorem dX5_readItem_71 : decode cX5_readItem 71 = .ok (.iload_n 2, 1) := by decide +kernel
theorem dX5_readItem_72 : decode cX5_readItem 72 = .ok (.invokevirtual 60, 3) := by decide +kernel
theorem dX5_readItem_75 : decode cX5_readItem 75 = .ok (.iconst 1, 1) := by decide +kernel
theorem dX5_readItem_76 : decode cX5_readItem 76 = .ok (.ireturn, 1) := by decide +kernel
theorem dX5_readWord_0 : decode cX5_readWord 0 = .ok (.iconst 0, 1) := by decide +kernel
theorem dX5_readWord_1 : decode cX5_readWord 1 = .ok (.istore_n 1, 1) := by decide +kernel
theorem dX5_readWord_2 : decode cX5_readWord 2 = .ok (.iconst 0, 1) := by decide +kernel
theorem dX5_readWord_3 : decode cX5_readWord 3 = .ok (.istore_n 2, 1) := by decide +kernel
theorem dX5_readWord_4 : decode cX5_readWord 4 = .ok (.iload_n 2, 1) := by decide +kernel
theorem dX5_readWord_5 : decode cX5_readWord 5 = .ok (.bipush 10, 2) := by decide +kernel
theorem dX5_readWord_7 : decode cX5_readWord 7 = .ok (.if_icmp .ge 81, 3) := by decide +kernel
theorem dX5_readWord_10 : decode cX5_readWord 10 = .ok (.iload_n 2, 1) := by decide +kernel
theorem dX5_readWord_11 : decode cX5_readWord 11 = .ok (.invokestatic 64, 3) := by decide +kernel
theorem dX5_readWord_14 : decode cX5_readWord 14 = .ok (.astore_n 3, 1) := by decide +kernel
theorem dX5_readWord_15 : decode cX5_readWord 15 = .ok (.iconst 0, 1) := by decide +kernel
theorem dX5_readWord_16 : decode cX5_readWord 16 = .ok (.istore 4, 2) := by decide +kernel
theorem dX5_readWord_18 : decode cX5_readWord 18 = .ok (.iload 4, 2) := by decide +kernel
theorem dX5_readWord_20 : decode cX5_readWord 20 = .ok (.aload_n 3, 1) := by decide +kernel
theorem dX5_readWord_21 : decode cX5_readWord 21 = .ok (.invokevirtual 68, 3) := by decide +kernel
theorem dX5_readWord_24 : decode cX5_readWord 24 = .ok (.if_icmp .ge 29, 3) := by decide +kernel
theorem dX5_readWord_27 : decode cX5_readWord 27 = .ok (.aload_n 0, 1) := by decide +kernel
theorem dX5_readWord_28 : decode cX5_readWord 28 = .ok (.aload_n 0, 1) := by decide +kernel
theorem dX5_readWord_29 : decode cX5_readWord 29 = .ok (.getfield 22, 3) := by decide +kernel
theorem dX5_readWord_32 : decode cX5_readWord 32 = .ok (.iload 4, 2) := by decide +kernel
theorem dX5_readWord_34 : decode cX5_readWord 34 = .ok (.iadd, 1) := by decide +kernel
theorem dX5_readWord_35 : decode cX5_readWord 35 = .ok (.aload_n 3, 1) := by decide +kernel
theorem dX5_readWord_36 : decode cX5_readWord 36 = .ok (.iload 4, 2) := by decide +kernel
theorem dX5_readWord_38 : decode cX5_readWord 38 = .ok (.invokevirtual 73, 3) := by decide +kernel
theorem dX5_readWord_41 : decode cX5_readWord 41 = .ok (.invokevirtual 77, 3) := by decide +kernel
theorem dX5_readWord_44 : decode cX5_readWord 44 = .ok (.ifCond .eq 9, 3) := by decide +kernel
theorem dX5_readWord_47 : decode cX5_readWord 47 = .ok (.iinc 4 1, 3) := by decide +kernel
theorem dX5_readWord_50 : decode cX5_readWord 50 = .ok (.goto (-32), 3) := by decide +kernel
theorem dX5_readWord_53 : decode cX5_readWord 53 = .ok (.iload 4, 2) := by decide +kernel
theorem dX5_readWord_55 : decode cX5_readWord 55 = .ok (.aload_n 3, 1) := by decide +kernel
theorem dX5_readWord_56 : decode cX5_readWord 56 = .ok (.invokevirtual 68, 3) := by decide +kernel
theorem dX5_readWord_59 : decode cX5_readWord 59 = .ok (.if_icmp .ne 16, 3) := by decide +kernel
theorem dX5_readWord_62 : decode cX5_readWord 62 = .ok (.aload_n 0, 1) := by decide +kernel
theorem dX5_readWord_63 : decode cX5_readWord 63 = .ok (.dup, 1) := by decide +kernel
theorem dX5_readWord_64 : decode cX5_readWord 64 = .ok (.getfield 22, 3) := by decide +kernel
theorem dX5_readWord_67 : decode cX5_readWord 67 = .ok (.iload 4, 2) := by decide +kernel
theorem dX5_readWord_69 : decode cX5_readWord 69 = .ok (.iadd, 1) := by decide +kernel
theorem dX5_readWord_70 : decode cX5_readWord 70 = .ok (.putfield 22, 3) := by decide +kernel
theorem dX5_readWord_73 : decode cX5_readWord 73 = .ok (.iload_n 2, 1) := by decide +kernel
theorem dX5_readWord_74 : decode cX5_readWord 74 = .ok (.ireturn, 1) := by decide +kernel
theorem dX5_readWord_75 : decode cX5_readWord 75 = .ok (.iload_n 1, 1) := by decide +kernel
theorem dX5_readWord_76 : decode cX5_readWord 76 = .ok (.iload 4, 2) := by decide +kernel
theorem dX5_readWord_78 : decode cX5_readWord 78 = .ok (.invokestatic 81, 3) := by decide +kernel
theorem dX5_readWord_81 : decode cX5_readWord 81 = .ok (.istore_n 1, 1) := by decide +kernel
theorem dX5_readWord_82 : decode cX5_readWord 82 = .ok (.iinc 2 1, 3) := by decide +kernel
theorem dX5_readWord_85 : decode cX5_readWord 85 = .ok (.goto (-81), 3) := by decide +kernel
theorem dX5_readWord_88 : decode cX5_readWord 88 = .ok (.aload_n 0, 1) := by decide +kernel
theorem dX5_readWord_89 : decode cX5_readWord 89 = .ok (.aload_n 0, 1) := by decide +kernel
theorem dX5_readWord_90 : decode cX5_readWord 90 = .ok (.getfield 22, 3) := by decide +kernel
theorem dX5_readWord_93 : decode cX5_readWord 93 = .ok (.iload_n 1, 1) := by decide +kernel
theorem dX5_readWord_94 : decode cX5_readWord 94 = .ok (.iadd, 1) := by decide +kernel
theorem dX5_readWord_95 : decode cX5_readWord 95 = .ok (.putfield 26, 3) := by decide +kernel
theorem dX5_readWord_98 : decode cX5_readWord 98 = .ok (.iconst (-1), 1) := by decide +kernel
theorem dX5_readWord_99 : decode cX5_readWord 99 = .ok (.ireturn, 1) := by decide +kernel
theorem dX5_readNumber_0 : decode cX5_readNumber 0 = .ok (.aload_n 0, 1) := by decide +kernel
theorem dX5_readNumber_1 : decode cX5_readNumber 1 = .ok (.bipush 32, 2) := by decide +kernel
theorem dX5_readNumber_3 : decode cX5_readNumber 3 = .ok (.invokevirtual 40, 3) := by decide +kernel
theorem dX5_readNumber_6 : decode cX5_readNumber 6 = .ok (.ifCond .ne 13, 3) := by decide +kernel
theorem dX5_readNumber_9 : decode cX5_readNumber 9 = .ok (.aload_n 0, 1) := by decide +kernel
theorem dX5_readNumber_10 : decode cX5_readNumber 10 = .ok (.aload_n 0, 1) := by decide +kernel
theorem dX5_readNumber_11 : decode cX5_readNumber 11 = .ok (.getfield 22, 3) := by decide +kernel
theorem dX5_readNumber_14 : decode cX5_readNumber 14 = .ok (.putfield 26, 3) := by decide +kernel
theorem dX5_readNumber_17 : decode cX5_readNumber 17 = .ok (.iconst 0, 1) := by decide +kernel
theorem dX5_readNumber_18 : decode cX5_readNumber 18 = .ok (.ireturn, 1) := by decide +kernel
theorem dX5_readNumber_19 : decode cX5_readNumber 19 = .ok (.aload_n 0, 1) := by decide +kernel
theorem dX5_readNumber_20 : decode cX5_readNumber 20 = .ok (.dup, 1) := by decide +kernel
theorem dX5_readNumber_21 : decode cX5_readNumber 21 = .ok (.getfield 22, 3) := by decide +kernel
theorem dX5_readNumber_24 : decode cX5_readNumber 24 = .ok (.iconst 1, 1) := by decide +kernel
theorem dX5_readNumber_25 : decode cX5_readNumber 25 = .ok (.iadd, 1) := by decide +kernel
theorem dX5_readNumber_26 : decode cX5_readNumber 26 = .ok (.putfield 22, 3) := by decide +kernel
theorem dX5_readNumber_29 : decode cX5_readNumber 29 = .ok (.aload_n 0, 1) := by decide +kernel
theorem dX5_readNumber_30 : decode cX5_readNumber 30 = .ok (.getfield 22, 3) := by decide +kernel
theorem dX5_readNumber_33 : decode cX5_readNumber 33 = .ok (.istore_n 3, 1) := by decide +kernel
theorem dX5_readNumber_34 : decode cX5_readNumber 34 = .ok (.iconst 0, 1) := by decide +kernel
theorem dX5_readNumber_35 : decode cX5_readNumber 35 = .ok (.istore 4, 2) := by decide +kernel
theorem dX5_readNumber_37 : decode cX5_readNumber 37 = .ok (.iconst 0, 1) := by decide +kernel
theorem dX5_readNumber_38 : decode cX5_readNumber 38 = .ok (.istore 5, 2) := by decide +kernel
theorem dX5_readNumber_40 : decode cX5_readNumber 40 = .ok (.iload 5, 2) := by decide +kernel
theorem dX5_readNumber_42 : decode cX5_readNumber 42 = .ok (.iconst 2, 1) := by decide +kernel
theorem dX5_readNumber_43 : decode cX5_readNumber 43 = .ok (.if_icmp .ge 39, 3) := by decide +kernel
theorem dX5_readNumber_46 : decode cX5_readNumber 46 = .ok (.aload_n 0, 1) := by decide +kernel
theorem dX5_readNumber_47 : decode cX5_readNumber 47 = .ok (.invokevirtual 86, 3) := by decide +kernel
theorem dX5_readNumber_50 : decode cX5_readNumber 50 = .ok (.iconst (-1), 1) := by decide +kernel
theorem dX5_readNumber_51 : decode cX5_readNumber 51 = .ok (.if_icmp .eq 31, 3) := by decide +kernel
theorem dX5_readNumber_54 : decode cX5_readNumber 54 = .ok (.bipush 10, 2) := by decide +kernel
theorem dX5_readNumber_56 : decode cX5_readNumber 56 = .ok (.iload 4, 2) := by decide +kernel
theorem dX5_readNumber_58 : decode cX5_readNumber 58 = .ok (.imul, 1) := by decide +kernel
theorem dX5_readNumber_59 : decode cX5_readNumber 59 = .ok (.aload_n 0, 1) := by decide +kernel
theorem dX5_readNumber_60 : decode cX5_readNumber 60 = .ok (.invokevirtual 86, 3) := by decide +kernel
theorem dX5_readNumber_63 : decode cX5_readNumber 63 = .ok (.iadd, 1) := by decide +kernel
theorem dX5_readNumber_64 : decode cX5_readNumber 64 = .ok (.istore 4, 2) := by decide +kernel
theorem dX5_readNumber_66 : decode cX5_readNumber 66 = .ok (.aload_n 0, 1) := by decide +kernel
theorem dX5_readNumber_67 : decode cX5_readNumber 67 = .ok (.dup, 1) := by decide +kernel
theorem dX5_readNumber_68 : decode cX5_readNumber 68 = .ok (.getfield 22, 3) := by decide +kernel
theorem dX5_readNumber_71 : decode cX5_readNumber 71 = .ok (.iconst 1, 1) := by decide +kernel
theorem dX5_readNumber_72 : decode cX5_readNumber 72 = .ok (.iadd, 1) := by decide +kernel
theorem dX5_readNumber_73 : decode cX5_readNumber 73 = .ok (.putfield 22, 3) := by decide +kernel
theorem dX5_readNumber_76 : decode cX5_readNumber 76 = .ok (.iinc 5 1, 3) := by decide +kernel
theorem dX5_readNumber_79 : decode cX5_readNumber 79 = .ok (.goto (-39), 3) := by decide +kernel
theorem dX5_readNumber_82 : decode cX5_readNumber 82 = .ok (.aload_n 0, 1) := by decide +kernel
theorem dX5_readNumber_83 : decode cX5_readNumber 83 = .ok (.getfield 22, 3) := by decide +kernel
theorem dX5_readNumber_86 : decode cX5_readNumber 86 = .ok (.iload_n 3, 1) := by decide +kernel
theorem dX5_readNumber_87 : decode cX5_readNumber 87 = .ok (.if_icmp .eq 16, 3) := by decide +kernel
theorem dX5_readNumber_90 : decode cX5_readNumber 90 = .ok (.aload_n 0, 1) := by decide +kernel
theorem dX5_readNumber_91 : decode cX5_readNumber 91 = .ok (.getfield 29, 3) := by decide +kernel
theorem dX5_readNumber_94 : decode cX5_readNumber 94 = .ok (.iload_n 2, 1) := by decide +kernel
theorem dX5_readNumber_95 : decode cX5_readNumber 95 = .ok (.iload 4, 2) := by decide +kernel
theorem dX5_readNumber_97 : decode cX5_readNumber 97 = .ok (.invokevirtual 89, 3) := by decide +kernel
theorem dX5_readNumber_100 : decode cX5_readNumber 100 = .ok (.ifCond .ne 10, 3) := by decide +kernel
theorem dX5_readNumber_103 : decode cX5_readNumber 103 = .ok (.aload_n 0, 1) := by decide +kernel
theorem dX5_readNumber_104 : decode cX5_readNumber 104 = .ok (.iload_n 3, 1) := by decide +kernel
theorem dX5_readNumber_105 : decode cX5_readNumber 105 = .ok (.putfield 26, 3) := by decide +kernel
theorem dX5_readNumber_108 : decode cX5_readNumber 108 = .ok (.iconst 0, 1) := by decide +kernel
theorem dX5_readNumber_109 : decode cX5_readNumber 109 = .ok (.ireturn, 1) := by decide +kernel
theorem dX5_readNumber_110 : decode cX5_readNumber 110 = .ok (.iload_n 1, 1) := by decide +kernel
theorem dX5_readNumber_111 : decode cX5_readNumber 111 = .ok (.ifCond .lt 20, 3) := by decide +kernel
theorem dX5_readNumber_114 : decode cX5_readNumber 114 = .ok (.iload_n 1, 1) := by decide +kernel
theorem dX5_readNumber_115 : decode cX5_readNumber 115 = .ok (.aload_n 0, 1) := by decide +kernel
theorem dX5_readNumber_116 : decode cX5_readNumber 116 = .ok (.getfield 11, 3) := by decide +kernel
theorem dX5_readNumber_119 : decode cX5_readNumber 119 = .ok (.arraylength, 1) := by decide +kernel
theorem dX5_readNumber_120 : decode cX5_readNumber 120 = .ok (.if_icmp .ge 11, 3) := by decide +kernel
theorem dX5_readNumber_123 : decode cX5_readNumber 123 = .ok (.aload_n 0, 1) := by decide +kernel
theorem dX5_readNumber_124 : decode cX5_readNumber 124 = .ok (.getfield 11, 3) := by decide +kernel
theorem dX5_readNumber_127 : decode cX5_readNumber 127 = .ok (.iload_n 1, 1) := by decide +kernel
theorem dX5_readNumber_128 : decode cX5_readNumber 128 = .ok (.iload 4, 2) := by decide +kernel
theorem dX5_readNumber_130 : decode cX5_readNumber 130 = .ok (.iastore, 1) := by decide +kernel
theorem dX5_readNumber_131 : decode cX5_readNumber 131 = .ok (.iconst 1, 1) := by decide +kernel
theorem dX5_readNumber_132 : decode cX5_readNumber 132 = .ok (.ireturn, 1) := by decide +kernel
theorem dX5_isHere_0 : decode cX5_isHere 0 = .ok (.aload_n 0, 1) := by decide +kernel
theorem dX5_isHere_1 : decode cX5_isHere 1 = .ok (.aload_n 0, 1) := by decide +kernel
theorem dX5_isHere_2 : decode cX5_isHere 2 = .ok (.getfield 22, 3) := by decide +kernel
theorem dX5_isHere_5 : decode cX5_isHere 5 = .ok (.iload_n 1, 1) := by decide +kernel
theorem dX5_isHere_6 : decode cX5_isHere 6 = .ok (.invokevirtual 77, 3) := by decide +kernel
theorem dX5_isHere_9 : decode cX5_isHere 9 = .ok (.ireturn, 1) := by decide +kernel
theorem dX5_isAt_0 : decode cX5_isAt 0 = .ok (.aload_n 0, 1) := by decide +kernel
theorem dX5_isAt_1 : decode cX5_isAt 1 = .ok (.getfield 18, 3) := by decide +kernel
theorem dX5_isAt_4 : decode cX5_isAt 4 = .ok (.iload_n 1, 1) := by decide +kernel
theorem dX5_isAt_5 : decode cX5_isAt 5 = .ok (.invokevirtual 94, 3) := by decide +kernel
theorem dX5_isAt_8 : decode cX5_isAt 8 = .ok (.ifCond .eq 19, 3) := by decide +kernel
theorem dX5_isAt_11 : decode cX5_isAt 11 = .ok (.aload_n 0, 1) := by decide +kernel
theorem dX5_isAt_12 : decode cX5_isAt 12 = .ok (.getfield 18, 3) := by decide +kernel
theorem dX5_isAt_15 : decode cX5_isAt 15 = .ok (.iload_n 1, 1) := by decide +kernel
theorem dX5_isAt_16 : decode cX5_isAt 16 = .ok (.invokevirtual 97, 3) := by decide +kernel
theorem dX5_isAt_19 : decode cX5_isAt 19 = .ok (.iload_n 2, 1) := by decide +kernel
theorem dX5_isAt_20 : decode cX5_isAt 20 = .ok (.if_icmp .ne 7, 3) := by decide +kernel
theorem dX5_isAt_23 : decode cX5_isAt 23 = .ok (.iconst 1, 1) := by decide +kernel
theorem dX5_isAt_24 : decode cX5_isAt 24 = .ok (.goto 4, 3) := by decide +kernel
theorem dX5_isAt_27 : decode cX5_isAt 27 = .ok (.iconst 0, 1) := by decide +kernel
theorem dX5_isAt_28 : decode cX5_isAt 28 = .ok (.ireturn, 1) := by decide +kernel
theorem dX5_digitHere_0 : decode cX5_digitHere 0 = .ok (.aload_n 0, 1) := by decide +kernel
theorem dX5_digitHere_1 : decode cX5_digitHere 1 = .ok (.getfield 18, 3) := by decide +kernel
theorem dX5_digitHere_4 : decode cX5_digitHere 4 = .ok (.aload_n 0, 1) := by decide +kernel
theorem dX5_digitHere_5 : decode cX5_digitHere 5 = .ok (.getfield 22, 3) := by decide +kernel
theorem dX5_digitHere_8 : decode cX5_digitHere 8 = .ok (.invokevirtual 97, 3) := by decide +kernel
theorem dX5_digitHere_11 : decode cX5_digitHere 11 = .ok (.istore_n 1, 1) := by decide +kernel
theorem dX5_digitHere_12 : decode cX5_digitHere 12 = .ok (.aload_n 0, 1) := by decide +kernel
theorem dX5_digitHere_13 : decode cX5_digitHere 13 = .ok (.getfield 18, 3) := by decide +kernel
theorem dX5_digitHere_16 : decode cX5_digitHere 16 = .ok (.aload_n 0, 1) := by decide +kernel
theorem dX5_digitHere_17 : decode cX5_digitHere 17 = .ok (.getfield 22, 3) := by decide +kernel
theorem dX5_digitHere_20 : decode cX5_digitHere 20 = .ok (.invokevirtual 94, 3) := by decide +kernel
theorem dX5_digitHere_23 : decode cX5_digitHere 23 = .ok (.ifCond .eq 22, 3) := by decide +kernel
theorem dX5_digitHere_26 : decode cX5_digitHere 26 = .ok (.iload_n 1, 1) := by decide +kernel
theorem dX5_digitHere_27 : decode cX5_digitHere 27 = .ok (.bipush 48, 2) := by decide +kernel
theorem dX5_digitHere_29 : decode cX5_digitHere 29 = .ok (.if_icmp .lt 16, 3) := by decide +kernel
theorem dX5_digitHere_32 : decode cX5_digitHere 32 = .ok (.iload_n 1, 1) := by decide +kernel
theorem dX5_digitHere_33 : decode cX5_digitHere 33 = .ok (.bipush 57, 2) := by decide +kernel
theorem dX5_digitHere_35 : decode cX5_digitHere 35 = .ok (.if_icmp .gt 10, 3) := by decide +kernel
theorem dX5_digitHere_38 : decode cX5_digitHere 38 = .ok (.iload_n 1, 1) := by decide +kernel
theorem dX5_digitHere_39 : decode cX5_digitHere 39 = .ok (.bipush 48, 2) := by decide +kernel
theorem dX5_digitHere_41 : decode cX5_digitHere 41 = .ok (.isub, 1) := by decide +kernel
theorem dX5_digitHere_42 : decode cX5_digitHere 42 = .ok (.goto 4, 3) := by decide +kernel
theorem dX5_digitHere_45 : decode cX5_digitHere 45 = .ok (.iconst (-1), 1) := by decide +kernel
theorem dX5_digitHere_46 : decode cX5_digitHere 46 = .ok (.ireturn, 1) := by decide +kernel
theorem dX5_hasRoom_0 : decode cX5_hasRoom 0 = .ok (.iload_n 1, 1) := by decide +kernel
theorem dX5_hasRoom_1 : decode cX5_hasRoom 1 = .ok (.lookupswitch 89 #[(1, 35), (5, 53), (6, 71)], 35) := by decide +kernel
theorem dX5_hasRoom_36 : decode cX5_hasRoom 36 = .ok (.aload_n 0, 1) := by decide +kernel
theorem dX5_hasRoom_37 : decode cX5_hasRoom 37 = .ok (.getfield 29, 3) := by decide +kernel
theorem dX5_hasRoom_40 : decode cX5_hasRoom 40 = .ok (.getfield 101, 3) := by decide +kernel
theorem dX5_hasRoom_43 : decode cX5_hasRoom 43 = .ok (.bipush 16, 2) := by decide +kernel
theorem dX5_hasRoom_45 : decode cX5_hasRoom 45 = .ok (.if_icmp .ge 7, 3) := by decide +kernel
theorem dX5_hasRoom_48 : decode cX5_hasRoom 48 = .ok (.iconst 1, 1) := by decide +kernel
theorem dX5_hasRoom_49 : decode cX5_hasRoom 49 = .ok (.goto 4, 3) := by decide +kernel
theorem dX5_hasRoom_52 : decode cX5_hasRoom 52 = .ok (.iconst 0, 1) := by decide +kernel
theorem dX5_hasRoom_53 : decode cX5_hasRoom 53 = .ok (.ireturn, 1) := by decide +kernel
theorem dX5_hasRoom_54 : decode cX5_hasRoom 54 = .ok (.aload_n 0, 1) := by decide +kernel
theorem dX5_hasRoom_55 : decode cX5_hasRoom 55 = .ok (.getfield 29, 3) := by decide +kernel
theorem dX5_hasRoom_58 : decode cX5_hasRoom 58 = .ok (.getfield 104, 3) := by decide +kernel
theorem dX5_hasRoom_61 : decode cX5_hasRoom 61 = .ok (.bipush 8, 2) := by decide +kernel
theorem dX5_hasRoom_63 : decode cX5_hasRoom 63 = .ok (.if_icmp .ge 7, 3) := by decide +kernel
theorem dX5_hasRoom_66 : decode cX5_hasRoom 66 = .ok (.iconst 1, 1) := by decide +kernel
theorem dX5_hasRoom_67 : decode cX5_hasRoom 67 = .ok (.goto 4, 3) := by decide +kernel
theorem dX5_hasRoom_70 : decode cX5_hasRoom 70 = .ok (.iconst 0, 1) := by decide +kernel
theorem dX5_hasRoom_71 : decode cX5_hasRoom 71 = .ok (.ireturn, 1) := by decide +kernel
theorem dX5_hasRoom_72 : decode cX5_hasRoom 72 = .ok (.aload_n 0, 1) := by decide +kernel
theorem dX5_hasRoom_73 : decode cX5_hasRoom 73 = .ok (.getfield 29, 3) := by decide +kernel
theorem dX5_hasRoom_76 : decode cX5_hasRoom 76 = .ok (.getfield 107, 3) := by decide +kernel
theorem dX5_hasRoom_79 : decode cX5_hasRoom 79 = .ok (.bipush 6, 2) := by decide +kernel
theorem dX5_hasRoom_81 : decode cX5_hasRoom 81 = .ok (.if_icmp .ge 7, 3) := by decide +kernel
theorem dX5_hasRoom_84 : decode cX5_hasRoom 84 = .ok (.iconst 1, 1) := by decide +kernel
theorem dX5_hasRoom_85 : decode cX5_hasRoom 85 = .ok (.goto 4, 3) := by decide +kernel
theorem dX5_hasRoom_88 : decode cX5_hasRoom 88 = .ok (.iconst 0, 1) := by decide +kernel
theorem dX5_hasRoom_89 : decode cX5_hasRoom 89 = .ok (.ireturn, 1) := by decide +kernel
theorem dX5_hasRoom_90 : decode cX5_hasRoom 90 = .ok (.iconst 1, 1) := by decide +kernel
theorem dX5_hasRoom_91 : decode cX5_hasRoom 91 = .ok (.ireturn, 1) := by decide +kernel
theorem dX5_apply_0 : decode cX5_apply 0 = .ok (.aload_n 0, 1) := by decide +kernel
theorem dX5_apply_1 : decode cX5_apply 1 = .ok (.getfield 11, 3) := by decide +kernel
theorem dX5_apply_4 : decode cX5_apply 4 = .ok (.iconst 0, 1) := by decide +kernel
theorem dX5_apply_5 : decode cX5_apply 5 = .ok (.iaload, 1) := by decide +kernel
theorem dX5_apply_6 : decode cX5_apply 6 = .ok (.istore_n 2, 1) := by decide +kernel
theorem dX5_apply_7 : decode cX5_apply 7 = .ok (.aload_n 0, 1) := by decide +kernel
theorem dX5_apply_8 : decode cX5_apply 8 = .ok (.getfield 11, 3) := by decide +kernel
theorem dX5_apply_11 : decode cX5_apply 11 = .ok (.iconst 1, 1) := by decide +kernel
theorem dX5_apply_12 : decode cX5_apply 12 = .ok (.iaload, 1) := by decide +kernel
theorem dX5_apply_13 : decode cX5_apply 13 = .ok (.istore_n 3, 1) := by decide +kernel
theorem dX5_apply_14 : decode cX5_apply 14 = .ok (.aload_n 0, 1) := by decide +kernel
theorem dX5_apply_15 : decode cX5_apply 15 = .ok (.getfield 11, 3) := by decide +kernel
theorem dX5_apply_18 : decode cX5_apply 18 = .ok (.iconst 2, 1) := by decide +kernel
theorem dX5_apply_19 : decode cX5_apply 19 = .ok (.iaload, 1) := by decide +kernel
theorem dX5_apply_20 : decode cX5_apply 20 = .ok (.istore 4, 2) := by decide +kernel
theorem dX5_apply_22 : decode cX5_apply 22 = .ok (.aload_n 0, 1) := by decide +kernel
theorem dX5_apply_23 : decode cX5_apply 23 = .ok (.getfield 29, 3) := by decide +kernel
theorem dX5_apply_26 : decode cX5_apply 26 = .ok (.iload_n 2, 1) := by decide +kernel
theorem dX5_apply_27 : decode cX5_apply 27 = .ok (.invokevirtual 110, 3) := by decide +kernel
theorem dX5_apply_30 : decode cX5_apply 30 = .ok (.astore 5, 2) := by decide +kernel
theorem dX5_apply_32 : decode cX5_apply 32 = .ok (.iload_n 1, 1) := by decide +kernel
theorem dX5_apply_33 : decode cX5_apply 33 = .ok (.tableswitch 154 0 9 #[55, 66, 81, 93, 104, 115, 128, 154, 154, 143], 55) := by decide +kernel
theorem dX5_apply_88 : decode cX5_apply 88 = .ok (.aload_n 0, 1) := by decide +kernel
theorem dX5_apply_89 : decode cX5_apply 89 = .ok (.getfield 29, 3) := by decide +kernel
theorem dX5_apply_92 : decode cX5_apply 92 = .ok (.iload_n 2, 1) := by decide +kernel
theorem dX5_apply_93 : decode cX5_apply 93 = .ok (.putfield 114, 3) := by decide +kernel
theorem dX5_apply_96 : decode cX5_apply 96 = .ok (.goto 112, 3) := by decide +kernel
theorem dX5_apply_99 : decode cX5_apply 99 = .ok (.aload_n 0, 1) := by decide +kernel
theorem dX5_apply_100 : decode cX5_apply 100 = .ok (.getfield 29, 3) := by decide +kernel
theorem dX5_apply_103 : decode cX5_apply 103 = .ok (.iload_n 2, 1) := by decide +kernel
theorem dX5_apply_104 : decode cX5_apply 104 = .ok (.iload_n 3, 1) := by decide +kernel
theorem dX5_apply_105 : decode cX5_apply 105 = .ok (.iload 4, 2) := by decide +kernel
theorem dX5_apply_107 : decode cX5_apply 107 = .ok (.invokevirtual 117, 3) := by decide +kernel
theorem dX5_apply_110 : decode cX5_apply 110 = .ok (.pop, 1) := by decide +kernel
theorem dX5_apply_111 : decode cX5_apply 111 = .ok (.goto 97, 3) := by decide +kernel
theorem dX5_apply_114 : decode cX5_apply 114 = .ok (.aload_n 0, 1) := by decide +kernel
theorem dX5_apply_115 : decode cX5_apply 115 = .ok (.getfield 29, 3) := by decide +kernel
theorem dX5_apply_118 : decode cX5_apply 118 = .ok (.iload_n 2, 1) := by decide +kernel
theorem dX5_apply_119 : decode cX5_apply 119 = .ok (.iload_n 3, 1) := by decide +kernel
theorem dX5_apply_120 : decode cX5_apply 120 = .ok (.invokevirtual 121, 3) := by decide +kernel
theorem dX5_apply_123 : decode cX5_apply 123 = .ok (.goto 85, 3) := by decide +kernel
theorem dX5_apply_126 : decode cX5_apply 126 = .ok (.aload_n 0, 1) := by decide +kernel
theorem dX5_apply_127 : decode cX5_apply 127 = .ok (.getfield 29, 3) := by decide +kernel
theorem dX5_apply_130 : decode cX5_apply 130 = .ok (.iload_n 2, 1) := by decide +kernel
theorem dX5_apply_131 : decode cX5_apply 131 = .ok (.putfield 125, 3) := by decide +kernel
theorem dX5_apply_134 : decode cX5_apply 134 = .ok (.goto 74, 3) := by decide +kernel
theorem dX5_apply_137 : decode cX5_apply 137 = .ok (.aload_n 0, 1) := by decide +kernel
theorem dX5_apply_138 : decode cX5_apply 138 = .ok (.getfield 29, 3) := by decide +kernel
theorem dX5_apply_141 : decode cX5_apply 141 = .ok (.iload_n 2, 1) := by decide +kernel
theorem dX5_apply_142 : decode cX5_apply 142 = .ok (.putfield 128, 3) := by decide +kernel
theorem dX5_apply_145 : decode cX5_apply 145 = .ok (.goto 63, 3) := by decide +kernel
theorem dX5_apply_148 : decode cX5_apply 148 = .ok (.aload_n 0, 1) := by decide +kernel
theorem dX5_apply_149 : decode cX5_apply 149 = .ok (.getfield 29, 3) := by decide +kernel
theorem dX5_apply_152 : decode cX5_apply 152 = .ok (.iload_n 2, 1) := by decide +kernel
theorem dX5_apply_153 : decode cX5_apply 153 = .ok (.iload_n 3, 1) := by decide +kernel
theorem dX5_apply_154 : decode cX5_apply 154 = .ok (.invokevirtual 131, 3) := by decide +kernel
theorem dX5_apply_157 : decode cX5_apply 157 = .ok (.pop, 1) := by decide +kernel
theorem dX5_apply_158 : decode cX5_apply 158 = .ok (.goto 50, 3) := by decide +kernel
theorem dX5_apply_161 : decode cX5_apply 161 = .ok (.aload_n 0, 1) := by decide +kernel
theorem dX5_apply_162 : decode cX5_apply 162 = .ok (.getfield 29, 3) := by decide +kernel
theorem dX5_apply_165 : decode cX5_apply 165 = .ok (.iload_n 2, 1) := by decide +kernel
theorem dX5_apply_166 : decode cX5_apply 166 = .ok (.iload_n 3, 1) := by decide +kernel
theorem dX5_apply_167 : decode cX5_apply 167 = .ok (.iload 4, 2) := by decide +kernel
theorem dX5_apply_169 : decode cX5_apply 169 = .ok (.invokevirtual 134, 3) := by decide +kernel
theorem dX5_apply_172 : decode cX5_apply 172 = .ok (.pop, 1) := by decide +kernel
theorem dX5_apply_173 : decode cX5_apply 173 = .ok (.goto 35, 3) := by decide +kernel
theorem dX5_apply_176 : decode cX5_apply 176 = .ok (.aload_n 0, 1) := by decide +kernel
theorem dX5_apply_177 : decode cX5_apply 177 = .ok (.getfield 29, 3) := by decide +kernel
theorem dX5_apply_180 : decode cX5_apply 180 = .ok (.iload_n 2, 1) := by decide +kernel
theorem dX5_apply_181 : decode cX5_apply 181 = .ok (.putfield 137, 3) := by decide +kernel
theorem dX5_apply_184 : decode cX5_apply 184 = .ok (.goto 24, 3) := by decide +kernel
theorem dX5_apply_187 : decode cX5_apply 187 = .ok (.aload 5, 2) := by decide +kernel
theorem dX5_apply_189 : decode cX5_apply 189 = .ok (.ifnull 19, 3) := by decide +kernel
theorem dX5_apply_192 : decode cX5_apply 192 = .ok (.aload 5, 2) := by decide +kernel
theorem dX5_apply_194 : decode cX5_apply 194 = .ok (.iload_n 1, 1) := by decide +kernel
theorem dX5_apply_195 : decode cX5_apply 195 = .ok (.bipush 8, 2) := by decide +kernel
theorem dX5_apply_197 : decode cX5_apply 197 = .ok (.if_icmp .ne 7, 3) := by decide +kernel
theorem dX5_apply_200 : decode cX5_apply 200 = .ok (.iconst 1, 1) := by decide +kernel
theorem dX5_apply_201 : decode cX5_apply 201 = .ok (.goto 4, 3) := by decide +kernel
theorem dX5_apply_204 : decode cX5_apply 204 = .ok (.iconst 0, 1) := by decide +kernel
theorem dX5_apply_205 : decode cX5_apply 205 = .ok (.putfield 140, 3) := by decide +kernel
theorem dX5_apply_208 : decode cX5_apply 208 = .ok (.return_, 1) := by decide +kernel
theorem dX5_sortOf_0 : decode cX5_sortOf 0 = .ok (.iload_n 0, 1) := by decide +kernel
theorem dX5_sortOf_1 : decode cX5_sortOf 1 = .ok (.iconst 3, 1) := by decide +kernel
theorem dX5_sortOf_2 : decode cX5_sortOf 2 = .ok (.imul, 1) := by decide +kernel
theorem dX5_sortOf_3 : decode cX5_sortOf 3 = .ok (.iload_n 1, 1) := by decide +kernel
theorem dX5_sortOf_4 : decode cX5_sortOf 4 = .ok (.iadd, 1) := by decide +kernel
theorem dX5_sortOf_5 : decode cX5_sortOf 5 = .ok (.istore_n 2, 1) := by decide +kernel
theorem dX5_sortOf_6 : decode cX5_sortOf 6 = .ok (.iload_n 2, 1) := by decide +kernel
theorem dX5_sortOf_7 : decode cX5_sortOf 7 = .ok (.ifCond .lt 19, 3) := by decide +kernel
theorem dX5_sortOf_10 : decode cX5_sortOf 10 = .ok (.iload_n 2, 1) := by decide +kernel
theorem dX5_sortOf_11 : decode cX5_sortOf 11 = .ok (.getstatic 146, 3) := by decide +kernel
theorem dX5_sortOf_14 : decode cX5_sortOf 14 = .ok (.arraylength, 1) := by decide +kernel
theorem dX5_sortOf_15 : decode cX5_sortOf 15 = .ok (.if_icmp .ge 11, 3) := by decide +kernel
theorem dX5_sortOf_18 : decode cX5_sortOf 18 = .ok (.getstatic 146, 3) := by decide +kernel
theorem dX5_sortOf_21 : decode cX5_sortOf 21 = .ok (.iload_n 2, 1) := by decide +kernel
theorem dX5_sortOf_22 : decode cX5_sortOf 22 = .ok (.iaload, 1) := by decide +kernel
theorem dX5_sortOf_23 : decode cX5_sortOf 23 = .ok (.goto 4, 3) := by decide +kernel
theorem dX5_sortOf_26 : decode cX5_sortOf 26 = .ok (.iconst (-1), 1) := by decide +kernel
theorem dX5_sortOf_27 : decode cX5_sortOf 27 = .ok (.ireturn, 1) := by decide +kernel
theorem dX5_lettersOf_0 : decode cX5_lettersOf 0 = .ok (.iload_n 0, 1) := by decide +kernel
theorem dX5_lettersOf_1 : decode cX5_lettersOf 1 = .ok (.tableswitch 78 0 8 #[51, 54, 57, 60, 63, 66, 69, 72, 75], 51) := by decide +kernel
theorem dX5_lettersOf_52 : decode cX5_lettersOf 52 = .ok (.ldc 149, 2) := by decide +kernel
theorem dX5_lettersOf_54 : decode cX5_lettersOf 54 = .ok (.areturn, 1) := by decide +kernel
theorem dX5_lettersOf_55 : decode cX5_lettersOf 55 = .ok (.ldc 150, 2) := by decide +kernel
theorem dX5_lettersOf_57 : decode cX5_lettersOf 57 = .ok (.areturn, 1) := by decide +kernel
theorem dX5_lettersOf_58 : decode cX5_lettersOf 58 = .ok (.ldc 152, 2) := by decide +kernel
theorem dX5_lettersOf_60 : decode cX5_lettersOf 60 = .ok (.areturn, 1) := by decide +kernel
theorem dX5_lettersOf_61 : decode cX5_lettersOf 61 = .ok (.ldc 154, 2) := by decide +kernel
theorem dX5_lettersOf_63 : decode cX5_lettersOf 63 = .ok (.areturn, 1) := by decide +kernel
theorem dX5_lettersOf_64 : decode cX5_lettersOf 64 = .ok (.ldc 155, 2) := by decide +kernel
theorem dX5_lettersOf_66 : decode cX5_lettersOf 66 = .ok (.areturn, 1) := by decide +kernel
theorem dX5_lettersOf_67 : decode cX5_lettersOf 67 = .ok (.ldc 156, 2) := by decide +kernel
theorem dX5_lettersOf_69 : decode cX5_lettersOf 69 = .ok (.areturn, 1) := by decide +kernel
theorem dX5_lettersOf_70 : decode cX5_lettersOf 70 = .ok (.ldc 158, 2) := by decide +kernel
theorem dX5_lettersOf_72 : decode cX5_lettersOf 72 = .ok (.areturn, 1) := by decide +kernel
theorem dX5_lettersOf_73 : decode cX5_lettersOf 73 = .ok (.ldc 160, 2) := by decide +kernel
theorem dX5_lettersOf_75 : decode cX5_lettersOf 75 = .ok (.areturn, 1) := by decide +kernel
theorem dX5_lettersOf_76 : decode cX5_lettersOf 76 = .ok (.ldc 162, 2) := by decide +kernel
theorem dX5_lettersOf_78 : decode cX5_lettersOf 78 = .ok (.areturn, 1) := by decide +kernel
theorem dX5_lettersOf_79 : decode cX5_lettersOf 79 = .ok (.ldc 163, 2) := by decide +kernel
theorem dX5_lettersOf_81 : decode cX5_lettersOf 81 = .ok (.areturn, 1) := by decide +kernel
theorem dX6_init_0 : decode cX6_init 0 = .ok (.aload_n 0, 1) := by decide +kernel
theorem dX6_init_1 : decode cX6_init 1 = .ok (.invokespecial 3, 3) := by decide +kernel
theorem dX6_init_4 : decode cX6_init 4 = .ok (.aload_n 0, 1) := by decide +kernel
theorem dX6_init_5 : decode cX6_init 5 = .ok (.bipush 8, 2) := by decide +kernel
theorem dX6_init_7 : decode cX6_init 7 = .ok (.newarray .int, 2) := by decide +kernel
theorem dX6_init_9 : decode cX6_init 9 = .ok (.putfield 9, 3) := by decide +kernel
theorem dX6_init_12 : decode cX6_init 12 = .ok (.aload_n 0, 1) := by decide +kernel
theorem dX6_init_13 : decode cX6_init 13 = .ok (.iconst 0, 1) := by decide +kernel
theorem dX6_init_14 : decode cX6_init 14 = .ok (.putfield 15, 3) := by decide +kernel
theorem dX6_init_17 : decode cX6_init 17 = .ok (.aload_n 0, 1) := by decide +kernel
theorem dX6_init_18 : decode cX6_init 18 = .ok (.aload_n 1, 1) := by decide +kernel
theorem dX6_init_19 : decode cX6_init 19 = .ok (.putfield 19, 3) := by decide +kernel
theorem dX6_init_22 : decode cX6_init 22 = .ok (.return_, 1) := by decide +kernel
theorem dX6_begin_0 : decode cX6_begin 0 = .ok (.aload_n 0, 1) := by decide +kernel
theorem dX6_begin_1 : decode cX6_begin 1 = .ok (.aload_n 0, 1) := by decide +kernel
theorem dX6_begin_2 : decode cX6_begin 2 = .ok (.getfield 19, 3) := by decide +kernel
theorem dX6_begin_5 : decode cX6_begin 5 = .ok (.getfield 23, 3) := by decide +kernel
theorem dX6_begin_8 : decode cX6_begin 8 = .ok (.aload_n 0, 1) := by decide +kernel
theorem dX6_begin_9 : decode cX6_begin 9 = .ok (.getfield 9, 3) := by decide +kernel
theorem dX6_begin_12 : decode cX6_begin 12 = .ok (.arraylength, 1) := by decide +kernel
theorem dX6_begin_13 : decode cX6_begin 13 = .ok (.invokestatic 28, 3) := by decide +kernel
theorem dX6_begin_16 : decode cX6_begin 16 = .ok (.putfield 15, 3) := by decide +kernel
theorem dX6_begin_19 : decode cX6_begin 19 = .ok (.iconst 0, 1) := by decide +kernel
theorem dX6_begin_20 : decode cX6_begin 20 = .ok (.istore_n 1, 1) := by decide +kernel
theorem dX6_begin_21 : decode cX6_begin 21 = .ok (.iload_n 1, 1) := by decide +kernel
theorem dX6_begin_22 : decode cX6_begin 22 = .ok (.aload_n 0, 1) := by decide +kernel
theorem dX6_begin_23 : decode cX6_begin 23 = .ok (.getfield 15, 3) := by decide +kernel
theorem dX6_begin_26 : decode cX6_begin 26 = .ok (.if_icmp .ge 23, 3) := by decide +kernel
theorem dX6_begin_29 : decode cX6_begin 29 = .ok (.aload_n 0, 1) := by decide +kernel
theorem dX6_begin_30 : decode cX6_begin 30 = .ok (.getfield 9, 3) := by decide +kernel
theorem dX6_begin_33 : decode cX6_begin 33 = .ok (.iload_n 1, 1) := by decide +kernel
theorem dX6_begin_34 : decode cX6_begin 34 = .ok (.aload_n 0, 1) := by decide +kernel
theorem dX6_begin_35 : decode cX6_begin 35 = .ok (.getfield 19, 3) := by decide +kernel
theorem dX6_begin_38 : decode cX6_begin 38 = .ok (.iload_n 1, 1) := by decide +kernel
theorem dX6_begin_39 : decode cX6_begin 39 = .ok (.invokevirtual 34, 3) := by decide +kernel
theorem dX6_begin_42 : decode cX6_begin 42 = .ok (.iastore, 1) := by decide +kernel
theorem dX6_begin_43 : decode cX6_begin 43 = .ok (.iinc 1 1, 3) := by decide +kernel
theorem dX6_begin_46 : decode cX6_begin 46 = .ok (.goto (-25), 3) := by decide +kernel
theorem dX6_begin_49 : decode cX6_begin 49 = .ok (.return_, 1) := by decide +kernel
theorem dX6_channelAt_0 : decode cX6_channelAt 0 = .ok (.iload_n 1, 1) := by decide +kernel
theorem dX6_channelAt_1 : decode cX6_channelAt 1 = .ok (.ifCond .lt 29, 3) := by decide +kernel
theorem dX6_channelAt_4 : decode cX6_channelAt 4 = .ok (.iload_n 1, 1) := by decide +kernel
theorem dX6_channelAt_5 : decode cX6_channelAt 5 = .ok (.aload_n 0, 1) := by decide +kernel
theorem dX6_channelAt_6 : decode cX6_channelAt 6 = .ok (.getfield 15, 3) := by decide +kernel
theorem dX6_channelAt_9 : decode cX6_channelAt 9 = .ok (.if_icmp .ge 21, 3) := by decide +kernel
theorem dX6_channelAt_12 : decode cX6_channelAt 12 = .ok (.iload_n 1, 1) := by decide +kernel
theorem dX6_channelAt_13 : decode cX6_channelAt 13 = .ok (.aload_n 0, 1) := by decide +kernel
theorem dX6_channelAt_14 : decode cX6_channelAt 14 = .ok (.getfield 9, 3) := by decide +kernel
theorem dX6_channelAt_17 : decode cX6_channelAt 17 = .ok (.arraylength, 1) := by decide +kernel
theorem dX6_channelAt_18 : decode cX6_channelAt 18 = .ok (.if_icmp .ge 12, 3) := by decide +kernel
theorem dX6_channelAt_21 : decode cX6_channelAt 21 = .ok (.aload_n 0, 1) := by decide +kernel
theorem dX6_channelAt_22 : decode cX6_channelAt 22 = .ok (.getfield 9, 3) := by decide +kernel
theorem dX6_channelAt_25 : decode cX6_channelAt 25 = .ok (.iload_n 1, 1) := by decide +kernel
theorem dX6_channelAt_26 : decode cX6_channelAt 26 = .ok (.iaload, 1) := by decide +kernel
theorem dX6_channelAt_27 : decode cX6_channelAt 27 = .ok (.goto 4, 3) := by decide +kernel
theorem dX6_channelAt_30 : decode cX6_channelAt 30 = .ok (.iconst (-1), 1) := by decide +kernel
theorem dX6_channelAt_31 : decode cX6_channelAt 31 = .ok (.ireturn, 1) := by decide +kernel
theorem dX6_goOnce_0 : decode cX6_goOnce 0 = .ok (.iconst 0, 1) := by decide +kernel
theorem dX6_goOnce_1 : decode cX6_goOnce 1 = .ok (.istore_n 1, 1) := by decide +kernel
theorem dX6_goOnce_2 : decode cX6_goOnce 2 = .ok (.iconst 0, 1) := by decide +kernel
theorem dX6_goOnce_3 : decode cX6_goOnce 3 = .ok (.istore_n 2, 1) := by decide +kernel
theorem dX6_goOnce_4 : decode cX6_goOnce 4 = .ok (.iload_n 2, 1) := by decide +kernel
theorem dX6_goOnce_5 : decode cX6_goOnce 5 = .ok (.aload_n 0, 1) := by decide +kernel
theorem dX6_goOnce_6 : decode cX6_goOnce 6 = .ok (.getfield 15, 3) := by decide +kernel
theorem dX6_goOnce_9 : decode cX6_goOnce 9 = .ok (.if_icmp .ge 53, 3) := by decide +kernel
theorem dX6_goOnce_12 : decode cX6_goOnce 12 = .ok (.iload_n 2, 1) := by decide +kernel
theorem dX6_goOnce_13 : decode cX6_goOnce 13 = .ok (.aload_n 0, 1) := by decide +kernel
theorem dX6_goOnce_14 : decode cX6_goOnce 14 = .ok (.getfield 9, 3) := by decide +kernel
theorem dX6_goOnce_17 : decode cX6_goOnce 17 = .ok (.arraylength, 1) := by decide +kernel
theorem dX6_goOnce_18 : decode cX6_goOnce 18 = .ok (.if_icmp .ge 44, 3) := by decide +kernel
theorem dX6_goOnce_21 : decode cX6_goOnce 21 = .ok (.aload_n 0, 1) := by decide +kernel
theorem dX6_goOnce_22 : decode cX6_goOnce 22 = .ok (.iload_n 2, 1) := by decide +kernel
theorem dX6_goOnce_23 : decode cX6_goOnce 23 = .ok (.invokevirtual 38, 3) := by decide +kernel
theorem dX6_goOnce_26 : decode cX6_goOnce 26 = .ok (.istore_n 3, 1) := by decide +kernel
theorem dX6_goOnce_27 : decode cX6_goOnce 27 = .ok (.aload_n 0, 1) := by decide +kernel
theorem dX6_goOnce_28 : decode cX6_goOnce 28 = .ok (.iload_n 3, 1) := by decide +kernel
theorem dX6_goOnce_29 : decode cX6_goOnce 29 = .ok (.iload_n 2, 1) := by decide +kernel
theorem dX6_goOnce_30 : decode cX6_goOnce 30 = .ok (.invokevirtual 41, 3) := by decide +kernel
theorem dX6_goOnce_33 : decode cX6_goOnce 33 = .ok (.aload_n 0, 1) := by decide +kernel
theorem dX6_goOnce_34 : decode cX6_goOnce 34 = .ok (.aload_n 0, 1) := by decide +kernel
theorem dX6_goOnce_35 : decode cX6_goOnce 35 = .ok (.getfield 9, 3) := by decide +kernel
theorem dX6_goOnce_38 : decode cX6_goOnce 38 = .ok (.iload_n 2, 1) := by decide +kernel
theorem dX6_goOnce_39 : decode cX6_goOnce 39 = .ok (.iaload, 1) := by decide +kernel
theorem dX6_goOnce_40 : decode cX6_goOnce 40 = .ok (.iload_n 2, 1) := by decide +kernel
theorem dX6_goOnce_41 : decode cX6_goOnce 41 = .ok (.invokevirtual 41, 3) := by decide +kernel
theorem dX6_goOnce_44 : decode cX6_goOnce 44 = .ok (.if_icmp .ge 12, 3) := by decide +kernel
theorem dX6_goOnce_47 : decode cX6_goOnce 47 = .ok (.aload_n 0, 1) := by decide +kernel
theorem dX6_goOnce_48 : decode cX6_goOnce 48 = .ok (.getfield 9, 3) := by decide +kernel
theorem dX6_goOnce_51 : decode cX6_goOnce 51 = .ok (.iload_n 2, 1) := by decide +kernel
theorem dX6_goOnce_52 : decode cX6_goOnce 52 = .ok (.iload_n 3, 1) := by decide +kernel
theorem dX6_goOnce_53 : decode cX6_goOnce 53 = .ok (.iastore, 1) := by decide +kernel
theorem dX6_goOnce_54 : decode cX6_goOnce 54 = .ok (.iconst 1, 1) := by decide +kernel
theorem dX6_goOnce_55 : decode cX6_goOnce 55 = .ok (.istore_n 1, 1) := by decide +kernel
theorem dX6_goOnce_56 : decode cX6_goOnce 56 = .ok (.iinc 2 1, 3) := by decide +kernel
theorem dX6_goOnce_59 : decode cX6_goOnce 59 = .ok (.goto (-55), 3) := by decide +kernel
theorem dX6_goOnce_62 : decode cX6_goOnce 62 = .ok (.iload_n 1, 1) := by decide +kernel
theorem dX6_goOnce_63 : decode cX6_goOnce 63 = .ok (.ireturn, 1) := by decide +kernel
theorem dX6_quietestFor_0 : decode cX6_quietestFor 0 = .ok (.iconst 1, 1) := by decide +kernel
theorem dX6_quietestFor_1 : decode cX6_quietestFor 1 = .ok (.istore_n 2, 1) := by decide +kernel
theorem dX6_quietestFor_2 : decode cX6_quietestFor 2 = .ok (.aload_n 0, 1) := by decide +kernel
theorem dX6_quietestFor_3 : decode cX6_quietestFor 3 = .ok (.iconst 1, 1) := by decide +kernel
theorem dX6_quietestFor_4 : decode cX6_quietestFor 4 = .ok (.iload_n 1, 1) := by decide +kernel
theorem dX6_quietestFor_5 : decode cX6_quietestFor 5 = .ok (.invokevirtual 41, 3) := by decide +kernel
theorem dX6_quietestFor_8 : decode cX6_quietestFor 8 = .ok (.istore_n 3, 1) := by decide +kernel
theorem dX6_quietestFor_9 : decode cX6_quietestFor 9 = .ok (.iconst 2, 1) := by decide +kernel
theorem dX6_quietestFor_10 : decode cX6_quietestFor 10 = .ok (.istore 4, 2) := by decide +kernel
theorem dX6_quietestFor_12 : decode cX6_quietestFor 12 = .ok (.iload 4, 2) := by decide +kernel
theorem dX6_quietestFor_14 : decode cX6_quietestFor 14 = .ok (.bipush 13, 2) := by decide +kernel
theorem dX6_quietestFor_16 : decode cX6_quietestFor 16 = .ok (.if_icmp .gt 30, 3) := by decide +kernel
theorem dX6_quietestFor_19 : decode cX6_quietestFor 19 = .ok (.aload_n 0, 1) := by decide +kernel
theorem dX6_quietestFor_20 : decode cX6_quietestFor 20 = .ok (.iload 4, 2) := by decide +kernel
theorem dX6_quietestFor_22 : decode cX6_quietestFor 22 = .ok (.iload_n 1, 1) := by decide +kernel
theorem dX6_quietestFor_23 : decode cX6_quietestFor 23 = .ok (.invokevirtual 41, 3) := by decide +kernel
theorem dX6_quietestFor_26 : decode cX6_quietestFor 26 = .ok (.istore 5, 2) := by decide +kernel
theorem dX6_quietestFor_28 : decode cX6_quietestFor 28 = .ok (.iload 5, 2) := by decide +kernel
theorem dX6_quietestFor_30 : decode cX6_quietestFor 30 = .ok (.iload_n 3, 1) := by decide +kernel
theorem dX6_quietestFor_31 : decode cX6_quietestFor 31 = .ok (.if_icmp .ge 9, 3) := by decide +kernel
theorem dX6_quietestFor_34 : decode cX6_quietestFor 34 = .ok (.iload 5, 2) := by decide +kernel
theorem dX6_quietestFor_36 : decode cX6_quietestFor 36 = .ok (.istore_n 3, 1) := by decide +kernel
theorem dX6_quietestFor_37 : decode cX6_quietestFor 37 = .ok (.iload 4, 2) := by decide +kernel
theorem dX6_quietestFor_39 : decode cX6_quietestFor 39 = .ok (.istore_n 2, 1) := by decide +kernel
theorem dX6_quietestFor_40 : decode cX6_quietestFor 40 = .ok (.iinc 4 1, 3) := by decide +kernel
theorem dX6_quietestFor_43 : decode cX6_quietestFor 43 = .ok (.goto (-31), 3) := by decide +kernel
theorem dX6_quietestFor_46 : decode cX6_quietestFor 46 = .ok (.iload_n 2, 1) := by decide +kernel
theorem dX6_quietestFor_47 : decode cX6_quietestFor 47 = .ok (.ireturn, 1) := by decide +kernel
theorem dX6_madeOn_0 : decode cX6_madeOn 0 = .ok (.bipush 10, 2) := by decide +kernel
theorem dX6_madeOn_2 : decode cX6_madeOn 2 = .ok (.aload_n 0, 1) := by decide +kernel
theorem dX6_madeOn_3 : decode cX6_madeOn 3 = .ok (.getfield 19, 3) := by decide +kernel
theorem dX6_madeOn_6 : decode cX6_madeOn 6 = .ok (.getfield 44, 3) := by decide +kernel
theorem dX6_madeOn_9 : decode cX6_madeOn 9 = .ok (.iload_n 1, 1) := by decide +kernel
theorem dX6_madeOn_10 : decode cX6_madeOn 10 = .ok (.isub, 1) := by decide +kernel
theorem dX6_madeOn_11 : decode cX6_madeOn 11 = .ok (.invokestatic 47, 3) := by decide +kernel
theorem dX6_madeOn_14 : decode cX6_madeOn 14 = .ok (.istore_n 3, 1) := by decide +kernel
theorem dX6_madeOn_15 : decode cX6_madeOn 15 = .ok (.iconst 0, 1) := by decide +kernel
theorem dX6_madeOn_16 : decode cX6_madeOn 16 = .ok (.istore 4, 2) := by decide +kernel
theorem dX6_madeOn_18 : decode cX6_madeOn 18 = .ok (.iload 4, 2) := by decide +kernel
theorem dX6_madeOn_20 : decode cX6_madeOn 20 = .ok (.aload_n 0, 1) := by decide +kernel
theorem dX6_madeOn_21 : decode cX6_madeOn 21 = .ok (.getfield 15, 3) := by decide +kernel
theorem dX6_madeOn_24 : decode cX6_madeOn 24 = .ok (.if_icmp .ge 38, 3) := by decide +kernel
theorem dX6_madeOn_27 : decode cX6_madeOn 27 = .ok (.iload 4, 2) := by decide +kernel
theorem dX6_madeOn_29 : decode cX6_madeOn 29 = .ok (.iload_n 2, 1) := by decide +kernel
theorem dX6_madeOn_30 : decode cX6_madeOn 30 = .ok (.if_icmp .eq 26, 3) := by decide +kernel
theorem dX6_madeOn_33 : decode cX6_madeOn 33 = .ok (.iload_n 3, 1) := by decide +kernel
theorem dX6_madeOn_34 : decode cX6_madeOn 34 = .ok (.aload_n 0, 1) := by decide +kernel
theorem dX6_madeOn_35 : decode cX6_madeOn 35 = .ok (.getfield 19, 3) := by decide +kernel
theorem dX6_madeOn_38 : decode cX6_madeOn 38 = .ok (.iload 4, 2) := by decide +kernel
theorem dX6_madeOn_40 : decode cX6_madeOn 40 = .ok (.invokevirtual 50, 3) := by decide +kernel
theorem dX6_madeOn_43 : decode cX6_madeOn 43 = .ok (.aload_n 0, 1) := by decide +kernel
theorem dX6_madeOn_44 : decode cX6_madeOn 44 = .ok (.iload 4, 2) := by decide +kernel
theorem dX6_madeOn_46 : decode cX6_madeOn 46 = .ok (.invokevirtual 53, 3) := by decide +kernel
theorem dX6_madeOn_49 : decode cX6_madeOn 49 = .ok (.iload_n 1, 1) := by decide +kernel
theorem dX6_madeOn_50 : decode cX6_madeOn 50 = .ok (.isub, 1) := by decide +kernel
theorem dX6_madeOn_51 : decode cX6_madeOn 51 = .ok (.invokestatic 47, 3) := by decide +kernel
theorem dX6_madeOn_54 : decode cX6_madeOn 54 = .ok (.iadd, 1) := by decide +kernel
theorem dX6_madeOn_55 : decode cX6_madeOn 55 = .ok (.istore_n 3, 1) := by decide +kernel
theorem dX6_madeOn_56 : decode cX6_madeOn 56 = .ok (.iinc 4 1, 3) := by decide +kernel
theorem dX6_madeOn_59 : decode cX6_madeOn 59 = .ok (.goto (-41), 3) := by decide +kernel
theorem dX6_madeOn_62 : decode cX6_madeOn 62 = .ok (.iload_n 3, 1) := by decide +kernel
theorem dX6_madeOn_63 : decode cX6_madeOn 63 = .ok (.ireturn, 1) := by decide +kernel
theorem dX7_init_0 : decode cX7_init 0 = .ok (.aload_n 0, 1) := by decide +kernel
theorem dX7_init_1 : decode cX7_init 1 = .ok (.invokespecial 3, 3) := by decide +kernel
theorem dX7_init_4 : decode cX7_init 4 = .ok (.aload_n 0, 1) := by decide +kernel
theorem dX7_init_5 : decode cX7_init 5 = .ok (.bipush 80, 2) := by decide +kernel
theorem dX7_init_7 : decode cX7_init 7 = .ok (.newarray .int, 2) := by decide +kernel
theorem dX7_init_9 : decode cX7_init 9 = .ok (.putfield 9, 3) := by decide +kernel
theorem dX7_init_12 : decode cX7_init 12 = .ok (.aload_n 0, 1) := by decide +kernel
theorem dX7_init_13 : decode cX7_init 13 = .ok (.bipush 6, 2) := by decide +kernel
theorem dX7_init_15 : decode cX7_init 15 = .ok (.newarray .int, 2) := by decide +kernel
theorem dX7_init_17 : decode cX7_init 17 = .ok (.putfield 15, 3) := by decide +kernel
theorem dX7_init_20 : decode cX7_init 20 = .ok (.aload_n 0, 1) := by decide +kernel
theorem dX7_init_21 : decode cX7_init 21 = .ok (.iconst 0, 1) := by decide +kernel
theorem dX7_init_22 : decode cX7_init 22 = .ok (.putfield 18, 3) := by decide +kernel
theorem dX7_init_25 : decode cX7_init 25 = .ok (.aload_n 0, 1) := by decide +kernel
theorem dX7_init_26 : decode cX7_init 26 = .ok (.aload_n 1, 1) := by decide +kernel
theorem dX7_init_27 : decode cX7_init 27 = .ok (.putfield 22, 3) := by decide +kernel
theorem dX7_init_30 : decode cX7_init 30 = .ok (.aload_n 0, 1) := by decide +kernel
theorem dX7_init_31 : decode cX7_init 31 = .ok (.aload_n 2, 1) := by decide +kernel
theorem dX7_init_32 : decode cX7_init 32 = .ok (.putfield 26, 3) := by decide +kernel
theorem dX7_init_35 : decode cX7_init 35 = .ok (.return_, 1) := by decide +kernel
theorem dX7_look_0 : decode cX7_look 0 = .ok (.aload_n 0, 1) := by decide +kernel
theorem dX7_look_1 : decode cX7_look 1 = .ok (.getfield 26, 3) := by decide +kernel
theorem dX7_look_4 : decode cX7_look 4 = .ok (.invokevirtual 30, 3) := by decide +kernel
theorem dX7_look_7 : decode cX7_look 7 = .ok (.aload_n 0, 1) := by decide +kernel
theorem dX7_look_8 : decode cX7_look 8 = .ok (.iconst 0, 1) := by decide +kernel
theorem dX7_look_9 : decode cX7_look 9 = .ok (.putfield 18, 3) := by decide +kernel
theorem dX7_look_12 : decode cX7_look 12 = .ok (.iconst 0, 1) := by decide +kernel
theorem dX7_look_13 : decode cX7_look 13 = .ok (.istore_n 3, 1) := by decide +kernel
theorem dX7_look_14 : decode cX7_look 14 = .ok (.iload_n 3, 1) := by decide +kernel
theorem dX7_look_15 : decode cX7_look 15 = .ok (.bipush 80, 2) := by decide +kernel
theorem dX7_look_17 : decode cX7_look 17 = .ok (.if_icmp .ge 62, 3) := by decide +kernel
theorem dX7_look_20 : decode cX7_look 20 = .ok (.aload_n 0, 1) := by decide +kernel
theorem dX7_look_21 : decode cX7_look 21 = .ok (.getfield 18, 3) := by decide +kernel
theorem dX7_look_24 : decode cX7_look 24 = .ok (.aload_n 0, 1) := by decide +kernel
theorem dX7_look_25 : decode cX7_look 25 = .ok (.getfield 9, 3) := by decide +kernel
theorem dX7_look_28 : decode cX7_look 28 = .ok (.arraylength, 1) := by decide +kernel
theorem dX7_look_29 : decode cX7_look 29 = .ok (.if_icmp .ge 50, 3) := by decide +kernel
theorem dX7_look_32 : decode cX7_look 32 = .ok (.aload_n 0, 1) := by decide +kernel
theorem dX7_look_33 : decode cX7_look 33 = .ok (.getfield 22, 3) := by decide +kernel
theorem dX7_look_36 : decode cX7_look 36 = .ok (.iload_n 3, 1) := by decide +kernel
theorem dX7_look_37 : decode cX7_look 37 = .ok (.invokevirtual 35, 3) := by decide +kernel
theorem dX7_look_40 : decode cX7_look 40 = .ok (.ifCond .eq 33, 3) := by decide +kernel
theorem dX7_look_43 : decode cX7_look 43 = .ok (.aload_n 0, 1) := by decide +kernel
theorem dX7_look_44 : decode cX7_look 44 = .ok (.iload_n 3, 1) := by decide +kernel
theorem dX7_look_45 : decode cX7_look 45 = .ok (.aload_n 1, 1) := by decide +kernel
theorem dX7_look_46 : decode cX7_look 46 = .ok (.iload_n 2, 1) := by decide +kernel
theorem dX7_look_47 : decode cX7_look 47 = .ok (.invokevirtual 41, 3) := by decide +kernel
theorem dX7_look_50 : decode cX7_look 50 = .ok (.ifCond .eq 23, 3) := by decide +kernel
theorem dX7_look_53 : decode cX7_look 53 = .ok (.aload_n 0, 1) := by decide +kernel
theorem dX7_look_54 : decode cX7_look 54 = .ok (.getfield 9, 3) := by decide +kernel
theorem dX7_look_57 : decode cX7_look 57 = .ok (.aload_n 0, 1) := by decide +kernel
theorem dX7_look_58 : decode cX7_look 58 = .ok (.getfield 18, 3) := by decide +kernel
theorem dX7_look_61 : decode cX7_look 61 = .ok (.iload_n 3, 1) := by decide +kernel
theorem dX7_look_62 : decode cX7_look 62 = .ok (.iastore, 1) := by decide +kernel
theorem dX7_look_63 : decode cX7_look 63 = .ok (.aload_n 0, 1) := by decide +kernel
theorem dX7_look_64 : decode cX7_look 64 = .ok (.dup, 1) := by decide +kernel
theorem dX7_look_65 : decode cX7_look 65 = .ok (.getfield 18, 3) := by decide +kernel
theorem dX7_look_68 : decode cX7_look 68 = .ok (.iconst 1, 1) := by decide +kernel
theorem dX7_look_69 : decode cX7_look 69 = .ok (.iadd, 1) := by decide +kernel
theorem dX7_look_70 : decode cX7_look 70 = .ok (.putfield 18, 3) := by decide +kernel
theorem dX7_look_73 : decode cX7_look 73 = .ok (.iinc 3 1, 3) := by decide +kernel
theorem dX7_look_76 : decode cX7_look 76 = .ok (.goto (-62), 3) := by decide +kernel
theorem dX7_look_79 : decode cX7_look 79 = .ok (.return_, 1) := by decide +kernel
theorem dX7_agrees_0 : decode cX7_agrees 0 = .ok (.aload_n 2, 1) := by decide +kernel
theorem dX7_agrees_1 : decode cX7_agrees 1 = .ok (.ifnonnull 5, 3) := by decide +kernel
theorem dX7_agrees_4 : decode cX7_agrees 4 = .ok (.iconst 0, 1) := by decide +kernel
theorem dX7_agrees_5 : decode cX7_agrees 5 = .ok (.ireturn, 1) := by decide +kernel
theorem dX7_agrees_6 : decode cX7_agrees 6 = .ok (.iconst 0, 1) := by decide +kernel
theorem dX7_agrees_7 : decode cX7_agrees 7 = .ok (.istore 4, 2) := by decide +kernel
theorem dX7_agrees_9 : decode cX7_agrees 9 = .ok (.iload 4, 2) := by decide +kernel
theorem dX7_agrees_11 : decode cX7_agrees 11 = .ok (.iload_n 3, 1) := by decide +kernel
theorem dX7_agrees_12 : decode cX7_agrees 12 = .ok (.if_icmp .ge 47, 3) := by decide +kernel
theorem dX7_agrees_15 : decode cX7_agrees 15 = .ok (.aload_n 0, 1) := by decide +kernel
theorem dX7_agrees_16 : decode cX7_agrees 16 = .ok (.getfield 26, 3) := by decide +kernel
theorem dX7_agrees_19 : decode cX7_agrees 19 = .ok (.iload_n 1, 1) := by decide +kernel
theorem dX7_agrees_20 : decode cX7_agrees 20 = .ok (.aload_n 2, 1) := by decide +kernel
theorem dX7_agrees_21 : decode cX7_agrees 21 = .ok (.iconst 2, 1) := by decide +kernel
theorem dX7_agrees_22 : decode cX7_agrees 22 = .ok (.iload 4, 2) := by decide +kernel
theorem dX7_agrees_24 : decode cX7_agrees 24 = .ok (.imul, 1) := by decide +kernel
theorem dX7_agrees_25 : decode cX7_agrees 25 = .ok (.invokevirtual 45, 3) := by decide +kernel
theorem dX7_agrees_28 : decode cX7_agrees 28 = .ok (.invokevirtual 51, 3) := by decide +kernel
theorem dX7_agrees_31 : decode cX7_agrees 31 = .ok (.invokestatic 55, 3) := by decide +kernel
theorem dX7_agrees_34 : decode cX7_agrees 34 = .ok (.istore 5, 2) := by decide +kernel
theorem dX7_agrees_36 : decode cX7_agrees 36 = .ok (.iload 5, 2) := by decide +kernel
theorem dX7_agrees_38 : decode cX7_agrees 38 = .ok (.aload_n 2, 1) := by decide +kernel
theorem dX7_agrees_39 : decode cX7_agrees 39 = .ok (.iconst 2, 1) := by decide +kernel
theorem dX7_agrees_40 : decode cX7_agrees 40 = .ok (.iload 4, 2) := by decide +kernel
theorem dX7_agrees_42 : decode cX7_agrees 42 = .ok (.imul, 1) := by decide +kernel
theorem dX7_agrees_43 : decode cX7_agrees 43 = .ok (.iconst 1, 1) := by decide +kernel
theorem dX7_agrees_44 : decode cX7_agrees 44 = .ok (.iadd, 1) := by decide +kernel
theorem dX7_agrees_45 : decode cX7_agrees 45 = .ok (.invokevirtual 45, 3) := by decide +kernel
theorem dX7_agrees_48 : decode cX7_agrees 48 = .ok (.if_icmp .eq 5, 3) := by decide +kernel
theorem dX7_agrees_51 : decode cX7_agrees 51 = .ok (.iconst 0, 1) := by decide +kernel
theorem dX7_agrees_52 : decode cX7_agrees 52 = .ok (.ireturn, 1) := by decide +kernel
theorem dX7_agrees_53 : decode cX7_agrees 53 = .ok (.iinc 4 1, 3) := by decide +kernel
theorem dX7_agrees_56 : decode cX7_agrees 56 = .ok (.goto (-47), 3) := by decide +kernel
theorem dX7_agrees_59 : decode cX7_agrees 59 = .ok (.iconst 1, 1) := by decide +kernel
theorem dX7_agrees_60 : decode cX7_agrees 60 = .ok (.ireturn, 1) := by decide +kernel
theorem dX7_fitting_0 : decode cX7_fitting 0 = .ok (.iload_n 1, 1) := by decide +kernel
theorem dX7_fitting_1 : decode cX7_fitting 1 = .ok (.ifCond .lt 29, 3) := by decide +kernel
theorem dX7_fitting_4 : decode cX7_fitting 4 = .ok (.iload_n 1, 1) := by decide +kernel
theorem dX7_fitting_5 : decode cX7_fitting 5 = .ok (.aload_n 0, 1) := by decide +kernel
theorem dX7_fitting_6 : decode cX7_fitting 6 = .ok (.getfield 18, 3) := by decide +kernel
theorem dX7_fitting_9 : decode cX7_fitting 9 = .ok (.if_icmp .ge 21, 3) := by decide +kernel
theorem dX7_fitting_12 : decode cX7_fitting 12 = .ok (.iload_n 1, 1) := by decide +kernel
theorem dX7_fitting_13 : decode cX7_fitting 13 = .ok (.aload_n 0, 1) := by decide +kernel
theorem dX7_fitting_14 : decode cX7_fitting 14 = .ok (.getfield 9, 3) := by decide +kernel
theorem dX7_fitting_17 : decode cX7_fitting 17 = .ok (.arraylength, 1) := by decide +kernel
theorem dX7_fitting_18 : decode cX7_fitting 18 = .ok (.if_icmp .ge 12, 3) := by decide +kernel
theorem dX7_fitting_21 : decode cX7_fitting 21 = .ok (.aload_n 0, 1) := by decide +kernel
theorem dX7_fitting_22 : decode cX7_fitting 22 = .ok (.getfield 9, 3) := by decide +kernel
theorem dX7_fitting_25 : decode cX7_fitting 25 = .ok (.iload_n 1, 1) := by decide +kernel
theorem dX7_fitting_26 : decode cX7_fitting 26 = .ok (.iaload, 1) := by decide +kernel
theorem dX7_fitting_27 : decode cX7_fitting 27 = .ok (.goto 4, 3) := by decide +kernel
theorem dX7_fitting_30 : decode cX7_fitting 30 = .ok (.iconst (-1), 1) := by decide +kernel
theorem dX7_fitting_31 : decode cX7_fitting 31 = .ok (.ireturn, 1) := by decide +kernel
theorem dX7_bestMeasure_0 : decode cX7_bestMeasure 0 = .ok (.iconst 0, 1) := by decide +kernel
theorem dX7_bestMeasure_1 : decode cX7_bestMeasure 1 = .ok (.istore_n 1, 1) := by decide +kernel
theorem dX7_bestMeasure_2 : decode cX7_bestMeasure 2 = .ok (.aload_n 0, 1) := by decide +kernel
theorem dX7_bestMeasure_3 : decode cX7_bestMeasure 3 = .ok (.getfield 18, 3) := by decide +kernel
theorem dX7_bestMeasure_6 : decode cX7_bestMeasure 6 = .ok (.iconst 1, 1) := by decide +kernel
theorem dX7_bestMeasure_7 : decode cX7_bestMeasure 7 = .ok (.iadd, 1) := by decide +kernel
theorem dX7_bestMeasure_8 : decode cX7_bestMeasure 8 = .ok (.istore_n 2, 1) := by decide +kernel
theorem dX7_bestMeasure_9 : decode cX7_bestMeasure 9 = .ok (.iconst 0, 1) := by decide +kernel
theorem dX7_bestMeasure_10 : decode cX7_bestMeasure 10 = .ok (.istore_n 3, 1) := by decide +kernel
theorem dX7_bestMeasure_11 : decode cX7_bestMeasure 11 = .ok (.iload_n 3, 1) := by decide +kernel
theorem dX7_bestMeasure_12 : decode cX7_bestMeasure 12 = .ok (.bipush 80, 2) := by decide +kernel
theorem dX7_bestMeasure_14 : decode cX7_bestMeasure 14 = .ok (.if_icmp .ge 38, 3) := by decide +kernel
theorem dX7_bestMeasure_17 : decode cX7_bestMeasure 17 = .ok (.aload_n 0, 1) := by decide +kernel
theorem dX7_bestMeasure_18 : decode cX7_bestMeasure 18 = .ok (.getfield 22, 3) := by decide +kernel
theorem dX7_bestMeasure_21 : decode cX7_bestMeasure 21 = .ok (.iload_n 3, 1) := by decide +kernel
theorem dX7_bestMeasure_22 : decode cX7_bestMeasure 22 = .ok (.invokevirtual 35, 3) := by decide +kernel
theorem dX7_bestMeasure_25 : decode cX7_bestMeasure 25 = .ok (.ifCond .eq 21, 3) := by decide +kernel
theorem dX7_bestMeasure_28 : decode cX7_bestMeasure 28 = .ok (.aload_n 0, 1) := by decide +kernel
theorem dX7_bestMeasure_29 : decode cX7_bestMeasure 29 = .ok (.iload_n 3, 1) := by decide +kernel
theorem dX7_bestMeasure_30 : decode cX7_bestMeasure 30 = .ok (.invokevirtual 58, 3) := by decide +kernel
theorem dX7_bestMeasure_33 : decode cX7_bestMeasure 33 = .ok (.istore 4, 2) := by decide +kernel
theorem dX7_bestMeasure_35 : decode cX7_bestMeasure 35 = .ok (.iload 4, 2) := by decide +kernel
theorem dX7_bestMeasure_37 : decode cX7_bestMeasure 37 = .ok (.iload_n 2, 1) := by decide +kernel
theorem dX7_bestMeasure_38 : decode cX7_bestMeasure 38 = .ok (.if_icmp .ge 8, 3) := by decide +kernel
theorem dX7_bestMeasure_41 : decode cX7_bestMeasure 41 = .ok (.iload 4, 2) := by decide +kernel
theorem dX7_bestMeasure_43 : decode cX7_bestMeasure 43 = .ok (.istore_n 2, 1) := by decide +kernel
theorem dX7_bestMeasure_44 : decode cX7_bestMeasure 44 = .ok (.iload_n 3, 1) := by decide +kernel
theorem dX7_bestMeasure_45 : decode cX7_bestMeasure 45 = .ok (.istore_n 1, 1) := by decide +kernel
theorem dX7_bestMeasure_46 : decode cX7_bestMeasure 46 = .ok (.iinc 3 1, 3) := by decide +kernel
theorem dX7_bestMeasure_49 : decode cX7_bestMeasure 49 = .ok (.goto (-38), 3) := by decide +kernel
theorem dX7_bestMeasure_52 : decode cX7_bestMeasure 52 = .ok (.iload_n 1, 1) := by decide +kernel
theorem dX7_bestMeasure_53 : decode cX7_bestMeasure 53 = .ok (.ireturn, 1) := by decide +kernel
theorem dX7_worstLeft_0 : decode cX7_worstLeft 0 = .ok (.aload_n 0, 1) := by decide +kernel
theorem dX7_worstLeft_1 : decode cX7_worstLeft 1 = .ok (.getfield 15, 3) := by decide +kernel
theorem dX7_worstLeft_4 : decode cX7_worstLeft 4 = .ok (.iconst 0, 1) := by decide +kernel
theorem dX7_worstLeft_5 : decode cX7_worstLeft 5 = .ok (.invokestatic 61, 3) := by decide +kernel
theorem dX7_worstLeft_8 : decode cX7_worstLeft 8 = .ok (.iconst 0, 1) := by decide +kernel
theorem dX7_worstLeft_9 : decode cX7_worstLeft 9 = .ok (.istore_n 2, 1) := by decide +kernel
theorem dX7_worstLeft_10 : decode cX7_worstLeft 10 = .ok (.iconst 0, 1) := by decide +kernel
theorem dX7_worstLeft_11 : decode cX7_worstLeft 11 = .ok (.istore_n 3, 1) := by decide +kernel
theorem dX7_worstLeft_12 : decode cX7_worstLeft 12 = .ok (.iload_n 3, 1) := by decide +kernel
theorem dX7_worstLeft_13 : decode cX7_worstLeft 13 = .ok (.aload_n 0, 1) := by decide +kernel
theorem dX7_worstLeft_14 : decode cX7_worstLeft 14 = .ok (.getfield 18, 3) := by decide +kernel
theorem dX7_worstLeft_17 : decode cX7_worstLeft 17 = .ok (.if_icmp .ge 65, 3) := by decide +kernel
theorem dX7_worstLeft_20 : decode cX7_worstLeft 20 = .ok (.aload_n 0, 1) := by decide +kernel
theorem dX7_worstLeft_21 : decode cX7_worstLeft 21 = .ok (.getfield 26, 3) := by decide +kernel
theorem dX7_worstLeft_24 : decode cX7_worstLeft 24 = .ok (.aload_n 0, 1) := by decide +kernel
theorem dX7_worstLeft_25 : decode cX7_worstLeft 25 = .ok (.iload_n 3, 1) := by decide +kernel
theorem dX7_worstLeft_26 : decode cX7_worstLeft 26 = .ok (.invokevirtual 67, 3) := by decide +kernel
theorem dX7_worstLeft_29 : decode cX7_worstLeft 29 = .ok (.iload_n 1, 1) := by decide +kernel
theorem dX7_worstLeft_30 : decode cX7_worstLeft 30 = .ok (.invokevirtual 51, 3) := by decide +kernel
theorem dX7_worstLeft_33 : decode cX7_worstLeft 33 = .ok (.invokestatic 55, 3) := by decide +kernel
theorem dX7_worstLeft_36 : decode cX7_worstLeft 36 = .ok (.istore 4, 2) := by decide +kernel
theorem dX7_worstLeft_38 : decode cX7_worstLeft 38 = .ok (.iload 4, 2) := by decide +kernel
theorem dX7_worstLeft_40 : decode cX7_worstLeft 40 = .ok (.ifCond .lt 36, 3) := by decide +kernel
theorem dX7_worstLeft_43 : decode cX7_worstLeft 43 = .ok (.iload 4, 2) := by decide +kernel
theorem dX7_worstLeft_45 : decode cX7_worstLeft 45 = .ok (.aload_n 0, 1) := by decide +kernel
theorem dX7_worstLeft_46 : decode cX7_worstLeft 46 = .ok (.getfield 15, 3) := by decide +kernel
theorem dX7_worstLeft_49 : decode cX7_worstLeft 49 = .ok (.arraylength, 1) := by decide +kernel
theorem dX7_worstLeft_50 : decode cX7_worstLeft 50 = .ok (.if_icmp .ge 26, 3) := by decide +kernel
theorem dX7_worstLeft_53 : decode cX7_worstLeft 53 = .ok (.aload_n 0, 1) := by decide +kernel
theorem dX7_worstLeft_54 : decode cX7_worstLeft 54 = .ok (.getfield 15, 3) := by decide +kernel
theorem dX7_worstLeft_57 : decode cX7_worstLeft 57 = .ok (.iload 4, 2) := by decide +kernel
theorem dX7_worstLeft_59 : decode cX7_worstLeft 59 = .ok (.dup2, 1) := by decide +kernel
theorem dX7_worstLeft_60 : decode cX7_worstLeft 60 = .ok (.iaload, 1) := by decide +kernel
theorem dX7_worstLeft_61 : decode cX7_worstLeft 61 = .ok (.iconst 1, 1) := by decide +kernel
theorem dX7_worstLeft_62 : decode cX7_worstLeft 62 = .ok (.iadd, 1) := by decide +kernel
theorem dX7_worstLeft_63 : decode cX7_worstLeft 63 = .ok (.iastore, 1) := by decide +kernel
theorem dX7_worstLeft_64 : decode cX7_worstLeft 64 = .ok (.iload_n 2, 1) := by decide +kernel
theorem dX7_worstLeft_65 : decode cX7_worstLeft 65 = .ok (.aload_n 0, 1) := by decide +kernel
theorem dX7_worstLeft_66 : decode cX7_worstLeft 66 = .ok (.getfield 15, 3) := by decide +kernel
theorem dX7_worstLeft_69 : decode cX7_worstLeft 69 = .ok (.iload 4, 2) := by decide +kernel
theorem dX7_worstLeft_71 : decode cX7_worstLeft 71 = .ok (.iaload, 1) := by decide +kernel
theorem dX7_worstLeft_72 : decode cX7_worstLeft 72 = .ok (.invokestatic 70, 3) := by decide +kernel
theorem dX7_worstLeft_75 : decode cX7_worstLeft 75 = .ok (.istore_n 2, 1) := by decide +kernel
theorem dX7_worstLeft_76 : decode cX7_worstLeft 76 = .ok (.iinc 3 1, 3) := by decide +kernel
theorem dX7_worstLeft_79 : decode cX7_worstLeft 79 = .ok (.goto (-67), 3) := by decide +kernel
theorem dX7_worstLeft_82 : decode cX7_worstLeft 82 = .ok (.iload_n 2, 1) := by decide +kernel
theorem dX7_worstLeft_83 : decode cX7_worstLeft 83 = .ok (.ireturn, 1) := by decide +kernel
theorem dX8_init_0 : decode cX8_init 0 = .ok (.aload_n 0, 1) := by decide +kernel
theorem dX8_init_1 : decode cX8_init 1 = .ok (.invokespecial 3, 3) := by decide +kernel
theorem dX8_init_4 : decode cX8_init 4 = .ok (.aload_n 0, 1) := by decide +kernel
theorem dX8_init_5 : decode cX8_init 5 = .ok (.iconst (-1), 1) := by decide +kernel
theorem dX8_init_6 : decode cX8_init 6 = .ok (.putfield 11, 3) := by decide +kernel
theorem dX8_init_9 : decode cX8_init 9 = .ok (.aload_n 0, 1) := by decide +kernel
theorem dX8_init_10 : decode cX8_init 10 = .ok (.iconst 0, 1) := by decide +kernel
theorem dX8_init_11 : decode cX8_init 11 = .ok (.putfield 15, 3) := by decide +kernel
theorem dX8_init_14 : decode cX8_init 14 = .ok (.aload_n 0, 1) := by decide +kernel
theorem dX8_init_15 : decode cX8_init 15 = .ok (.iconst (-1), 1) := by decide +kernel
theorem dX8_init_16 : decode cX8_init 16 = .ok (.putfield 18, 3) := by decide +kernel
theorem dX8_init_19 : decode cX8_init 19 = .ok (.aload_n 0, 1) := by decide +kernel
theorem dX8_init_20 : decode cX8_init 20 = .ok (.sipush 160, 3) := by decide +kernel
theorem dX8_init_23 : decode cX8_init 23 = .ok (.newarray .long, 2) := by decide +kernel
theorem dX8_init_25 : decode cX8_init 25 = .ok (.putfield 21, 3) := by decide +kernel
theorem dX8_init_28 : decode cX8_init 28 = .ok (.return_, 1) := by decide +kernel
theorem dX8_clear_0 : decode cX8_clear 0 = .ok (.aload_n 0, 1) := by decide +kernel
theorem dX8_clear_1 : decode cX8_clear 1 = .ok (.iconst (-1), 1) := by decide +kernel
theorem dX8_clear_2 : decode cX8_clear 2 = .ok (.putfield 11, 3) := by decide +kernel
theorem dX8_clear_5 : decode cX8_clear 5 = .ok (.aload_n 0, 1) := by decide +kernel
theorem dX8_clear_6 : decode cX8_clear 6 = .ok (.iconst 0, 1) := by decide +kernel
theorem dX8_clear_7 : decode cX8_clear 7 = .ok (.putfield 15, 3) := by decide +kernel
theorem dX8_clear_10 : decode cX8_clear 10 = .ok (.aload_n 0, 1) := by decide +kernel
theorem dX8_clear_11 : decode cX8_clear 11 = .ok (.iconst (-1), 1) := by decide +kernel
theorem dX8_clear_12 : decode cX8_clear 12 = .ok (.putfield 18, 3) := by decide +kernel
theorem dX8_clear_15 : decode cX8_clear 15 = .ok (.return_, 1) := by decide +kernel
theorem dX8_layRow_0 : decode cX8_layRow 0 = .ok (.aload_n 0, 1) := by decide +kernel
theorem dX8_layRow_1 : decode cX8_layRow 1 = .ok (.invokevirtual 25, 3) := by decide +kernel
theorem dX8_layRow_4 : decode cX8_layRow 4 = .ok (.aload_n 0, 1) := by decide +kernel
theorem dX8_layRow_5 : decode cX8_layRow 5 = .ok (.iload_n 1, 1) := by decide +kernel
theorem dX8_layRow_6 : decode cX8_layRow 6 = .ok (.putfield 11, 3) := by decide +kernel
theorem dX8_layRow_9 : decode cX8_layRow 9 = .ok (.aload_n 0, 1) := by decide +kernel
theorem dX8_layRow_10 : decode cX8_layRow 10 = .ok (.iconst 0, 1) := by decide +kernel
theorem dX8_layRow_11 : decode cX8_layRow 11 = .ok (.iload_n 2, 1) := by decide +kernel
theorem dX8_layRow_12 : decode cX8_layRow 12 = .ok (.aload_n 0, 1) := by decide +kernel
theorem dX8_layRow_13 : decode cX8_layRow 13 = .ok (.getfield 21, 3) := by decide +kernel
theorem dX8_layRow_16 : decode cX8_layRow 16 = .ok (.arraylength, 1) := by decide +kernel
theorem dX8_layRow_17 : decode cX8_layRow 17 = .ok (.invokestatic 28, 3) := by decide +kernel
theorem dX8_layRow_20 : decode cX8_layRow 20 = .ok (.invokestatic 34, 3) := by decide +kernel
theorem dX8_layRow_23 : decode cX8_layRow 23 = .ok (.putfield 15, 3) := by decide +kernel
theorem dX8_layRow_26 : decode cX8_layRow 26 = .ok (.aload_n 0, 1) := by decide +kernel
theorem dX8_layRow_27 : decode cX8_layRow 27 = .ok (.getfield 21, 3) := by decide +kernel
theorem dX8_layRow_30 : decode cX8_layRow 30 = .ok (.lconst 0, 1) := by decide +kernel
theorem dX8_layRow_31 : decode cX8_layRow 31 = .ok (.invokestatic 37, 3) := by decide +kernel
theorem dX8_layRow_34 : decode cX8_layRow 34 = .ok (.return_, 1) := by decide +kernel
theorem dX8_point_0 : decode cX8_point 0 = .ok (.aload_n 0, 1) := by decide +kernel
theorem dX8_point_1 : decode cX8_point 1 = .ok (.invokevirtual 25, 3) := by decide +kernel
theorem dX8_point_4 : decode cX8_point 4 = .ok (.aload_n 0, 1) := by decide +kernel
theorem dX8_point_5 : decode cX8_point 5 = .ok (.iload_n 1, 1) := by decide +kernel
theorem dX8_point_6 : decode cX8_point 6 = .ok (.putfield 18, 3) := by decide +kernel
theorem dX8_point_9 : decode cX8_point 9 = .ok (.return_, 1) := by decide +kernel
theorem dX8_isRow_0 : decode cX8_isRow 0 = .ok (.aload_n 0, 1) := by decide +kernel
theorem dX8_isRow_1 : decode cX8_isRow 1 = .ok (.getfield 11, 3) := by decide +kernel
theorem dX8_isRow_4 : decode cX8_isRow 4 = .ok (.iconst (-1), 1) := by decide +kernel
theorem dX8_isRow_5 : decode cX8_isRow 5 = .ok (.if_icmp .eq 7, 3) := by decide +kernel
theorem dX8_isRow_8 : decode cX8_isRow 8 = .ok (.iconst 1, 1) := by decide +kernel
theorem dX8_isRow_9 : decode cX8_isRow 9 = .ok (.goto 4, 3) := by decide +kernel
theorem dX8_isRow_12 : decode cX8_isRow 12 = .ok (.iconst 0, 1) := by decide +kernel
theorem dX8_isRow_13 : decode cX8_isRow 13 = .ok (.ireturn, 1) := by decide +kernel
theorem dX8_has_0 : decode cX8_has 0 = .ok (.iload_n 1, 1) := by decide +kernel
theorem dX8_has_1 : decode cX8_has 1 = .ok (.ifCond .lt 24, 3) := by decide +kernel
theorem dX8_has_4 : decode cX8_has 4 = .ok (.iload_n 1, 1) := by decide +kernel
theorem dX8_has_5 : decode cX8_has 5 = .ok (.aload_n 0, 1) := by decide +kernel
theorem dX8_has_6 : decode cX8_has 6 = .ok (.getfield 15, 3) := by decide +kernel
theorem dX8_has_9 : decode cX8_has 9 = .ok (.if_icmp .ge 16, 3) := by decide +kernel
theorem dX8_has_12 : decode cX8_has 12 = .ok (.iload_n 1, 1) := by decide +kernel
theorem dX8_has_13 : decode cX8_has 13 = .ok (.aload_n 0, 1) := by decide +kernel
theorem dX8_has_14 : decode cX8_has 14 = .ok (.getfield 21, 3) := by decide +kernel
theorem dX8_has_17 : decode cX8_has 17 = .ok (.arraylength, 1) := by decide +kernel
theorem dX8_has_18 : decode cX8_has 18 = .ok (.if_icmp .ge 7, 3) := by decide +kernel
theorem dX8_has_21 : decode cX8_has 21 = .ok (.iconst 1, 1) := by decide +kernel
theorem dX8_has_22 : decode cX8_has 22 = .ok (.goto 4, 3) := by decide +kernel
theorem dX8_has_25 : decode cX8_has 25 = .ok (.iconst 0, 1) := by decide +kernel
theorem dX8_has_26 : decode cX8_has 26 = .ok (.ireturn, 1) := by decide +kernel
theorem dX8_hasRun_0 : decode cX8_hasRun 0 = .ok (.iload_n 1, 1) := by decide +kernel
theorem dX8_hasRun_1 : decode cX8_hasRun 1 = .ok (.ifCond .lt 25, 3) := by decide +kernel
theorem dX8_hasRun_4 : decode cX8_hasRun 4 = .ok (.iload_n 2, 1) := by decide +kernel
theorem dX8_hasRun_5 : decode cX8_hasRun 5 = .ok (.ifCond .lt 21, 3) := by decide +kernel
theorem dX8_hasRun_8 : decode cX8_hasRun 8 = .ok (.iload_n 1, 1) := by decide +kernel
theorem dX8_hasRun_9 : decode cX8_hasRun 9 = .ok (.i2l, 1) := by decide +kernel
theorem dX8_hasRun_10 : decode cX8_hasRun 10 = .ok (.iload_n 2, 1) := by decide +kernel
theorem dX8_hasRun_11 : decode cX8_hasRun 11 = .ok (.i2l, 1) := by decide +kernel
theorem dX8_hasRun_12 : decode cX8_hasRun 12 = .ok (.ladd, 1) := by decide +kernel
theorem dX8_hasRun_13 : decode cX8_hasRun 13 = .ok (.aload_n 0, 1) := by decide +kernel
theorem dX8_hasRun_14 : decode cX8_hasRun 14 = .ok (.getfield 15, 3) := by decide +kernel
theorem dX8_hasRun_17 : decode cX8_hasRun 17 = .ok (.i2l, 1) := by decide +kernel
theorem dX8_hasRun_18 : decode cX8_hasRun 18 = .ok (.lcmp, 1) := by decide +kernel
theorem dX8_hasRun_19 : decode cX8_hasRun 19 = .ok (.ifCond .gt 7, 3) := by decide +kernel
theorem dX8_hasRun_22 : decode cX8_hasRun 22 = .ok (.iconst 1, 1) := by decide +kernel
theorem dX8_hasRun_23 : decode cX8_hasRun 23 = .ok (.goto 4, 3) := by decide +kernel
theorem dX8_hasRun_26 : decode cX8_hasRun 26 = .ok (.iconst 0, 1) := by decide +kernel
theorem dX8_hasRun_27 : decode cX8_hasRun 27 = .ok (.ireturn, 1) := by decide +kernel
theorem dX8_read_0 : decode cX8_read 0 = .ok (.aload_n 0, 1) := by decide +kernel
theorem dX8_read_1 : decode cX8_read 1 = .ok (.iload_n 1, 1) := by decide +kernel
theorem dX8_read_2 : decode cX8_read 2 = .ok (.invokevirtual 43, 3) := by decide +kernel
theorem dX8_read_5 : decode cX8_read 5 = .ok (.ifCond .eq 12, 3) := by decide +kernel
theorem dX8_read_8 : decode cX8_read 8 = .ok (.aload_n 0, 1) := by decide +kernel
theorem dX8_read_9 : decode cX8_read 9 = .ok (.getfield 21, 3) := by decide +kernel
theorem dX8_read_12 : decode cX8_read 12 = .ok (.iload_n 1, 1) := by decide +kernel
theorem dX8_read_13 : decode cX8_read 13 = .ok (.laload, 1) := by decide +kernel
theorem dX8_read_14 : decode cX8_read 14 = .ok (.goto 4, 3) := by decide +kernel
theorem dX8_read_17 : decode cX8_read 17 = .ok (.lconst 0, 1) := by decide +kernel
theorem dX8_read_18 : decode cX8_read 18 = .ok (.lreturn, 1) := by decide +kernel
theorem dX8_tells_0 : decode cX8_tells 0 = .ok (.aload_n 0, 1) := by decide +kernel
theorem dX8_tells_1 : decode cX8_tells 1 = .ok (.iload_n 1, 1) := by decide +kernel
theorem dX8_tells_2 : decode cX8_tells 2 = .ok (.invokevirtual 43, 3) := by decide +kernel
theorem dX8_tells_5 : decode cX8_tells 5 = .ok (.ifCond .eq 13, 3) := by decide +kernel
theorem dX8_tells_8 : decode cX8_tells 8 = .ok (.aload_n 0, 1) := by decide +kernel
theorem dX8_tells_9 : decode cX8_tells 9 = .ok (.getfield 21, 3) := by decide +kernel
theorem dX8_tells_12 : decode cX8_tells 12 = .ok (.iload_n 1, 1) := by decide +kernel
theorem dX8_tells_13 : decode cX8_tells 13 = .ok (.laload, 1) := by decide +kernel
theorem dX8_tells_14 : decode cX8_tells 14 = .ok (.l2i, 1) := by decide +kernel
theorem dX8_tells_15 : decode cX8_tells 15 = .ok (.goto 4, 3) := by decide +kernel
theorem dX8_tells_18 : decode cX8_tells 18 = .ok (.iconst 0, 1) := by decide +kernel
theorem dX8_tells_19 : decode cX8_tells 19 = .ok (.ireturn, 1) := by decide +kernel
theorem dX8_write_0 : decode cX8_write 0 = .ok (.aload_n 0, 1) := by decide +kernel
theorem dX8_write_1 : decode cX8_write 1 = .ok (.iload_n 1, 1) := by decide +kernel
theorem dX8_write_2 : decode cX8_write 2 = .ok (.invokevirtual 43, 3) := by decide +kernel
theorem dX8_write_5 : decode cX8_write 5 = .ok (.ifCond .eq 14, 3) := by decide +kernel
theorem dX8_write_8 : decode cX8_write 8 = .ok (.aload_n 0, 1) := by decide +kernel
theorem dX8_write_9 : decode cX8_write 9 = .ok (.getfield 21, 3) := by decide +kernel
theorem dX8_write_12 : decode cX8_write 12 = .ok (.iload_n 1, 1) := by decide +kernel
theorem dX8_write_13 : decode cX8_write 13 = .ok (.aload_n 0, 1) := by decide +kernel
theorem dX8_write_14 : decode cX8_write 14 = .ok (.lload_n 2, 1) := by decide +kernel
theorem dX8_write_15 : decode cX8_write 15 = .ok (.invokevirtual 47, 3) := by decide +kernel
theorem dX8_write_18 : decode cX8_write 18 = .ok (.lastore, 1) := by decide +kernel
theorem dX8_write_19 : decode cX8_write 19 = .ok (.return_, 1) := by decide +kernel
theorem dX8_takeRun_0 : decode cX8_takeRun 0 = .ok (.aload_n 1, 1) := by decide +kernel
theorem dX8_takeRun_1 : decode cX8_takeRun 1 = .ok (.ifnull 38, 3) := by decide +kernel
theorem dX8_takeRun_4 : decode cX8_takeRun 4 = .ok (.aload_n 1, 1) := by decide +kernel
theorem dX8_takeRun_5 : decode cX8_takeRun 5 = .ok (.iload_n 2, 1) := by decide +kernel
theorem dX8_takeRun_6 : decode cX8_takeRun 6 = .ok (.iload 4, 2) := by decide +kernel
theorem dX8_takeRun_8 : decode cX8_takeRun 8 = .ok (.invokevirtual 51, 3) := by decide +kernel
theorem dX8_takeRun_11 : decode cX8_takeRun 11 = .ok (.ifCond .eq 28, 3) := by decide +kernel
theorem dX8_takeRun_14 : decode cX8_takeRun 14 = .ok (.aload_n 0, 1) := by decide +kernel
theorem dX8_takeRun_15 : decode cX8_takeRun 15 = .ok (.iload_n 3, 1) := by decide +kernel
theorem dX8_takeRun_16 : decode cX8_takeRun 16 = .ok (.iload 4, 2) := by decide +kernel
theorem dX8_takeRun_18 : decode cX8_takeRun 18 = .ok (.invokevirtual 51, 3) := by decide +kernel
theorem dX8_takeRun_21 : decode cX8_takeRun 21 = .ok (.ifCond .eq 18, 3) := by decide +kernel
theorem dX8_takeRun_24 : decode cX8_takeRun 24 = .ok (.aload_n 1, 1) := by decide +kernel
theorem dX8_takeRun_25 : decode cX8_takeRun 25 = .ok (.getfield 21, 3) := by decide +kernel
theorem dX8_takeRun_28 : decode cX8_takeRun 28 = .ok (.iload_n 2, 1) := by decide +kernel
theorem dX8_takeRun_29 : decode cX8_takeRun 29 = .ok (.aload_n 0, 1) := by decide +kernel
theorem dX8_takeRun_30 : decode cX8_takeRun 30 = .ok (.getfield 21, 3) := by decide +kernel
theorem dX8_takeRun_33 : decode cX8_takeRun 33 = .ok (.iload_n 3, 1) := by decide +kernel
theorem dX8_takeRun_34 : decode cX8_takeRun 34 = .ok (.iload 4, 2) := by decide +kernel
theorem dX8_takeRun_36 : decode cX8_takeRun 36 = .ok (.invokestatic 55, 3) := by decide +kernel
theorem dX8_takeRun_39 : decode cX8_takeRun 39 = .ok (.return_, 1) := by decide +kernel
theorem dX8_cut_0 : decode cX8_cut 0 = .ok (.aload_n 0, 1) := by decide +kernel
theorem dX8_cut_1 : decode cX8_cut 1 = .ok (.getfield 11, 3) := by decide +kernel
theorem dX8_cut_4 : decode cX8_cut 4 = .ok (.tableswitch 42 0 2 #[28, 33, 38], 28) := by decide +kernel
theorem dX8_cut_32 : decode cX8_cut 32 = .ok (.lload_n 1, 1) := by decide +kernel
theorem dX8_cut_33 : decode cX8_cut 33 = .ok (.l2i, 1) := by decide +kernel
theorem dX8_cut_34 : decode cX8_cut 34 = .ok (.i2b, 1) := by decide +kernel
theorem dX8_cut_35 : decode cX8_cut 35 = .ok (.i2l, 1) := by decide +kernel
theorem dX8_cut_36 : decode cX8_cut 36 = .ok (.lreturn, 1) := by decide +kernel
theorem dX8_cut_37 : decode cX8_cut 37 = .ok (.lload_n 1, 1) := by decide +kernel
theorem dX8_cut_38 : decode cX8_cut 38 = .ok (.l2i, 1) := by decide +kernel
theorem dX8_cut_39 : decode cX8_cut 39 = .ok (.i2s, 1) := by decide +kernel
theorem dX8_cut_40 : decode cX8_cut 40 = .ok (.i2l, 1) := by decide +kernel
theorem dX8_cut_41 : decode cX8_cut 41 = .ok (.lreturn, 1) := by decide +kernel
theorem dX8_cut_42 : decode cX8_cut 42 = .ok (.lload_n 1, 1) := by decide +kernel
theorem dX8_cut_43 : decode cX8_cut 43 = .ok (.l2i, 1) := by decide +kernel
theorem dX8_cut_44 : decode cX8_cut 44 = .ok (.i2l, 1) := by decide +kernel
theorem dX8_cut_45 : decode cX8_cut 45 = .ok (.lreturn, 1) := by decide +kernel
theorem dX8_cut_46 : decode cX8_cut 46 = .ok (.lload_n 1, 1) := by decide +kernel
theorem dX8_cut_47 : decode cX8_cut 47 = .ok (.lreturn, 1) := by decide +kernel
theorem dX9_init_0 : decode cX9_init 0 = .ok (.aload_n 0, 1) := by decide +kernel
theorem dX9_init_1 : decode cX9_init 1 = .ok (.invokespecial 3, 3) := by decide +kernel
theorem dX9_init_4 : decode cX9_init 4 = .ok (.aload_n 0, 1) := by decide +kernel
theorem dX9_init_5 : decode cX9_init 5 = .ok (.iconst 0, 1) := by decide +kernel
theorem dX9_init_6 : decode cX9_init 6 = .ok (.putfield 9, 3) := by decide +kernel
theorem dX9_init_9 : decode cX9_init 9 = .ok (.aload_n 0, 1) := by decide +kernel
theorem dX9_init_10 : decode cX9_init 10 = .ok (.iconst 0, 1) := by decide +kernel
theorem dX9_init_11 : decode cX9_init 11 = .ok (.putfield 15, 3) := by decide +kernel
theorem dX9_init_14 : decode cX9_init 14 = .ok (.aload_n 0, 1) := by decide +kernel
theorem dX9_init_15 : decode cX9_init 15 = .ok (.iconst 0, 1) := by decide +kernel
theorem dX9_init_16 : decode cX9_init 16 = .ok (.putfield 18, 3) := by decide +kernel
theorem dX9_init_19 : decode cX9_init 19 = .ok (.aload_n 0, 1) := by decide +kernel
theorem dX9_init_20 : decode cX9_init 20 = .ok (.iconst 1, 1) := by decide +kernel
theorem dX9_init_21 : decode cX9_init 21 = .ok (.putfield 21, 3) := by decide +kernel
theorem dX9_init_24 : decode cX9_init 24 = .ok (.return_, 1) := by decide +kernel
theorem dX9_become_0 : decode cX9_become 0 = .ok (.aload_n 1, 1) := by decide +kernel
theorem dX9_become_1 : decode cX9_become 1 = .ok (.ifnonnull 4, 3) := by decide +kernel
theorem dX9_become_4 : decode cX9_become 4 = .ok (.return_, 1) := by decide +kernel
theorem dX9_become_5 : decode cX9_become 5 = .ok (.aload_n 0, 1) := by decide +kernel
theorem dX9_become_6 : decode cX9_become 6 = .ok (.aload_n 1, 1) := by decide +kernel
theorem dX9_become_7 : decode cX9_become 7 = .ok (.getfield 9, 3) := by decide +kernel
theorem dX9_become_10 : decode cX9_become 10 = .ok (.putfield 9, 3) := by decide +kernel
theorem dX9_become_13 : decode cX9_become 13 = .ok (.aload_n 0, 1) := by decide +kernel
theorem dX9_become_14 : decode cX9_become 14 = .ok (.aload_n 1, 1) := by decide +kernel
theorem dX9_become_15 : decode cX9_become 15 = .ok (.getfield 15, 3) := by decide +kernel
theorem dX9_become_18 : decode cX9_become 18 = .ok (.putfield 15, 3) := by decide +kernel
theorem dX9_become_21 : decode cX9_become 21 = .ok (.aload_n 0, 1) := by decide +kernel
theorem dX9_become_22 : decode cX9_become 22 = .ok (.aload_n 1, 1) := by decide +kernel
theorem dX9_become_23 : decode cX9_become 23 = .ok (.getfield 18, 3) := by decide +kernel
theorem dX9_become_26 : decode cX9_become 26 = .ok (.putfield 18, 3) := by decide +kernel
theorem dX9_become_29 : decode cX9_become 29 = .ok (.aload_n 0, 1) := by decide +kernel
theorem dX9_become_30 : decode cX9_become 30 = .ok (.aload_n 1, 1) := by decide +kernel
theorem dX9_become_31 : decode cX9_become 31 = .ok (.getfield 21, 3) := by decide +kernel
theorem dX9_become_34 : decode cX9_become 34 = .ok (.putfield 21, 3) := by decide +kernel
theorem dX9_become_37 : decode cX9_become 37 = .ok (.return_, 1) := by decide +kernel
theorem dX9_isOne_0 : decode cX9_isOne 0 = .ok (.aload_n 0, 1) := by decide +kernel
theorem dX9_isOne_1 : decode cX9_isOne 1 = .ok (.getfield 9, 3) := by decide +kernel
theorem dX9_isOne_4 : decode cX9_isOne 4 = .ok (.istore_n 2, 1) := by decide +kernel
theorem dX9_isOne_5 : decode cX9_isOne 5 = .ok (.iconst 0, 1) := by decide +kernel
theorem dX9_isOne_6 : decode cX9_isOne 6 = .ok (.istore_n 3, 1) := by decide +kernel
theorem dX9_isOne_7 : decode cX9_isOne 7 = .ok (.iload_n 3, 1) := by decide +kernel
theorem dX9_isOne_8 : decode cX9_isOne 8 = .ok (.getstatic 25, 3) := by decide +kernel
theorem dX9_isOne_11 : decode cX9_isOne 11 = .ok (.arraylength, 1) := by decide +kernel
theorem dX9_isOne_12 : decode cX9_isOne 12 = .ok (.if_icmp .ge 21, 3) := by decide +kernel
theorem dX9_isOne_15 : decode cX9_isOne 15 = .ok (.iload_n 2, 1) := by decide +kernel
theorem dX9_isOne_16 : decode cX9_isOne 16 = .ok (.iload_n 1, 1) := by decide +kernel
theorem dX9_isOne_17 : decode cX9_isOne 17 = .ok (.if_icmp .ne 5, 3) := by decide +kernel
theorem dX9_isOne_20 : decode cX9_isOne 20 = .ok (.iconst 1, 1) := by decide +kernel
theorem dX9_isOne_21 : decode cX9_isOne 21 = .ok (.ireturn, 1) := by decide +kernel
theorem dX9_isOne_22 : decode cX9_isOne 22 = .ok (.iload_n 2, 1) := by decide +kernel
theorem dX9_isOne_23 : decode cX9_isOne 23 = .ok (.invokestatic 29, 3) := by decide +kernel
theorem dX9_isOne_26 : decode cX9_isOne 26 = .ok (.istore_n 2, 1) := by decide +kernel
theorem dX9_isOne_27 : decode cX9_isOne 27 = .ok (.iinc 3 1, 3) := by decide +kernel
theorem dX9_isOne_30 : decode cX9_isOne 30 = .ok (.goto (-23), 3) := by decide +kernel
theorem dX9_isOne_33 : decode cX9_isOne 33 = .ok (.iconst 0, 1) := by decide +kernel
theorem dX9_isOne_34 : decode cX9_isOne 34 = .ok (.ireturn, 1) := by decide +kernel
theorem dX9_swallows_0 : decode cX9_swallows 0 = .ok (.aload_n 0, 1) := by decide +kernel
theorem dX9_swallows_1 : decode cX9_swallows 1 = .ok (.getfield 9, 3) := by decide +kernel
theorem dX9_swallows_4 : decode cX9_swallows 4 = .ok (.tableswitch 95 0 5 #[40, 45, 61, 52, 95, 77], 40) := by decide +kernel
theorem dX9_swallows_44 : decode cX9_swallows 44 = .ok (.aload_n 0, 1) := by decide +kernel
theorem dX9_swallows_45 : decode cX9_swallows 45 = .ok (.getfield 15, 3) := by decide +kernel
theorem dX9_swallows_48 : decode cX9_swallows 48 = .ok (.ireturn, 1) := by decide +kernel
theorem dX9_swallows_49 : decode cX9_swallows 49 = .ok (.aload_n 0, 1) := by decide +kernel
theorem dX9_swallows_50 : decode cX9_swallows 50 = .ok (.getfield 15, 3) := by decide +kernel
theorem dX9_swallows_53 : decode cX9_swallows 53 = .ok (.iconst 3, 1) := by decide +kernel
theorem dX9_swallows_54 : decode cX9_swallows 54 = .ok (.iadd, 1) := by decide +kernel
theorem dX9_swallows_55 : decode cX9_swallows 55 = .ok (.ireturn, 1) := by decide +kernel
theorem dX9_swallows_56 : decode cX9_swallows 56 = .ok (.iconst 2, 1) := by decide +kernel
theorem dX9_swallows_57 : decode cX9_swallows 57 = .ok (.aload_n 0, 1) := by decide +kernel
theorem dX9_swallows_58 : decode cX9_swallows 58 = .ok (.getfield 15, 3) := by decide +kernel
theorem dX9_swallows_61 : decode cX9_swallows 61 = .ok (.iconst 3, 1) := by decide +kernel
theorem dX9_swallows_62 : decode cX9_swallows 62 = .ok (.iadd, 1) := by decide +kernel
theorem dX9_swallows_63 : decode cX9_swallows 63 = .ok (.imul, 1) := by decide +kernel
theorem dX9_swallows_64 : decode cX9_swallows 64 = .ok (.ireturn, 1) := by decide +kernel
theorem dX9_swallows_65 : decode cX9_swallows 65 = .ok (.aload_n 0, 1) := by decide +kernel
theorem dX9_swallows_66 : decode cX9_swallows 66 = .ok (.getfield 21, 3) := by decide +kernel
theorem dX9_swallows_69 : decode cX9_swallows 69 = .ok (.ifCond .eq 10, 3) := by decide +kernel
theorem dX9_swallows_72 : decode cX9_swallows 72 = .ok (.aload_n 0, 1) := by decide +kernel
theorem dX9_swallows_73 : decode cX9_swallows 73 = .ok (.getfield 15, 3) := by decide +kernel
theorem dX9_swallows_76 : decode cX9_swallows 76 = .ok (.goto 4, 3) := by decide +kernel
theorem dX9_swallows_79 : decode cX9_swallows 79 = .ok (.iconst 0, 1) := by decide +kernel
theorem dX9_swallows_80 : decode cX9_swallows 80 = .ok (.ireturn, 1) := by decide +kernel
theorem dX9_swallows_81 : decode cX9_swallows 81 = .ok (.aload_n 0, 1) := by decide +kernel
theorem dX9_swallows_82 : decode cX9_swallows 82 = .ok (.getfield 21, 3) := by decide +kernel
theorem dX9_swallows_85 : decode cX9_swallows 85 = .ok (.ifCond .eq 12, 3) := by decide +kernel
theorem dX9_swallows_88 : decode cX9_swallows 88 = .ok (.aload_n 0, 1) := by decide +kernel
theorem dX9_swallows_89 : decode cX9_swallows 89 = .ok (.getfield 15, 3) := by decide +kernel
theorem dX9_swallows_92 : decode cX9_swallows 92 = .ok (.iconst 2, 1) := by decide +kernel
theorem dX9_swallows_93 : decode cX9_swallows 93 = .ok (.idiv, 1) := by decide +kernel
theorem dX9_swallows_94 : decode cX9_swallows 94 = .ok (.goto 4, 3) := by decide +kernel
theorem dX9_swallows_97 : decode cX9_swallows 97 = .ok (.iconst 0, 1) := by decide +kernel
theorem dX9_swallows_98 : decode cX9_swallows 98 = .ok (.ireturn, 1) := by decide +kernel
theorem dX9_swallows_99 : decode cX9_swallows 99 = .ok (.iconst 0, 1) := by decide +kernel
theorem dX9_swallows_100 : decode cX9_swallows 100 = .ok (.ireturn, 1) := by decide +kernel
theorem dX9_humsFar_0 : decode cX9_humsFar 0 = .ok (.iconst 0, 1) := by decide +kernel
theorem dX9_humsFar_1 : decode cX9_humsFar 1 = .ok (.istore_n 3, 1) := by decide +kernel
theorem dX9_humsFar_2 : decode cX9_humsFar 2 = .ok (.aload_n 0, 1) := by decide +kernel
theorem dX9_humsFar_3 : decode cX9_humsFar 3 = .ok (.getfield 9, 3) := by decide +kernel
theorem dX9_humsFar_6 : decode cX9_humsFar 6 = .ok (.iconst 4, 1) := by decide +kernel
theorem dX9_humsFar_7 : decode cX9_humsFar 7 = .ok (.if_icmp .ne 17, 3) := by decide +kernel
theorem dX9_humsFar_10 : decode cX9_humsFar 10 = .ok (.iload_n 2, 1) := by decide +kernel
theorem dX9_humsFar_11 : decode cX9_humsFar 11 = .ok (.bipush 10, 2) := by decide +kernel
theorem dX9_humsFar_13 : decode cX9_humsFar 13 = .ok (.irem, 1) := by decide +kernel
theorem dX9_humsFar_14 : decode cX9_humsFar 14 = .ok (.aload_n 0, 1) := by decide +kernel
theorem dX9_humsFar_15 : decode cX9_humsFar 15 = .ok (.getfield 15, 3) := by decide +kernel
theorem dX9_humsFar_18 : decode cX9_humsFar 18 = .ok (.if_icmp .ge 6, 3) := by decide +kernel
theorem dX9_humsFar_21 : decode cX9_humsFar 21 = .ok (.bipush 20, 2) := by decide +kernel
theorem dX9_humsFar_23 : decode cX9_humsFar 23 = .ok (.istore_n 3, 1) := by decide +kernel
theorem dX9_humsFar_24 : decode cX9_humsFar 24 = .ok (.aload_n 0, 1) := by decide +kernel
theorem dX9_humsFar_25 : decode cX9_humsFar 25 = .ok (.getfield 9, 3) := by decide +kernel
theorem dX9_humsFar_28 : decode cX9_humsFar 28 = .ok (.bipush 6, 2) := by decide +kernel
theorem dX9_humsFar_30 : decode cX9_humsFar 30 = .ok (.if_icmp .ne 6, 3) := by decide +kernel
theorem dX9_humsFar_33 : decode cX9_humsFar 33 = .ok (.bipush 10, 2) := by decide +kernel
theorem dX9_humsFar_35 : decode cX9_humsFar 35 = .ok (.istore_n 3, 1) := by decide +kernel
theorem dX9_humsFar_36 : decode cX9_humsFar 36 = .ok (.iconst 0, 1) := by decide +kernel
theorem dX9_humsFar_37 : decode cX9_humsFar 37 = .ok (.iload_n 3, 1) := by decide +kernel
theorem dX9_humsFar_38 : decode cX9_humsFar 38 = .ok (.iconst 5, 1) := by decide +kernel
theorem dX9_humsFar_39 : decode cX9_humsFar 39 = .ok (.iload_n 1, 1) := by decide +kernel
theorem dX9_humsFar_40 : decode cX9_humsFar 40 = .ok (.imul, 1) := by decide +kernel
theorem dX9_humsFar_41 : decode cX9_humsFar 41 = .ok (.isub, 1) := by decide +kernel
theorem dX9_humsFar_42 : decode cX9_humsFar 42 = .ok (.invokestatic 33, 3) := by decide +kernel
theorem dX9_humsFar_45 : decode cX9_humsFar 45 = .ok (.ireturn, 1) := by decide +kernel
theorem dX10_init_0 : decode cX10_init 0 = .ok (.aload_n 0, 1) := by decide +kernel
theorem dX10_init_1 : decode cX10_init 1 = .ok (.invokespecial 1, 3) := by decide +kernel
theorem dX10_init_4 : decode cX10_init 4 = .ok (.aload_n 0, 1) := by decide +kernel
theorem dX10_init_5 : decode cX10_init 5 = .ok (.new 7, 3) := by decide +kernel
theorem dX10_init_8 : decode cX10_init 8 = .ok (.dup, 1) := by decide +kernel
theorem dX10_init_9 : decode cX10_init 9 = .ok (.invokespecial 9, 3) := by decide +kernel
theorem dX10_init_12 : decode cX10_init 12 = .ok (.putfield 10, 3) := by decide +kernel
theorem dX10_init_15 : decode cX10_init 15 = .ok (.aload_n 0, 1) := by decide +kernel
theorem dX10_init_16 : decode cX10_init 16 = .ok (.new 7, 3) := by decide +kernel
theorem dX10_init_19 : decode cX10_init 19 = .ok (.dup, 1) := by decide +kernel
theorem dX10_init_20 : decode cX10_init 20 = .ok (.invokespecial 9, 3) := by decide +kernel
theorem dX10_init_23 : decode cX10_init 23 = .ok (.putfield 16, 3) := by decide +kernel
theorem dX10_init_26 : decode cX10_init 26 = .ok (.aload_n 0, 1) := by decide +kernel
theorem dX10_init_27 : decode cX10_init 27 = .ok (.new 7, 3) := by decide +kernel
theorem dX10_init_30 : decode cX10_init 30 = .ok (.dup, 1) := by decide +kernel
theorem dX10_init_31 : decode cX10_init 31 = .ok (.invokespecial 9, 3) := by decide +kernel
theorem dX10_init_34 : decode cX10_init 34 = .ok (.putfield 19, 3) := by decide +kernel
theorem dX10_init_37 : decode cX10_init 37 = .ok (.aload_n 0, 1) := by decide +kernel
theorem dX10_init_38 : decode cX10_init 38 = .ok (.new 22, 3) := by decide +kernel
theorem dX10_init_41 : decode cX10_init 41 = .ok (.dup, 1) := by decide +kernel
theorem dX10_init_42 : decode cX10_init 42 = .ok (.aload_n 0, 1) := by decide +kernel
theorem dX10_init_43 : decode cX10_init 43 = .ok (.getfield 10, 3) := by decide +kernel
theorem dX10_init_46 : decode cX10_init 46 = .ok (.invokespecial 24, 3) := by decide +kernel
theorem dX10_init_49 : decode cX10_init 49 = .ok (.putfield 27, 3) := by decide +kernel
theorem dX10_init_52 : decode cX10_init 52 = .ok (.aload_n 0, 1) := by decide +kernel
theorem dX10_init_53 : decode cX10_init 53 = .ok (.new 31, 3) := by decide +kernel
theorem dX10_init_56 : decode cX10_init 56 = .ok (.dup, 1) := by decide +kernel
theorem dX10_init_57 : decode cX10_init 57 = .ok (.aload_n 0, 1) := by decide +kernel
theorem dX10_init_58 : decode cX10_init 58 = .ok (.getfield 10, 3) := by decide +kernel
theorem dX10_init_61 : decode cX10_init 61 = .ok (.aload_n 0, 1) := by decide +kernel
theorem dX10_init_62 : decode cX10_init 62 = .ok (.getfield 19, 3) := by decide +kernel
theorem dX10_init_65 : decode cX10_init 65 = .ok (.invokespecial 33, 3) := by decide +kernel
theorem dX10_init_68 : decode cX10_init 68 = .ok (.putfield 36, 3) := by decide +kernel
theorem dX10_init_71 : decode cX10_init 71 = .ok (.aload_n 0, 1) := by decide +kernel
theorem dX10_init_72 : decode cX10_init 72 = .ok (.new 40, 3) := by decide +kernel
theorem dX10_init_75 : decode cX10_init 75 = .ok (.dup, 1) := by decide +kernel
theorem dX10_init_76 : decode cX10_init 76 = .ok (.aload_n 0, 1) := by decide +kernel
theorem dX10_init_77 : decode cX10_init 77 = .ok (.getfield 10, 3) := by decide +kernel
theorem dX10_init_80 : decode cX10_init 80 = .ok (.aload_n 0, 1) := by decide +kernel
theorem dX10_init_81 : decode cX10_init 81 = .ok (.getfield 27, 3) := by decide +kernel
theorem dX10_init_84 : decode cX10_init 84 = .ok (.invokespecial 42, 3) := by decide +kernel
theorem dX10_init_87 : decode cX10_init 87 = .ok (.putfield 45, 3) := by decide +kernel
theorem dX10_init_90 : decode cX10_init 90 = .ok (.aload_n 0, 1) := by decide +kernel
theorem dX10_init_91 : decode cX10_init 91 = .ok (.new 49, 3) := by decide +kernel
theorem dX10_init_94 : decode cX10_init 94 = .ok (.dup, 1) := by decide +kernel
theorem dX10_init_95 : decode cX10_init 95 = .ok (.aload_n 0, 1) := by decide +kernel
theorem dX10_init_96 : decode cX10_init 96 = .ok (.getfield 10, 3) := by decide +kernel
theorem dX10_init_99 : decode cX10_init 99 = .ok (.invokespecial 51, 3) := by decide +kernel
theorem dX10_init_102 : decode cX10_init 102 = .ok (.putfield 52, 3) := by decide +kernel
theorem dX10_init_105 : decode cX10_init 105 = .ok (.aload_n 0, 1) := by decide +kernel
theorem dX10_init_106 : decode cX10_init 106 = .ok (.new 56, 3) := by decide +kernel
theorem dX10_init_109 : decode cX10_init 109 = .ok (.dup, 1) := by decide +kernel
theorem dX10_init_110 : decode cX10_init 110 = .ok (.aload_n 0, 1) := by decide +kernel
theorem dX10_init_111 : decode cX10_init 111 = .ok (.getfield 19, 3) := by decide +kernel
theorem dX10_init_114 : decode cX10_init 114 = .ok (.invokespecial 58, 3) := by decide +kernel
theorem dX10_init_117 : decode cX10_init 117 = .ok (.putfield 59, 3) := by decide +kernel
theorem dX10_init_120 : decode cX10_init 120 = .ok (.aload_n 0, 1) := by decide +kernel
theorem dX10_init_121 : decode cX10_init 121 = .ok (.new 63, 3) := by decide +kernel
theorem dX10_init_124 : decode cX10_init 124 = .ok (.dup, 1) := by decide +kernel
theorem dX10_init_125 : decode cX10_init 125 = .ok (.invokespecial 65, 3) := by decide +kernel
theorem dX10_init_128 : decode cX10_init 128 = .ok (.putfield 66, 3) := by decide +kernel
theorem dX10_init_131 : decode cX10_init 131 = .ok (.aload_n 0, 1) := by decide +kernel
theorem dX10_init_132 : decode cX10_init 132 = .ok (.bipush 8, 2) := by decide +kernel
theorem dX10_init_134 : decode cX10_init 134 = .ok (.anewarray 70, 3) := by decide +kernel
theorem dX10_init_137 : decode cX10_init 137 = .ok (.putfield 72, 3) := by decide +kernel
theorem dX10_init_140 : decode cX10_init 140 = .ok (.aload_n 0, 1) := by decide +kernel
theorem dX10_init_141 : decode cX10_init 141 = .ok (.bipush 8, 2) := by decide +kernel
theorem dX10_init_143 : decode cX10_init 143 = .ok (.newarray .int, 2) := by decide +kernel
theorem dX10_init_145 : decode cX10_init 145 = .ok (.putfield 76, 3) := by decide +kernel
theorem dX10_init_148 : decode cX10_init 148 = .ok (.aload_n 0, 1) := by decide +kernel
theorem dX10_init_149 : decode cX10_init 149 = .ok (.iconst 0, 1) := by decide +kernel
theorem dX10_init_150 : decode cX10_init 150 = .ok (.putfield 80, 3) := by decide +kernel
theorem dX10_init_153 : decode cX10_init 153 = .ok (.aload_n 0, 1) := by decide +kernel
theorem dX10_init_154 : decode cX10_init 154 = .ok (.iconst (-1), 1) := by decide +kernel
theorem dX10_init_155 : decode cX10_init 155 = .ok (.putfield 84, 3) := by decide +kernel
theorem dX10_init_158 : decode cX10_init 158 = .ok (.iconst 0, 1) := by decide +kernel
theorem dX10_init_159 : decode cX10_init 159 = .ok (.istore_n 1, 1) := by decide +kernel
theorem dX10_init_160 : decode cX10_init 160 = .ok (.iload_n 1, 1) := by decide +kernel
theorem dX10_init_161 : decode cX10_init 161 = .ok (.aload_n 0, 1) := by decide +kernel
theorem dX10_init_162 : decode cX10_init 162 = .ok (.getfield 72, 3) := by decide +kernel
theorem dX10_init_165 : decode cX10_init 165 = .ok (.arraylength, 1) := by decide +kernel
theorem dX10_init_166 : decode cX10_init 166 = .ok (.if_icmp .ge 22, 3) := by decide +kernel
theorem dX10_init_169 : decode cX10_init 169 = .ok (.aload_n 0, 1) := by decide +kernel
theorem dX10_init_170 : decode cX10_init 170 = .ok (.getfield 72, 3) := by decide +kernel
theorem dX10_init_173 : decode cX10_init 173 = .ok (.iload_n 1, 1) := by decide +kernel
theorem dX10_init_174 : decode cX10_init 174 = .ok (.new 70, 3) := by decide +kernel
theorem dX10_init_177 : decode cX10_init 177 = .ok (.dup, 1) := by decide +kernel
theorem dX10_init_178 : decode cX10_init 178 = .ok (.invokespecial 88, 3) := by decide +kernel
theorem dX10_init_181 : decode cX10_init 181 = .ok (.aastore, 1) := by decide +kernel
theorem dX10_init_182 : decode cX10_init 182 = .ok (.iinc 1 1, 3) := by decide +kernel
theorem dX10_init_185 : decode cX10_init 185 = .ok (.goto (-25), 3) := by decide +kernel
theorem dX10_init_188 : decode cX10_init 188 = .ok (.return_, 1) := by decide +kernel
theorem dX10_row_0 : decode cX10_row 0 = .ok (.aload_n 0, 1) := by decide +kernel
theorem dX10_row_1 : decode cX10_row 1 = .ok (.iload_n 1, 1) := by decide +kernel
theorem dX10_row_2 : decode cX10_row 2 = .ok (.invokevirtual 89, 3) := by decide +kernel
theorem dX10_row_5 : decode cX10_row 5 = .ok (.astore 4, 2) := by decide +kernel
theorem dX10_row_7 : decode cX10_row 7 = .ok (.aload 4, 2) := by decide +kernel
theorem dX10_row_9 : decode cX10_row 9 = .ok (.ifnonnull 9, 3) := by decide +kernel
theorem dX10_row_12 : decode cX10_row 12 = .ok (.aload_n 0, 1) := by decide +kernel
theorem dX10_row_13 : decode cX10_row 13 = .ok (.iconst (-1), 1) := by decide +kernel
theorem dX10_row_14 : decode cX10_row 14 = .ok (.invokevirtual 93, 3) := by decide +kernel
theorem dX10_row_17 : decode cX10_row 17 = .ok (.ireturn, 1) := by decide +kernel
theorem dX10_row_18 : decode cX10_row 18 = .ok (.iload_n 3, 1) := by decide +kernel
theorem dX10_row_19 : decode cX10_row 19 = .ok (.ifCond .ge 10, 3) := by decide +kernel
theorem dX10_row_22 : decode cX10_row 22 = .ok (.aload_n 0, 1) := by decide +kernel
theorem dX10_row_23 : decode cX10_row 23 = .ok (.bipush (-4), 2) := by decide +kernel
theorem dX10_row_25 : decode cX10_row 25 = .ok (.invokevirtual 93, 3) := by decide +kernel
theorem dX10_row_28 : decode cX10_row 28 = .ok (.ireturn, 1) := by decide +kernel
theorem dX10_row_29 : decode cX10_row 29 = .ok (.iload_n 2, 1) := by decide +kernel
theorem dX10_row_30 : decode cX10_row 30 = .ok (.ifCond .lt 8, 3) := by decide +kernel
theorem dX10_row_33 : decode cX10_row 33 = .ok (.iload_n 2, 1) := by decide +kernel
theorem dX10_row_34 : decode cX10_row 34 = .ok (.iconst 3, 1) := by decide +kernel
theorem dX10_row_35 : decode cX10_row 35 = .ok (.if_icmp .le 10, 3) := by decide +kernel
theorem dX10_row_38 : decode cX10_row 38 = .ok (.aload_n 0, 1) := by decide +kernel
theorem dX10_row_39 : decode cX10_row 39 = .ok (.bipush (-6), 2) := by decide +kernel
theorem dX10_row_41 : decode cX10_row 41 = .ok (.invokevirtual 93, 3) := by decide +kernel
theorem dX10_row_44 : decode cX10_row 44 = .ok (.ireturn, 1) := by decide +kernel
theorem dX10_row_45 : decode cX10_row 45 = .ok (.iload_n 3, 1) := by decide +kernel
theorem dX10_row_46 : decode cX10_row 46 = .ok (.sipush 160, 3) := by decide +kernel
theorem dX10_row_49 : decode cX10_row 49 = .ok (.if_icmp .le 10, 3) := by decide +kernel
theorem dX10_row_52 : decode cX10_row 52 = .ok (.aload_n 0, 1) := by decide +kernel
theorem dX10_row_53 : decode cX10_row 53 = .ok (.bipush (-7), 2) := by decide +kernel
theorem dX10_row_55 : decode cX10_row 55 = .ok (.invokevirtual 93, 3) := by decide +kernel
theorem dX10_row_58 : decode cX10_row 58 = .ok (.ireturn, 1) := by decide +kernel
theorem dX10_row_59 : decode cX10_row 59 = .ok (.aload 4, 2) := by decide +kernel
theorem dX10_row_61 : decode cX10_row 61 = .ok (.iload_n 2, 1) := by decide +kernel
theorem dX10_row_62 : decode cX10_row 62 = .ok (.iload_n 3, 1) := by decide +kernel
theorem dX10_row_63 : decode cX10_row 63 = .ok (.invokevirtual 97, 3) := by decide +kernel
theorem dX10_row_66 : decode cX10_row 66 = .ok (.iconst 1, 1) := by decide +kernel
theorem dX10_row_67 : decode cX10_row 67 = .ok (.ireturn, 1) := by decide +kernel
theorem dX10_set_0 : decode cX10_set 0 = .ok (.aload_n 0, 1) := by decide +kernel
theorem dX10_set_1 : decode cX10_set 1 = .ok (.iload_n 1, 1) := by decide +kernel
theorem dX10_set_2 : decode cX10_set 2 = .ok (.invokevirtual 89, 3) := by decide +kernel
theorem dX10_set_5 : decode cX10_set 5 = .ok (.astore 5, 2) := by decide +kernel
theorem dX10_set_7 : decode cX10_set 7 = .ok (.aload 5, 2) := by decide +kernel
theorem dX10_set_9 : decode cX10_set 9 = .ok (.invokestatic 101, 3) := by decide +kernel
theorem dX10_set_12 : decode cX10_set 12 = .ok (.istore 6, 2) := by decide +kernel
theorem dX10_set_14 : decode cX10_set 14 = .ok (.iload 6, 2) := by decide +kernel
theorem dX10_set_16 : decode cX10_set 16 = .ok (.ifCond .ne 21, 3) := by decide +kernel
theorem dX10_set_19 : decode cX10_set 19 = .ok (.aload 5, 2) := by decide +kernel
theorem dX10_set_21 : decode cX10_set 21 = .ok (.ifnull 16, 3) := by decide +kernel
theorem dX10_set_24 : decode cX10_set 24 = .ok (.aload 5, 2) := by decide +kernel
theorem dX10_set_26 : decode cX10_set 26 = .ok (.iload_n 2, 1) := by decide +kernel
theorem dX10_set_27 : decode cX10_set 27 = .ok (.invokevirtual 105, 3) := by decide +kernel
theorem dX10_set_30 : decode cX10_set 30 = .ok (.ifCond .ne 7, 3) := by decide +kernel
theorem dX10_set_33 : decode cX10_set 33 = .ok (.bipush (-5), 2) := by decide +kernel
theorem dX10_set_35 : decode cX10_set 35 = .ok (.istore 6, 2) := by decide +kernel
theorem dX10_set_37 : decode cX10_set 37 = .ok (.iload 6, 2) := by decide +kernel
theorem dX10_set_39 : decode cX10_set 39 = .ok (.ifCond .ne 8, 3) := by decide +kernel
theorem dX10_set_42 : decode cX10_set 42 = .ok (.aload 5, 2) := by decide +kernel
theorem dX10_set_44 : decode cX10_set 44 = .ok (.ifnonnull 10, 3) := by decide +kernel
theorem dX10_set_47 : decode cX10_set 47 = .ok (.aload_n 0, 1) := by decide +kernel
theorem dX10_set_48 : decode cX10_set 48 = .ok (.iload 6, 2) := by decide +kernel
theorem dX10_set_50 : decode cX10_set 50 = .ok (.invokevirtual 93, 3) := by decide +kernel
theorem dX10_set_53 : decode cX10_set 53 = .ok (.ireturn, 1) := by decide +kernel
theorem dX10_set_54 : decode cX10_set 54 = .ok (.aload 5, 2) := by decide +kernel
theorem dX10_set_56 : decode cX10_set 56 = .ok (.iload_n 2, 1) := by decide +kernel
