theorem dX10_set_57 : decode cX10_set 57 = .ok (.lload_n 3, 1) := by decide +kernel
theorem dX10_set_58 : decode cX10_set 58 = .ok (.invokevirtual 109, 3) := by decide +kernel
theorem dX10_set_61 : decode cX10_set 61 = .ok (.iconst 1, 1) := by decide +kernel
theorem dX10_set_62 : decode cX10_set 62 = .ok (.ireturn, 1) := by decide +kernel
theorem dX10_copy_0 : decode cX10_copy 0 = .ok (.aload_n 0, 1) := by decide +kernel
theorem dX10_copy_1 : decode cX10_copy 1 = .ok (.iload_n 1, 1) := by decide +kernel
theorem dX10_copy_2 : decode cX10_copy 2 = .ok (.invokevirtual 89, 3) := by decide +kernel
theorem dX10_copy_5 : decode cX10_copy 5 = .ok (.astore 6, 2) := by decide +kernel
theorem dX10_copy_7 : decode cX10_copy 7 = .ok (.aload_n 0, 1) := by decide +kernel
theorem dX10_copy_8 : decode cX10_copy 8 = .ok (.iload_n 2, 1) := by decide +kernel
theorem dX10_copy_9 : decode cX10_copy 9 = .ok (.invokevirtual 89, 3) := by decide +kernel
theorem dX10_copy_12 : decode cX10_copy 12 = .ok (.astore 7, 2) := by decide +kernel
theorem dX10_copy_14 : decode cX10_copy 14 = .ok (.aload 6, 2) := by decide +kernel
theorem dX10_copy_16 : decode cX10_copy 16 = .ok (.aload 7, 2) := by decide +kernel
theorem dX10_copy_18 : decode cX10_copy 18 = .ok (.invokestatic 113, 3) := by decide +kernel
theorem dX10_copy_21 : decode cX10_copy 21 = .ok (.istore 8, 2) := by decide +kernel
theorem dX10_copy_23 : decode cX10_copy 23 = .ok (.iload 8, 2) := by decide +kernel
theorem dX10_copy_25 : decode cX10_copy 25 = .ok (.ifCond .ne 12, 3) := by decide +kernel
theorem dX10_copy_28 : decode cX10_copy 28 = .ok (.iload 5, 2) := by decide +kernel
theorem dX10_copy_30 : decode cX10_copy 30 = .ok (.ifCond .ge 7, 3) := by decide +kernel
theorem dX10_copy_33 : decode cX10_copy 33 = .ok (.bipush (-4), 2) := by decide +kernel
theorem dX10_copy_35 : decode cX10_copy 35 = .ok (.istore 8, 2) := by decide +kernel
theorem dX10_copy_37 : decode cX10_copy 37 = .ok (.iload 8, 2) := by decide +kernel
theorem dX10_copy_39 : decode cX10_copy 39 = .ok (.ifCond .ne 40, 3) := by decide +kernel
theorem dX10_copy_42 : decode cX10_copy 42 = .ok (.aload 6, 2) := by decide +kernel
theorem dX10_copy_44 : decode cX10_copy 44 = .ok (.ifnull 35, 3) := by decide +kernel
theorem dX10_copy_47 : decode cX10_copy 47 = .ok (.aload 7, 2) := by decide +kernel
theorem dX10_copy_49 : decode cX10_copy 49 = .ok (.ifnull 30, 3) := by decide +kernel
theorem dX10_copy_52 : decode cX10_copy 52 = .ok (.aload 6, 2) := by decide +kernel
theorem dX10_copy_54 : decode cX10_copy 54 = .ok (.iload_n 3, 1) := by decide +kernel
theorem dX10_copy_55 : decode cX10_copy 55 = .ok (.iload 5, 2) := by decide +kernel
theorem dX10_copy_57 : decode cX10_copy 57 = .ok (.invokevirtual 117, 3) := by decide +kernel
theorem dX10_copy_60 : decode cX10_copy 60 = .ok (.ifCond .eq 15, 3) := by decide +kernel
theorem dX10_copy_63 : decode cX10_copy 63 = .ok (.aload 7, 2) := by decide +kernel
theorem dX10_copy_65 : decode cX10_copy 65 = .ok (.iload 4, 2) := by decide +kernel
theorem dX10_copy_67 : decode cX10_copy 67 = .ok (.iload 5, 2) := by decide +kernel
theorem dX10_copy_69 : decode cX10_copy 69 = .ok (.invokevirtual 117, 3) := by decide +kernel
theorem dX10_copy_72 : decode cX10_copy 72 = .ok (.ifCond .ne 7, 3) := by decide +kernel
theorem dX10_copy_75 : decode cX10_copy 75 = .ok (.bipush (-5), 2) := by decide +kernel
theorem dX10_copy_77 : decode cX10_copy 77 = .ok (.istore 8, 2) := by decide +kernel
theorem dX10_copy_79 : decode cX10_copy 79 = .ok (.iload 8, 2) := by decide +kernel
theorem dX10_copy_81 : decode cX10_copy 81 = .ok (.ifCond .ne 13, 3) := by decide +kernel
theorem dX10_copy_84 : decode cX10_copy 84 = .ok (.aload 6, 2) := by decide +kernel
theorem dX10_copy_86 : decode cX10_copy 86 = .ok (.ifnull 8, 3) := by decide +kernel
theorem dX10_copy_89 : decode cX10_copy 89 = .ok (.aload 7, 2) := by decide +kernel
theorem dX10_copy_91 : decode cX10_copy 91 = .ok (.ifnonnull 10, 3) := by decide +kernel
theorem dX10_copy_94 : decode cX10_copy 94 = .ok (.aload_n 0, 1) := by decide +kernel
theorem dX10_copy_95 : decode cX10_copy 95 = .ok (.iload 8, 2) := by decide +kernel
theorem dX10_copy_97 : decode cX10_copy 97 = .ok (.invokevirtual 93, 3) := by decide +kernel
theorem dX10_copy_100 : decode cX10_copy 100 = .ok (.ireturn, 1) := by decide +kernel
theorem dX10_copy_101 : decode cX10_copy 101 = .ok (.aload 7, 2) := by decide +kernel
theorem dX10_copy_103 : decode cX10_copy 103 = .ok (.aload 6, 2) := by decide +kernel
theorem dX10_copy_105 : decode cX10_copy 105 = .ok (.iload_n 3, 1) := by decide +kernel
theorem dX10_copy_106 : decode cX10_copy 106 = .ok (.iload 4, 2) := by decide +kernel
theorem dX10_copy_108 : decode cX10_copy 108 = .ok (.iload 5, 2) := by decide +kernel
theorem dX10_copy_110 : decode cX10_copy 110 = .ok (.invokevirtual 121, 3) := by decide +kernel
theorem dX10_copy_113 : decode cX10_copy 113 = .ok (.iconst 1, 1) := by decide +kernel
theorem dX10_copy_114 : decode cX10_copy 114 = .ok (.ireturn, 1) := by decide +kernel
theorem dX10_element_0 : decode cX10_element 0 = .ok (.aload_n 0, 1) := by decide +kernel
theorem dX10_element_1 : decode cX10_element 1 = .ok (.iload_n 1, 1) := by decide +kernel
theorem dX10_element_2 : decode cX10_element 2 = .ok (.invokevirtual 89, 3) := by decide +kernel
theorem dX10_element_5 : decode cX10_element 5 = .ok (.astore_n 3, 1) := by decide +kernel
theorem dX10_element_6 : decode cX10_element 6 = .ok (.aload_n 3, 1) := by decide +kernel
theorem dX10_element_7 : decode cX10_element 7 = .ok (.ifnonnull 7, 3) := by decide +kernel
theorem dX10_element_10 : decode cX10_element 10 = .ok (.lconst 0, 1) := by decide +kernel
theorem dX10_element_11 : decode cX10_element 11 = .ok (.goto 8, 3) := by decide +kernel
theorem dX10_element_14 : decode cX10_element 14 = .ok (.aload_n 3, 1) := by decide +kernel
theorem dX10_element_15 : decode cX10_element 15 = .ok (.iload_n 2, 1) := by decide +kernel
theorem dX10_element_16 : decode cX10_element 16 = .ok (.invokevirtual 125, 3) := by decide +kernel
theorem dX10_element_19 : decode cX10_element 19 = .ok (.lreturn, 1) := by decide +kernel
theorem dX10_show_0 : decode cX10_show 0 = .ok (.aload_n 0, 1) := by decide +kernel
theorem dX10_show_1 : decode cX10_show 1 = .ok (.iload_n 1, 1) := by decide +kernel
theorem dX10_show_2 : decode cX10_show 2 = .ok (.invokevirtual 89, 3) := by decide +kernel
theorem dX10_show_5 : decode cX10_show 5 = .ok (.astore_n 3, 1) := by decide +kernel
theorem dX10_show_6 : decode cX10_show 6 = .ok (.aload_n 3, 1) := by decide +kernel
theorem dX10_show_7 : decode cX10_show 7 = .ok (.ifnull 19, 3) := by decide +kernel
theorem dX10_show_10 : decode cX10_show 10 = .ok (.iload_n 2, 1) := by decide +kernel
theorem dX10_show_11 : decode cX10_show 11 = .ok (.iconst (-1), 1) := by decide +kernel
theorem dX10_show_12 : decode cX10_show 12 = .ok (.if_icmp .eq 20, 3) := by decide +kernel
theorem dX10_show_15 : decode cX10_show 15 = .ok (.aload_n 0, 1) := by decide +kernel
theorem dX10_show_16 : decode cX10_show 16 = .ok (.getfield 10, 3) := by decide +kernel
theorem dX10_show_19 : decode cX10_show 19 = .ok (.iload_n 2, 1) := by decide +kernel
theorem dX10_show_20 : decode cX10_show 20 = .ok (.invokevirtual 129, 3) := by decide +kernel
theorem dX10_show_23 : decode cX10_show 23 = .ok (.ifnonnull 9, 3) := by decide +kernel
theorem dX10_show_26 : decode cX10_show 26 = .ok (.aload_n 0, 1) := by decide +kernel
theorem dX10_show_27 : decode cX10_show 27 = .ok (.iconst (-1), 1) := by decide +kernel
theorem dX10_show_28 : decode cX10_show 28 = .ok (.invokevirtual 93, 3) := by decide +kernel
theorem dX10_show_31 : decode cX10_show 31 = .ok (.ireturn, 1) := by decide +kernel
theorem dX10_show_32 : decode cX10_show 32 = .ok (.iload_n 2, 1) := by decide +kernel
theorem dX10_show_33 : decode cX10_show 33 = .ok (.iconst (-1), 1) := by decide +kernel
theorem dX10_show_34 : decode cX10_show 34 = .ok (.if_icmp .ne 9, 3) := by decide +kernel
theorem dX10_show_37 : decode cX10_show 37 = .ok (.aload_n 3, 1) := by decide +kernel
theorem dX10_show_38 : decode cX10_show 38 = .ok (.invokevirtual 133, 3) := by decide +kernel
theorem dX10_show_41 : decode cX10_show 41 = .ok (.iconst 0, 1) := by decide +kernel
theorem dX10_show_42 : decode cX10_show 42 = .ok (.ireturn, 1) := by decide +kernel
theorem dX10_show_43 : decode cX10_show 43 = .ok (.aload_n 3, 1) := by decide +kernel
theorem dX10_show_44 : decode cX10_show 44 = .ok (.iload_n 2, 1) := by decide +kernel
theorem dX10_show_45 : decode cX10_show 45 = .ok (.invokevirtual 136, 3) := by decide +kernel
theorem dX10_show_48 : decode cX10_show 48 = .ok (.iconst 1, 1) := by decide +kernel
theorem dX10_show_49 : decode cX10_show 49 = .ok (.ireturn, 1) := by decide +kernel
theorem dX10_holds_0 : decode cX10_holds 0 = .ok (.aload_n 0, 1) := by decide +kernel
theorem dX10_holds_1 : decode cX10_holds 1 = .ok (.iload_n 1, 1) := by decide +kernel
theorem dX10_holds_2 : decode cX10_holds 2 = .ok (.invokevirtual 89, 3) := by decide +kernel
theorem dX10_holds_5 : decode cX10_holds 5 = .ok (.astore_n 2, 1) := by decide +kernel
theorem dX10_holds_6 : decode cX10_holds 6 = .ok (.aload_n 2, 1) := by decide +kernel
theorem dX10_holds_7 : decode cX10_holds 7 = .ok (.ifnonnull 5, 3) := by decide +kernel
theorem dX10_holds_10 : decode cX10_holds 10 = .ok (.iconst (-1), 1) := by decide +kernel
theorem dX10_holds_11 : decode cX10_holds 11 = .ok (.ireturn, 1) := by decide +kernel
theorem dX10_holds_12 : decode cX10_holds 12 = .ok (.aload_n 2, 1) := by decide +kernel
theorem dX10_holds_13 : decode cX10_holds 13 = .ok (.invokevirtual 140, 3) := by decide +kernel
theorem dX10_holds_16 : decode cX10_holds 16 = .ok (.ifCond .eq 13, 3) := by decide +kernel
theorem dX10_holds_19 : decode cX10_holds 19 = .ok (.bipush 100, 2) := by decide +kernel
theorem dX10_holds_21 : decode cX10_holds 21 = .ok (.aload_n 2, 1) := by decide +kernel
theorem dX10_holds_22 : decode cX10_holds 22 = .ok (.getfield 144, 3) := by decide +kernel
theorem dX10_holds_25 : decode cX10_holds 25 = .ok (.iadd, 1) := by decide +kernel
theorem dX10_holds_26 : decode cX10_holds 26 = .ok (.goto 7, 3) := by decide +kernel
theorem dX10_holds_29 : decode cX10_holds 29 = .ok (.aload_n 2, 1) := by decide +kernel
theorem dX10_holds_30 : decode cX10_holds 30 = .ok (.getfield 147, 3) := by decide +kernel
theorem dX10_holds_33 : decode cX10_holds 33 = .ok (.ireturn, 1) := by decide +kernel
theorem dX10_says_0 : decode cX10_says 0 = .ok (.aload_n 0, 1) := by decide +kernel
theorem dX10_says_1 : decode cX10_says 1 = .ok (.iload_n 1, 1) := by decide +kernel
theorem dX10_says_2 : decode cX10_says 2 = .ok (.invokevirtual 89, 3) := by decide +kernel
theorem dX10_says_5 : decode cX10_says 5 = .ok (.astore_n 3, 1) := by decide +kernel
theorem dX10_says_6 : decode cX10_says 6 = .ok (.aload_n 3, 1) := by decide +kernel
theorem dX10_says_7 : decode cX10_says 7 = .ok (.ifnull 15, 3) := by decide +kernel
theorem dX10_says_10 : decode cX10_says 10 = .ok (.aload_n 0, 1) := by decide +kernel
theorem dX10_says_11 : decode cX10_says 11 = .ok (.getfield 10, 3) := by decide +kernel
theorem dX10_says_14 : decode cX10_says 14 = .ok (.iconst 1, 1) := by decide +kernel
theorem dX10_says_15 : decode cX10_says 15 = .ok (.iload_n 2, 1) := by decide +kernel
theorem dX10_says_16 : decode cX10_says 16 = .ok (.invokevirtual 150, 3) := by decide +kernel
theorem dX10_says_19 : decode cX10_says 19 = .ok (.ifCond .ne 9, 3) := by decide +kernel
theorem dX10_says_22 : decode cX10_says 22 = .ok (.aload_n 0, 1) := by decide +kernel
theorem dX10_says_23 : decode cX10_says 23 = .ok (.iconst (-1), 1) := by decide +kernel
theorem dX10_says_24 : decode cX10_says 24 = .ok (.invokevirtual 93, 3) := by decide +kernel
theorem dX10_says_27 : decode cX10_says 27 = .ok (.ireturn, 1) := by decide +kernel
theorem dX10_says_28 : decode cX10_says 28 = .ok (.aload_n 3, 1) := by decide +kernel
theorem dX10_says_29 : decode cX10_says 29 = .ok (.invokevirtual 140, 3) := by decide +kernel
theorem dX10_says_32 : decode cX10_says 32 = .ok (.ifCond .eq 10, 3) := by decide +kernel
theorem dX10_says_35 : decode cX10_says 35 = .ok (.aload_n 0, 1) := by decide +kernel
theorem dX10_says_36 : decode cX10_says 36 = .ok (.bipush (-2), 2) := by decide +kernel
theorem dX10_says_38 : decode cX10_says 38 = .ok (.invokevirtual 93, 3) := by decide +kernel
theorem dX10_says_41 : decode cX10_says 41 = .ok (.ireturn, 1) := by decide +kernel
theorem dX10_says_42 : decode cX10_says 42 = .ok (.aload_n 0, 1) := by decide +kernel
theorem dX10_says_43 : decode cX10_says 43 = .ok (.getfield 10, 3) := by decide +kernel
theorem dX10_says_46 : decode cX10_says 46 = .ok (.aload_n 3, 1) := by decide +kernel
theorem dX10_says_47 : decode cX10_says 47 = .ok (.getfield 147, 3) := by decide +kernel
theorem dX10_says_50 : decode cX10_says 50 = .ok (.invokevirtual 129, 3) := by decide +kernel
theorem dX10_says_53 : decode cX10_says 53 = .ok (.astore 4, 2) := by decide +kernel
theorem dX10_says_55 : decode cX10_says 55 = .ok (.aload 4, 2) := by decide +kernel
theorem dX10_says_57 : decode cX10_says 57 = .ok (.ifnonnull 10, 3) := by decide +kernel
theorem dX10_says_60 : decode cX10_says 60 = .ok (.aload_n 0, 1) := by decide +kernel
theorem dX10_says_61 : decode cX10_says 61 = .ok (.bipush (-3), 2) := by decide +kernel
theorem dX10_says_63 : decode cX10_says 63 = .ok (.invokevirtual 93, 3) := by decide +kernel
theorem dX10_says_66 : decode cX10_says 66 = .ok (.ireturn, 1) := by decide +kernel
theorem dX10_says_67 : decode cX10_says 67 = .ok (.aload 4, 2) := by decide +kernel
theorem dX10_says_69 : decode cX10_says 69 = .ok (.iload_n 2, 1) := by decide +kernel
theorem dX10_says_70 : decode cX10_says 70 = .ok (.invokevirtual 153, 3) := by decide +kernel
theorem dX10_says_73 : decode cX10_says 73 = .ok (.ifCond .ne 10, 3) := by decide +kernel
theorem dX10_says_76 : decode cX10_says 76 = .ok (.aload_n 0, 1) := by decide +kernel
theorem dX10_says_77 : decode cX10_says 77 = .ok (.bipush (-2), 2) := by decide +kernel
theorem dX10_says_79 : decode cX10_says 79 = .ok (.invokevirtual 93, 3) := by decide +kernel
theorem dX10_says_82 : decode cX10_says 82 = .ok (.ireturn, 1) := by decide +kernel
theorem dX10_says_83 : decode cX10_says 83 = .ok (.iload_n 2, 1) := by decide +kernel
theorem dX10_says_84 : decode cX10_says 84 = .ok (.tableswitch 78 0 6 #[44, 78, 50, 78, 64, 78, 64], 44) := by decide +kernel
theorem dX10_says_128 : decode cX10_says 128 = .ok (.aload 4, 2) := by decide +kernel
theorem dX10_says_130 : decode cX10_says 130 = .ok (.getfield 158, 3) := by decide +kernel
theorem dX10_says_133 : decode cX10_says 133 = .ok (.ireturn, 1) := by decide +kernel
theorem dX10_says_134 : decode cX10_says 134 = .ok (.aload 4, 2) := by decide +kernel
theorem dX10_says_136 : decode cX10_says 136 = .ok (.getfield 161, 3) := by decide +kernel
theorem dX10_says_139 : decode cX10_says 139 = .ok (.ifCond .eq 7, 3) := by decide +kernel
theorem dX10_says_142 : decode cX10_says 142 = .ok (.iconst 1, 1) := by decide +kernel
theorem dX10_says_143 : decode cX10_says 143 = .ok (.goto 4, 3) := by decide +kernel
theorem dX10_says_146 : decode cX10_says 146 = .ok (.iconst 0, 1) := by decide +kernel
theorem dX10_says_147 : decode cX10_says 147 = .ok (.ireturn, 1) := by decide +kernel
theorem dX10_says_148 : decode cX10_says 148 = .ok (.aload 4, 2) := by decide +kernel
theorem dX10_says_150 : decode cX10_says 150 = .ok (.iconst 0, 1) := by decide +kernel
theorem dX10_says_151 : decode cX10_says 151 = .ok (.aload_n 0, 1) := by decide +kernel
theorem dX10_says_152 : decode cX10_says 152 = .ok (.getfield 10, 3) := by decide +kernel
theorem dX10_says_155 : decode cX10_says 155 = .ok (.getfield 164, 3) := by decide +kernel
theorem dX10_says_158 : decode cX10_says 158 = .ok (.invokevirtual 167, 3) := by decide +kernel
theorem dX10_says_161 : decode cX10_says 161 = .ok (.ireturn, 1) := by decide +kernel
theorem dX10_says_162 : decode cX10_says 162 = .ok (.aload 4, 2) := by decide +kernel
theorem dX10_says_164 : decode cX10_says 164 = .ok (.invokevirtual 171, 3) := by decide +kernel
theorem dX10_says_167 : decode cX10_says 167 = .ok (.ireturn, 1) := by decide +kernel
theorem dX10_side_0 : decode cX10_side 0 = .ok (.aload_n 0, 1) := by decide +kernel
theorem dX10_side_1 : decode cX10_side 1 = .ok (.getfield 10, 3) := by decide +kernel
theorem dX10_side_4 : decode cX10_side 4 = .ok (.iconst 0, 1) := by decide +kernel
theorem dX10_side_5 : decode cX10_side 5 = .ok (.iload_n 1, 1) := by decide +kernel
theorem dX10_side_6 : decode cX10_side 6 = .ok (.invokevirtual 150, 3) := by decide +kernel
theorem dX10_side_9 : decode cX10_side 9 = .ok (.ifCond .ne 10, 3) := by decide +kernel
theorem dX10_side_12 : decode cX10_side 12 = .ok (.aload_n 0, 1) := by decide +kernel
theorem dX10_side_13 : decode cX10_side 13 = .ok (.bipush (-6), 2) := by decide +kernel
theorem dX10_side_15 : decode cX10_side 15 = .ok (.invokevirtual 93, 3) := by decide +kernel
theorem dX10_side_18 : decode cX10_side 18 = .ok (.ireturn, 1) := by decide +kernel
theorem dX10_side_19 : decode cX10_side 19 = .ok (.aload_n 0, 1) := by decide +kernel
theorem dX10_side_20 : decode cX10_side 20 = .ok (.getfield 10, 3) := by decide +kernel
theorem dX10_side_23 : decode cX10_side 23 = .ok (.getfield 175, 3) := by decide +kernel
theorem dX10_side_26 : decode cX10_side 26 = .ok (.istore_n 2, 1) := by decide +kernel
theorem dX10_side_27 : decode cX10_side 27 = .ok (.aload_n 0, 1) := by decide +kernel
theorem dX10_side_28 : decode cX10_side 28 = .ok (.getfield 10, 3) := by decide +kernel
theorem dX10_side_31 : decode cX10_side 31 = .ok (.iload_n 1, 1) := by decide +kernel
theorem dX10_side_32 : decode cX10_side 32 = .ok (.putfield 175, 3) := by decide +kernel
theorem dX10_side_35 : decode cX10_side 35 = .ok (.iload_n 2, 1) := by decide +kernel
theorem dX10_side_36 : decode cX10_side 36 = .ok (.ireturn, 1) := by decide +kernel
theorem dX10_thing_0 : decode cX10_thing 0 = .ok (.aload_n 0, 1) := by decide +kernel
theorem dX10_thing_1 : decode cX10_thing 1 = .ok (.getfield 10, 3) := by decide +kernel
theorem dX10_thing_4 : decode cX10_thing 4 = .ok (.iconst 1, 1) := by decide +kernel
theorem dX10_thing_5 : decode cX10_thing 5 = .ok (.iload_n 1, 1) := by decide +kernel
theorem dX10_thing_6 : decode cX10_thing 6 = .ok (.invokevirtual 150, 3) := by decide +kernel
theorem dX10_thing_9 : decode cX10_thing 9 = .ok (.ifCond .ne 9, 3) := by decide +kernel
theorem dX10_thing_12 : decode cX10_thing 12 = .ok (.aload_n 0, 1) := by decide +kernel
theorem dX10_thing_13 : decode cX10_thing 13 = .ok (.iconst (-1), 1) := by decide +kernel
theorem dX10_thing_14 : decode cX10_thing 14 = .ok (.invokevirtual 93, 3) := by decide +kernel
theorem dX10_thing_17 : decode cX10_thing 17 = .ok (.ireturn, 1) := by decide +kernel
theorem dX10_thing_18 : decode cX10_thing 18 = .ok (.aload_n 0, 1) := by decide +kernel
theorem dX10_thing_19 : decode cX10_thing 19 = .ok (.getfield 10, 3) := by decide +kernel
theorem dX10_thing_22 : decode cX10_thing 22 = .ok (.iconst 2, 1) := by decide +kernel
theorem dX10_thing_23 : decode cX10_thing 23 = .ok (.iload_n 2, 1) := by decide +kernel
theorem dX10_thing_24 : decode cX10_thing 24 = .ok (.invokevirtual 150, 3) := by decide +kernel
theorem dX10_thing_27 : decode cX10_thing 27 = .ok (.ifCond .eq 14, 3) := by decide +kernel
theorem dX10_thing_30 : decode cX10_thing 30 = .ok (.aload_n 0, 1) := by decide +kernel
theorem dX10_thing_31 : decode cX10_thing 31 = .ok (.getfield 10, 3) := by decide +kernel
theorem dX10_thing_34 : decode cX10_thing 34 = .ok (.iload_n 3, 1) := by decide +kernel
theorem dX10_thing_35 : decode cX10_thing 35 = .ok (.invokevirtual 178, 3) := by decide +kernel
theorem dX10_thing_38 : decode cX10_thing 38 = .ok (.ifCond .ne 10, 3) := by decide +kernel
theorem dX10_thing_41 : decode cX10_thing 41 = .ok (.aload_n 0, 1) := by decide +kernel
theorem dX10_thing_42 : decode cX10_thing 42 = .ok (.bipush (-6), 2) := by decide +kernel
theorem dX10_thing_44 : decode cX10_thing 44 = .ok (.invokevirtual 93, 3) := by decide +kernel
theorem dX10_thing_47 : decode cX10_thing 47 = .ok (.ireturn, 1) := by decide +kernel
theorem dX10_thing_48 : decode cX10_thing 48 = .ok (.aload_n 0, 1) := by decide +kernel
theorem dX10_thing_49 : decode cX10_thing 49 = .ok (.getfield 10, 3) := by decide +kernel
theorem dX10_thing_52 : decode cX10_thing 52 = .ok (.getfield 181, 3) := by decide +kernel
theorem dX10_thing_55 : decode cX10_thing 55 = .ok (.bipush 16, 2) := by decide +kernel
theorem dX10_thing_57 : decode cX10_thing 57 = .ok (.if_icmp .lt 10, 3) := by decide +kernel
theorem dX10_thing_60 : decode cX10_thing 60 = .ok (.aload_n 0, 1) := by decide +kernel
theorem dX10_thing_61 : decode cX10_thing 61 = .ok (.bipush (-7), 2) := by decide +kernel
theorem dX10_thing_63 : decode cX10_thing 63 = .ok (.invokevirtual 93, 3) := by decide +kernel
theorem dX10_thing_66 : decode cX10_thing 66 = .ok (.ireturn, 1) := by decide +kernel
theorem dX10_thing_67 : decode cX10_thing 67 = .ok (.aload_n 0, 1) := by decide +kernel
theorem dX10_thing_68 : decode cX10_thing 68 = .ok (.getfield 10, 3) := by decide +kernel
theorem dX10_thing_71 : decode cX10_thing 71 = .ok (.iload_n 1, 1) := by decide +kernel
theorem dX10_thing_72 : decode cX10_thing 72 = .ok (.iload_n 2, 1) := by decide +kernel
theorem dX10_thing_73 : decode cX10_thing 73 = .ok (.iload_n 3, 1) := by decide +kernel
theorem dX10_thing_74 : decode cX10_thing 74 = .ok (.invokevirtual 184, 3) := by decide +kernel
theorem dX10_thing_77 : decode cX10_thing 77 = .ok (.ireturn, 1) := by decide +kernel
theorem dX10_neighbour_0 : decode cX10_neighbour 0 = .ok (.aload_n 0, 1) := by decide +kernel
theorem dX10_neighbour_1 : decode cX10_neighbour 1 = .ok (.getfield 10, 3) := by decide +kernel
theorem dX10_neighbour_4 : decode cX10_neighbour 4 = .ok (.bipush 6, 2) := by decide +kernel
theorem dX10_neighbour_6 : decode cX10_neighbour 6 = .ok (.iload_n 1, 1) := by decide +kernel
theorem dX10_neighbour_7 : decode cX10_neighbour 7 = .ok (.invokevirtual 150, 3) := by decide +kernel
theorem dX10_neighbour_10 : decode cX10_neighbour 10 = .ok (.ifCond .eq 16, 3) := by decide +kernel
theorem dX10_neighbour_13 : decode cX10_neighbour 13 = .ok (.aload_n 0, 1) := by decide +kernel
theorem dX10_neighbour_14 : decode cX10_neighbour 14 = .ok (.getfield 10, 3) := by decide +kernel
theorem dX10_neighbour_17 : decode cX10_neighbour 17 = .ok (.bipush 7, 2) := by decide +kernel
theorem dX10_neighbour_19 : decode cX10_neighbour 19 = .ok (.iload_n 2, 1) := by decide +kernel
theorem dX10_neighbour_20 : decode cX10_neighbour 20 = .ok (.invokevirtual 150, 3) := by decide +kernel
theorem dX10_neighbour_23 : decode cX10_neighbour 23 = .ok (.ifCond .ne 10, 3) := by decide +kernel
theorem dX10_neighbour_26 : decode cX10_neighbour 26 = .ok (.aload_n 0, 1) := by decide +kernel
theorem dX10_neighbour_27 : decode cX10_neighbour 27 = .ok (.bipush (-6), 2) := by decide +kernel
theorem dX10_neighbour_29 : decode cX10_neighbour 29 = .ok (.invokevirtual 93, 3) := by decide +kernel
theorem dX10_neighbour_32 : decode cX10_neighbour 32 = .ok (.ireturn, 1) := by decide +kernel
theorem dX10_neighbour_33 : decode cX10_neighbour 33 = .ok (.aload_n 0, 1) := by decide +kernel
theorem dX10_neighbour_34 : decode cX10_neighbour 34 = .ok (.getfield 10, 3) := by decide +kernel
theorem dX10_neighbour_37 : decode cX10_neighbour 37 = .ok (.getfield 188, 3) := by decide +kernel
theorem dX10_neighbour_40 : decode cX10_neighbour 40 = .ok (.bipush 8, 2) := by decide +kernel
theorem dX10_neighbour_42 : decode cX10_neighbour 42 = .ok (.if_icmp .lt 10, 3) := by decide +kernel
theorem dX10_neighbour_45 : decode cX10_neighbour 45 = .ok (.aload_n 0, 1) := by decide +kernel
theorem dX10_neighbour_46 : decode cX10_neighbour 46 = .ok (.bipush (-7), 2) := by decide +kernel
theorem dX10_neighbour_48 : decode cX10_neighbour 48 = .ok (.invokevirtual 93, 3) := by decide +kernel
theorem dX10_neighbour_51 : decode cX10_neighbour 51 = .ok (.ireturn, 1) := by decide +kernel
theorem dX10_neighbour_52 : decode cX10_neighbour 52 = .ok (.aload_n 0, 1) := by decide +kernel
theorem dX10_neighbour_53 : decode cX10_neighbour 53 = .ok (.getfield 10, 3) := by decide +kernel
theorem dX10_neighbour_56 : decode cX10_neighbour 56 = .ok (.iload_n 1, 1) := by decide +kernel
theorem dX10_neighbour_57 : decode cX10_neighbour 57 = .ok (.iload_n 2, 1) := by decide +kernel
theorem dX10_neighbour_58 : decode cX10_neighbour 58 = .ok (.invokevirtual 191, 3) := by decide +kernel
theorem dX10_neighbour_61 : decode cX10_neighbour 61 = .ok (.ireturn, 1) := by decide +kernel
theorem dX10_device_0 : decode cX10_device 0 = .ok (.aload_n 0, 1) := by decide +kernel
theorem dX10_device_1 : decode cX10_device 1 = .ok (.getfield 10, 3) := by decide +kernel
theorem dX10_device_4 : decode cX10_device 4 = .ok (.iload_n 1, 1) := by decide +kernel
theorem dX10_device_5 : decode cX10_device 5 = .ok (.invokevirtual 178, 3) := by decide +kernel
theorem dX10_device_8 : decode cX10_device 8 = .ok (.ifCond .eq 29, 3) := by decide +kernel
theorem dX10_device_11 : decode cX10_device 11 = .ok (.aload_n 0, 1) := by decide +kernel
theorem dX10_device_12 : decode cX10_device 12 = .ok (.getfield 10, 3) := by decide +kernel
theorem dX10_device_15 : decode cX10_device 15 = .ok (.bipush 8, 2) := by decide +kernel
theorem dX10_device_17 : decode cX10_device 17 = .ok (.iload_n 2, 1) := by decide +kernel
theorem dX10_device_18 : decode cX10_device 18 = .ok (.invokevirtual 150, 3) := by decide +kernel
theorem dX10_device_21 : decode cX10_device 21 = .ok (.ifCond .eq 16, 3) := by decide +kernel
theorem dX10_device_24 : decode cX10_device 24 = .ok (.aload_n 0, 1) := by decide +kernel
theorem dX10_device_25 : decode cX10_device 25 = .ok (.getfield 10, 3) := by decide +kernel
theorem dX10_device_28 : decode cX10_device 28 = .ok (.bipush 9, 2) := by decide +kernel
theorem dX10_device_30 : decode cX10_device 30 = .ok (.iload_n 3, 1) := by decide +kernel
theorem dX10_device_31 : decode cX10_device 31 = .ok (.invokevirtual 150, 3) := by decide +kernel
theorem dX10_device_34 : decode cX10_device 34 = .ok (.ifCond .ne 10, 3) := by decide +kernel
theorem dX10_device_37 : decode cX10_device 37 = .ok (.aload_n 0, 1) := by decide +kernel
theorem dX10_device_38 : decode cX10_device 38 = .ok (.bipush (-6), 2) := by decide +kernel
theorem dX10_device_40 : decode cX10_device 40 = .ok (.invokevirtual 93, 3) := by decide +kernel
theorem dX10_device_43 : decode cX10_device 43 = .ok (.ireturn, 1) := by decide +kernel
theorem dX10_device_44 : decode cX10_device 44 = .ok (.aload_n 0, 1) := by decide +kernel
theorem dX10_device_45 : decode cX10_device 45 = .ok (.getfield 10, 3) := by decide +kernel
theorem dX10_device_48 : decode cX10_device 48 = .ok (.getfield 194, 3) := by decide +kernel
theorem dX10_device_51 : decode cX10_device 51 = .ok (.bipush 6, 2) := by decide +kernel
theorem dX10_device_53 : decode cX10_device 53 = .ok (.if_icmp .lt 10, 3) := by decide +kernel
theorem dX10_device_56 : decode cX10_device 56 = .ok (.aload_n 0, 1) := by decide +kernel
theorem dX10_device_57 : decode cX10_device 57 = .ok (.bipush (-7), 2) := by decide +kernel
theorem dX10_device_59 : decode cX10_device 59 = .ok (.invokevirtual 93, 3) := by decide +kernel
theorem dX10_device_62 : decode cX10_device 62 = .ok (.ireturn, 1) := by decide +kernel
theorem dX10_device_63 : decode cX10_device 63 = .ok (.aload_n 0, 1) := by decide +kernel
theorem dX10_device_64 : decode cX10_device 64 = .ok (.getfield 10, 3) := by decide +kernel
theorem dX10_device_67 : decode cX10_device 67 = .ok (.iload_n 1, 1) := by decide +kernel
theorem dX10_device_68 : decode cX10_device 68 = .ok (.iload_n 2, 1) := by decide +kernel
theorem dX10_device_69 : decode cX10_device 69 = .ok (.iload_n 3, 1) := by decide +kernel
theorem dX10_device_70 : decode cX10_device 70 = .ok (.invokevirtual 197, 3) := by decide +kernel
theorem dX10_device_73 : decode cX10_device 73 = .ok (.ireturn, 1) := by decide +kernel
theorem dX10_box_0 : decode cX10_box 0 = .ok (.iload_n 1, 1) := by decide +kernel
theorem dX10_box_1 : decode cX10_box 1 = .ok (.iconst 1, 1) := by decide +kernel
theorem dX10_box_2 : decode cX10_box 2 = .ok (.if_icmp .ne 12, 3) := by decide +kernel
theorem dX10_box_5 : decode cX10_box 5 = .ok (.iload_n 2, 1) := by decide +kernel
theorem dX10_box_6 : decode cX10_box 6 = .ok (.iconst (-1), 1) := by decide +kernel
theorem dX10_box_7 : decode cX10_box 7 = .ok (.if_icmp .ne 7, 3) := by decide +kernel
theorem dX10_box_10 : decode cX10_box 10 = .ok (.iconst 1, 1) := by decide +kernel
theorem dX10_box_11 : decode cX10_box 11 = .ok (.goto 4, 3) := by decide +kernel
theorem dX10_box_14 : decode cX10_box 14 = .ok (.iconst 0, 1) := by decide +kernel
theorem dX10_box_15 : decode cX10_box 15 = .ok (.istore_n 3, 1) := by decide +kernel
theorem dX10_box_16 : decode cX10_box 16 = .ok (.aload_n 0, 1) := by decide +kernel
theorem dX10_box_17 : decode cX10_box 17 = .ok (.getfield 10, 3) := by decide +kernel
theorem dX10_box_20 : decode cX10_box 20 = .ok (.iconst 4, 1) := by decide +kernel
theorem dX10_box_21 : decode cX10_box 21 = .ok (.iload_n 1, 1) := by decide +kernel
theorem dX10_box_22 : decode cX10_box 22 = .ok (.invokevirtual 150, 3) := by decide +kernel
theorem dX10_box_25 : decode cX10_box 25 = .ok (.ifCond .eq 18, 3) := by decide +kernel
theorem dX10_box_28 : decode cX10_box 28 = .ok (.iload_n 3, 1) := by decide +kernel
theorem dX10_box_29 : decode cX10_box 29 = .ok (.ifCond .ne 24, 3) := by decide +kernel
theorem dX10_box_32 : decode cX10_box 32 = .ok (.aload_n 0, 1) := by decide +kernel
theorem dX10_box_33 : decode cX10_box 33 = .ok (.getfield 10, 3) := by decide +kernel
theorem dX10_box_36 : decode cX10_box 36 = .ok (.iload_n 2, 1) := by decide +kernel
theorem dX10_box_37 : decode cX10_box 37 = .ok (.invokevirtual 178, 3) := by decide +kernel
theorem dX10_box_40 : decode cX10_box 40 = .ok (.ifCond .ne 13, 3) := by decide +kernel
theorem dX10_box_43 : decode cX10_box 43 = .ok (.aload_n 0, 1) := by decide +kernel
theorem dX10_box_44 : decode cX10_box 44 = .ok (.bipush (-6), 2) := by decide +kernel
theorem dX10_box_46 : decode cX10_box 46 = .ok (.invokevirtual 93, 3) := by decide +kernel
theorem dX10_box_49 : decode cX10_box 49 = .ok (.bipush (-10), 2) := by decide +kernel
theorem dX10_box_51 : decode cX10_box 51 = .ok (.iadd, 1) := by decide +kernel
theorem dX10_box_52 : decode cX10_box 52 = .ok (.ireturn, 1) := by decide +kernel
theorem dX10_box_53 : decode cX10_box 53 = .ok (.aload_n 0, 1) := by decide +kernel
theorem dX10_box_54 : decode cX10_box 54 = .ok (.getfield 10, 3) := by decide +kernel
theorem dX10_box_57 : decode cX10_box 57 = .ok (.iload_n 1, 1) := by decide +kernel
theorem dX10_box_58 : decode cX10_box 58 = .ok (.invokevirtual 200, 3) := by decide +kernel
theorem dX10_box_61 : decode cX10_box 61 = .ok (.istore 4, 2) := by decide +kernel
theorem dX10_box_63 : decode cX10_box 63 = .ok (.aload_n 0, 1) := by decide +kernel
theorem dX10_box_64 : decode cX10_box 64 = .ok (.getfield 10, 3) := by decide +kernel
theorem dX10_box_67 : decode cX10_box 67 = .ok (.iload_n 1, 1) := by decide +kernel
theorem dX10_box_68 : decode cX10_box 68 = .ok (.iload_n 2, 1) := by decide +kernel
theorem dX10_box_69 : decode cX10_box 69 = .ok (.invokevirtual 203, 3) := by decide +kernel
theorem dX10_box_72 : decode cX10_box 72 = .ok (.iload 4, 2) := by decide +kernel
theorem dX10_box_74 : decode cX10_box 74 = .ok (.ireturn, 1) := by decide +kernel
theorem dX10_ask_0 : decode cX10_ask 0 = .ok (.iload_n 1, 1) := by decide +kernel
theorem dX10_ask_1 : decode cX10_ask 1 = .ok (.ifCond .ne 33, 3) := by decide +kernel
theorem dX10_ask_4 : decode cX10_ask 4 = .ok (.aload_n 0, 1) := by decide +kernel
theorem dX10_ask_5 : decode cX10_ask 5 = .ok (.getfield 10, 3) := by decide +kernel
theorem dX10_ask_8 : decode cX10_ask 8 = .ok (.iconst 5, 1) := by decide +kernel
theorem dX10_ask_9 : decode cX10_ask 9 = .ok (.iload_n 2, 1) := by decide +kernel
theorem dX10_ask_10 : decode cX10_ask 10 = .ok (.invokevirtual 150, 3) := by decide +kernel
theorem dX10_ask_13 : decode cX10_ask 13 = .ok (.ifCond .eq 21, 3) := by decide +kernel
theorem dX10_ask_16 : decode cX10_ask 16 = .ok (.aload_n 0, 1) := by decide +kernel
theorem dX10_ask_17 : decode cX10_ask 17 = .ok (.getfield 10, 3) := by decide +kernel
theorem dX10_ask_20 : decode cX10_ask 20 = .ok (.getfield 206, 3) := by decide +kernel
theorem dX10_ask_23 : decode cX10_ask 23 = .ok (.istore_n 3, 1) := by decide +kernel
theorem dX10_ask_24 : decode cX10_ask 24 = .ok (.aload_n 0, 1) := by decide +kernel
theorem dX10_ask_25 : decode cX10_ask 25 = .ok (.getfield 10, 3) := by decide +kernel
theorem dX10_ask_28 : decode cX10_ask 28 = .ok (.iload_n 2, 1) := by decide +kernel
theorem dX10_ask_29 : decode cX10_ask 29 = .ok (.putfield 206, 3) := by decide +kernel
theorem dX10_ask_32 : decode cX10_ask 32 = .ok (.iload_n 3, 1) := by decide +kernel
theorem dX10_ask_33 : decode cX10_ask 33 = .ok (.ireturn, 1) := by decide +kernel
theorem dX10_ask_34 : decode cX10_ask 34 = .ok (.iload_n 1, 1) := by decide +kernel
theorem dX10_ask_35 : decode cX10_ask 35 = .ok (.iconst 1, 1) := by decide +kernel
theorem dX10_ask_36 : decode cX10_ask 36 = .ok (.if_icmp .ne 34, 3) := by decide +kernel
theorem dX10_ask_39 : decode cX10_ask 39 = .ok (.aload_n 0, 1) := by decide +kernel
theorem dX10_ask_40 : decode cX10_ask 40 = .ok (.getfield 10, 3) := by decide +kernel
theorem dX10_ask_43 : decode cX10_ask 43 = .ok (.bipush 6, 2) := by decide +kernel
theorem dX10_ask_45 : decode cX10_ask 45 = .ok (.iload_n 2, 1) := by decide +kernel
theorem dX10_ask_46 : decode cX10_ask 46 = .ok (.invokevirtual 150, 3) := by decide +kernel
theorem dX10_ask_49 : decode cX10_ask 49 = .ok (.ifCond .eq 21, 3) := by decide +kernel
theorem dX10_ask_52 : decode cX10_ask 52 = .ok (.aload_n 0, 1) := by decide +kernel
theorem dX10_ask_53 : decode cX10_ask 53 = .ok (.getfield 10, 3) := by decide +kernel
theorem dX10_ask_56 : decode cX10_ask 56 = .ok (.getfield 209, 3) := by decide +kernel
theorem dX10_ask_59 : decode cX10_ask 59 = .ok (.istore_n 3, 1) := by decide +kernel
theorem dX10_ask_60 : decode cX10_ask 60 = .ok (.aload_n 0, 1) := by decide +kernel
theorem dX10_ask_61 : decode cX10_ask 61 = .ok (.getfield 10, 3) := by decide +kernel
theorem dX10_ask_64 : decode cX10_ask 64 = .ok (.iload_n 2, 1) := by decide +kernel
theorem dX10_ask_65 : decode cX10_ask 65 = .ok (.putfield 209, 3) := by decide +kernel
theorem dX10_ask_68 : decode cX10_ask 68 = .ok (.iload_n 3, 1) := by decide +kernel
theorem dX10_ask_69 : decode cX10_ask 69 = .ok (.ireturn, 1) := by decide +kernel
theorem dX10_ask_70 : decode cX10_ask 70 = .ok (.iload_n 1, 1) := by decide +kernel
theorem dX10_ask_71 : decode cX10_ask 71 = .ok (.iconst 2, 1) := by decide +kernel
theorem dX10_ask_72 : decode cX10_ask 72 = .ok (.if_icmp .ne 34, 3) := by decide +kernel
theorem dX10_ask_75 : decode cX10_ask 75 = .ok (.aload_n 0, 1) := by decide +kernel
theorem dX10_ask_76 : decode cX10_ask 76 = .ok (.getfield 10, 3) := by decide +kernel
theorem dX10_ask_79 : decode cX10_ask 79 = .ok (.bipush 11, 2) := by decide +kernel
theorem dX10_ask_81 : decode cX10_ask 81 = .ok (.iload_n 2, 1) := by decide +kernel
theorem dX10_ask_82 : decode cX10_ask 82 = .ok (.invokevirtual 150, 3) := by decide +kernel
theorem dX10_ask_85 : decode cX10_ask 85 = .ok (.ifCond .eq 21, 3) := by decide +kernel
theorem dX10_ask_88 : decode cX10_ask 88 = .ok (.aload_n 0, 1) := by decide +kernel
theorem dX10_ask_89 : decode cX10_ask 89 = .ok (.getfield 10, 3) := by decide +kernel
theorem dX10_ask_92 : decode cX10_ask 92 = .ok (.getfield 164, 3) := by decide +kernel
theorem dX10_ask_95 : decode cX10_ask 95 = .ok (.istore_n 3, 1) := by decide +kernel
theorem dX10_ask_96 : decode cX10_ask 96 = .ok (.aload_n 0, 1) := by decide +kernel
theorem dX10_ask_97 : decode cX10_ask 97 = .ok (.getfield 10, 3) := by decide +kernel
theorem dX10_ask_100 : decode cX10_ask 100 = .ok (.iload_n 2, 1) := by decide +kernel
theorem dX10_ask_101 : decode cX10_ask 101 = .ok (.putfield 164, 3) := by decide +kernel
theorem dX10_ask_104 : decode cX10_ask 104 = .ok (.iload_n 3, 1) := by decide +kernel
theorem dX10_ask_105 : decode cX10_ask 105 = .ok (.ireturn, 1) := by decide +kernel
theorem dX10_ask_106 : decode cX10_ask 106 = .ok (.aload_n 0, 1) := by decide +kernel
theorem dX10_ask_107 : decode cX10_ask 107 = .ok (.bipush (-6), 2) := by decide +kernel
theorem dX10_ask_109 : decode cX10_ask 109 = .ok (.invokevirtual 93, 3) := by decide +kernel
theorem dX10_ask_112 : decode cX10_ask 112 = .ok (.ireturn, 1) := by decide +kernel
theorem dX10_shut_0 : decode cX10_shut 0 = .ok (.aload_n 0, 1) := by decide +kernel
theorem dX10_shut_1 : decode cX10_shut 1 = .ok (.getfield 10, 3) := by decide +kernel
theorem dX10_shut_4 : decode cX10_shut 4 = .ok (.iload_n 1, 1) := by decide +kernel
theorem dX10_shut_5 : decode cX10_shut 5 = .ok (.invokevirtual 129, 3) := by decide +kernel
theorem dX10_shut_8 : decode cX10_shut 8 = .ok (.astore_n 3, 1) := by decide +kernel
theorem dX10_shut_9 : decode cX10_shut 9 = .ok (.aload_n 3, 1) := by decide +kernel
theorem dX10_shut_10 : decode cX10_shut 10 = .ok (.ifnonnull 9, 3) := by decide +kernel
theorem dX10_shut_13 : decode cX10_shut 13 = .ok (.aload_n 0, 1) := by decide +kernel
theorem dX10_shut_14 : decode cX10_shut 14 = .ok (.iconst (-1), 1) := by decide +kernel
theorem dX10_shut_15 : decode cX10_shut 15 = .ok (.invokevirtual 93, 3) := by decide +kernel
theorem dX10_shut_18 : decode cX10_shut 18 = .ok (.ireturn, 1) := by decide +kernel
theorem dX10_shut_19 : decode cX10_shut 19 = .ok (.aload_n 3, 1) := by decide +kernel
theorem dX10_shut_20 : decode cX10_shut 20 = .ok (.getfield 161, 3) := by decide +kernel
theorem dX10_shut_23 : decode cX10_shut 23 = .ok (.ifCond .eq 7, 3) := by decide +kernel
theorem dX10_shut_26 : decode cX10_shut 26 = .ok (.iconst 1, 1) := by decide +kernel
theorem dX10_shut_27 : decode cX10_shut 27 = .ok (.goto 4, 3) := by decide +kernel
theorem dX10_shut_30 : decode cX10_shut 30 = .ok (.iconst 0, 1) := by decide +kernel
theorem dX10_shut_31 : decode cX10_shut 31 = .ok (.istore 4, 2) := by decide +kernel
theorem dX10_shut_33 : decode cX10_shut 33 = .ok (.aload_n 3, 1) := by decide +kernel
theorem dX10_shut_34 : decode cX10_shut 34 = .ok (.iload_n 2, 1) := by decide +kernel
theorem dX10_shut_35 : decode cX10_shut 35 = .ok (.putfield 161, 3) := by decide +kernel
theorem dX10_shut_38 : decode cX10_shut 38 = .ok (.iload 4, 2) := by decide +kernel
theorem dX10_shut_40 : decode cX10_shut 40 = .ok (.ireturn, 1) := by decide +kernel
theorem dX10_move_0 : decode cX10_move 0 = .ok (.aload_n 0, 1) := by decide +kernel
theorem dX10_move_1 : decode cX10_move 1 = .ok (.getfield 10, 3) := by decide +kernel
theorem dX10_move_4 : decode cX10_move 4 = .ok (.iload_n 1, 1) := by decide +kernel
theorem dX10_move_5 : decode cX10_move 5 = .ok (.invokevirtual 129, 3) := by decide +kernel
theorem dX10_move_8 : decode cX10_move 8 = .ok (.astore_n 3, 1) := by decide +kernel
theorem dX10_move_9 : decode cX10_move 9 = .ok (.aload_n 3, 1) := by decide +kernel
theorem dX10_move_10 : decode cX10_move 10 = .ok (.ifnonnull 9, 3) := by decide +kernel
theorem dX10_move_13 : decode cX10_move 13 = .ok (.aload_n 0, 1) := by decide +kernel
theorem dX10_move_14 : decode cX10_move 14 = .ok (.iconst (-1), 1) := by decide +kernel
theorem dX10_move_15 : decode cX10_move 15 = .ok (.invokevirtual 93, 3) := by decide +kernel
theorem dX10_move_18 : decode cX10_move 18 = .ok (.ireturn, 1) := by decide +kernel
theorem dX10_move_19 : decode cX10_move 19 = .ok (.aload_n 0, 1) := by decide +kernel
theorem dX10_move_20 : decode cX10_move 20 = .ok (.getfield 10, 3) := by decide +kernel
theorem dX10_move_23 : decode cX10_move 23 = .ok (.iload_n 2, 1) := by decide +kernel
theorem dX10_move_24 : decode cX10_move 24 = .ok (.invokevirtual 178, 3) := by decide +kernel
theorem dX10_move_27 : decode cX10_move 27 = .ok (.ifCond .ne 10, 3) := by decide +kernel
theorem dX10_move_30 : decode cX10_move 30 = .ok (.aload_n 0, 1) := by decide +kernel
theorem dX10_move_31 : decode cX10_move 31 = .ok (.bipush (-6), 2) := by decide +kernel
theorem dX10_move_33 : decode cX10_move 33 = .ok (.invokevirtual 93, 3) := by decide +kernel
theorem dX10_move_36 : decode cX10_move 36 = .ok (.ireturn, 1) := by decide +kernel
theorem dX10_move_37 : decode cX10_move 37 = .ok (.aload_n 3, 1) := by decide +kernel
theorem dX10_move_38 : decode cX10_move 38 = .ok (.getfield 158, 3) := by decide +kernel
theorem dX10_move_41 : decode cX10_move 41 = .ok (.istore 4, 2) := by decide +kernel
theorem dX10_move_43 : decode cX10_move 43 = .ok (.aload_n 3, 1) := by decide +kernel
theorem dX10_move_44 : decode cX10_move 44 = .ok (.iload_n 2, 1) := by decide +kernel
theorem dX10_move_45 : decode cX10_move 45 = .ok (.putfield 158, 3) := by decide +kernel
theorem dX10_move_48 : decode cX10_move 48 = .ok (.iload 4, 2) := by decide +kernel
theorem dX10_move_50 : decode cX10_move 50 = .ok (.ireturn, 1) := by decide +kernel
theorem dX10_thingOf_0 : decode cX10_thingOf 0 = .ok (.aload_n 0, 1) := by decide +kernel
theorem dX10_thingOf_1 : decode cX10_thingOf 1 = .ok (.getfield 10, 3) := by decide +kernel
theorem dX10_thingOf_4 : decode cX10_thingOf 4 = .ok (.iload_n 1, 1) := by decide +kernel
theorem dX10_thingOf_5 : decode cX10_thingOf 5 = .ok (.invokevirtual 129, 3) := by decide +kernel
theorem dX10_thingOf_8 : decode cX10_thingOf 8 = .ok (.astore_n 3, 1) := by decide +kernel
theorem dX10_thingOf_9 : decode cX10_thingOf 9 = .ok (.aload_n 3, 1) := by decide +kernel
theorem dX10_thingOf_10 : decode cX10_thingOf 10 = .ok (.ifnonnull 10, 3) := by decide +kernel
theorem dX10_thingOf_13 : decode cX10_thingOf 13 = .ok (.aload_n 0, 1) := by decide +kernel
theorem dX10_thingOf_14 : decode cX10_thingOf 14 = .ok (.bipush (-5), 2) := by decide +kernel
theorem dX10_thingOf_16 : decode cX10_thingOf 16 = .ok (.invokevirtual 93, 3) := by decide +kernel
theorem dX10_thingOf_19 : decode cX10_thingOf 19 = .ok (.ireturn, 1) := by decide +kernel
theorem dX10_thingOf_20 : decode cX10_thingOf 20 = .ok (.iload_n 2, 1) := by decide +kernel
theorem dX10_thingOf_21 : decode cX10_thingOf 21 = .ok (.tableswitch 68 0 4 #[35, 40, 45, 50, 63], 35) := by decide +kernel
theorem dX10_thingOf_56 : decode cX10_thingOf 56 = .ok (.aload_n 3, 1) := by decide +kernel
theorem dX10_thingOf_57 : decode cX10_thingOf 57 = .ok (.getfield 212, 3) := by decide +kernel
theorem dX10_thingOf_60 : decode cX10_thingOf 60 = .ok (.ireturn, 1) := by decide +kernel
theorem dX10_thingOf_61 : decode cX10_thingOf 61 = .ok (.aload_n 3, 1) := by decide +kernel
theorem dX10_thingOf_62 : decode cX10_thingOf 62 = .ok (.getfield 215, 3) := by decide +kernel
theorem dX10_thingOf_65 : decode cX10_thingOf 65 = .ok (.ireturn, 1) := by decide +kernel
theorem dX10_thingOf_66 : decode cX10_thingOf 66 = .ok (.aload_n 3, 1) := by decide +kernel
theorem dX10_thingOf_67 : decode cX10_thingOf 67 = .ok (.getfield 158, 3) := by decide +kernel
theorem dX10_thingOf_70 : decode cX10_thingOf 70 = .ok (.ireturn, 1) := by decide +kernel
theorem dX10_thingOf_71 : decode cX10_thingOf 71 = .ok (.aload_n 3, 1) := by decide +kernel
theorem dX10_thingOf_72 : decode cX10_thingOf 72 = .ok (.getfield 161, 3) := by decide +kernel
theorem dX10_thingOf_75 : decode cX10_thingOf 75 = .ok (.ifCond .eq 7, 3) := by decide +kernel
theorem dX10_thingOf_78 : decode cX10_thingOf 78 = .ok (.iconst 1, 1) := by decide +kernel
theorem dX10_thingOf_79 : decode cX10_thingOf 79 = .ok (.goto 4, 3) := by decide +kernel
theorem dX10_thingOf_82 : decode cX10_thingOf 82 = .ok (.iconst 0, 1) := by decide +kernel
theorem dX10_thingOf_83 : decode cX10_thingOf 83 = .ok (.ireturn, 1) := by decide +kernel
theorem dX10_thingOf_84 : decode cX10_thingOf 84 = .ok (.aload_n 3, 1) := by decide +kernel
theorem dX10_thingOf_85 : decode cX10_thingOf 85 = .ok (.invokevirtual 171, 3) := by decide +kernel
theorem dX10_thingOf_88 : decode cX10_thingOf 88 = .ok (.ireturn, 1) := by decide +kernel
theorem dX10_thingOf_89 : decode cX10_thingOf 89 = .ok (.aload_n 0, 1) := by decide +kernel
theorem dX10_thingOf_90 : decode cX10_thingOf 90 = .ok (.bipush (-5), 2) := by decide +kernel
theorem dX10_thingOf_92 : decode cX10_thingOf 92 = .ok (.invokevirtual 93, 3) := by decide +kernel
theorem dX10_thingOf_95 : decode cX10_thingOf 95 = .ok (.ireturn, 1) := by decide +kernel
theorem dX10_deviceOf_0 : decode cX10_deviceOf 0 = .ok (.aload_n 0, 1) := by decide +kernel
theorem dX10_deviceOf_1 : decode cX10_deviceOf 1 = .ok (.getfield 10, 3) := by decide +kernel
theorem dX10_deviceOf_4 : decode cX10_deviceOf 4 = .ok (.iload_n 1, 1) := by decide +kernel
theorem dX10_deviceOf_5 : decode cX10_deviceOf 5 = .ok (.invokevirtual 218, 3) := by decide +kernel
theorem dX10_deviceOf_8 : decode cX10_deviceOf 8 = .ok (.astore_n 3, 1) := by decide +kernel
theorem dX10_deviceOf_9 : decode cX10_deviceOf 9 = .ok (.aload_n 3, 1) := by decide +kernel
theorem dX10_deviceOf_10 : decode cX10_deviceOf 10 = .ok (.ifnonnull 10, 3) := by decide +kernel
theorem dX10_deviceOf_13 : decode cX10_deviceOf 13 = .ok (.aload_n 0, 1) := by decide +kernel
theorem dX10_deviceOf_14 : decode cX10_deviceOf 14 = .ok (.bipush (-5), 2) := by decide +kernel
theorem dX10_deviceOf_16 : decode cX10_deviceOf 16 = .ok (.invokevirtual 93, 3) := by decide +kernel
theorem dX10_deviceOf_19 : decode cX10_deviceOf 19 = .ok (.ireturn, 1) := by decide +kernel
theorem dX10_deviceOf_20 : decode cX10_deviceOf 20 = .ok (.aload_n 0, 1) := by decide +kernel
theorem dX10_deviceOf_21 : decode cX10_deviceOf 21 = .ok (.getfield 27, 3) := by decide +kernel
theorem dX10_deviceOf_24 : decode cX10_deviceOf 24 = .ok (.invokevirtual 222, 3) := by decide +kernel
theorem dX10_deviceOf_27 : decode cX10_deviceOf 27 = .ok (.iload_n 2, 1) := by decide +kernel
theorem dX10_deviceOf_28 : decode cX10_deviceOf 28 = .ok (.tableswitch 104 0 5 #[40, 45, 50, 55, 60, 76], 40) := by decide +kernel
theorem dX10_deviceOf_68 : decode cX10_deviceOf 68 = .ok (.aload_n 3, 1) := by decide +kernel
theorem dX10_deviceOf_69 : decode cX10_deviceOf 69 = .ok (.getfield 225, 3) := by decide +kernel
theorem dX10_deviceOf_72 : decode cX10_deviceOf 72 = .ok (.ireturn, 1) := by decide +kernel
theorem dX10_deviceOf_73 : decode cX10_deviceOf 73 = .ok (.aload_n 3, 1) := by decide +kernel
theorem dX10_deviceOf_74 : decode cX10_deviceOf 74 = .ok (.getfield 228, 3) := by decide +kernel
theorem dX10_deviceOf_77 : decode cX10_deviceOf 77 = .ok (.ireturn, 1) := by decide +kernel
theorem dX10_deviceOf_78 : decode cX10_deviceOf 78 = .ok (.aload_n 3, 1) := by decide +kernel
theorem dX10_deviceOf_79 : decode cX10_deviceOf 79 = .ok (.getfield 231, 3) := by decide +kernel
theorem dX10_deviceOf_82 : decode cX10_deviceOf 82 = .ok (.ireturn, 1) := by decide +kernel
theorem dX10_deviceOf_83 : decode cX10_deviceOf 83 = .ok (.aload_n 3, 1) := by decide +kernel
theorem dX10_deviceOf_84 : decode cX10_deviceOf 84 = .ok (.getfield 234, 3) := by decide +kernel
theorem dX10_deviceOf_87 : decode cX10_deviceOf 87 = .ok (.ireturn, 1) := by decide +kernel
theorem dX10_deviceOf_88 : decode cX10_deviceOf 88 = .ok (.aload_n 0, 1) := by decide +kernel
theorem dX10_deviceOf_89 : decode cX10_deviceOf 89 = .ok (.getfield 27, 3) := by decide +kernel
theorem dX10_deviceOf_92 : decode cX10_deviceOf 92 = .ok (.aload_n 3, 1) := by decide +kernel
theorem dX10_deviceOf_93 : decode cX10_deviceOf 93 = .ok (.getfield 234, 3) := by decide +kernel
theorem dX10_deviceOf_96 : decode cX10_deviceOf 96 = .ok (.aload_n 3, 1) := by decide +kernel
theorem dX10_deviceOf_97 : decode cX10_deviceOf 97 = .ok (.getfield 225, 3) := by decide +kernel
theorem dX10_deviceOf_100 : decode cX10_deviceOf 100 = .ok (.invokevirtual 237, 3) := by decide +kernel
theorem dX10_deviceOf_103 : decode cX10_deviceOf 103 = .ok (.ireturn, 1) := by decide +kernel
theorem dX10_deviceOf_104 : decode cX10_deviceOf 104 = .ok (.aload_n 0, 1) := by decide +kernel
theorem dX10_deviceOf_105 : decode cX10_deviceOf 105 = .ok (.getfield 27, 3) := by decide +kernel
theorem dX10_deviceOf_108 : decode cX10_deviceOf 108 = .ok (.iconst 0, 1) := by decide +kernel
theorem dX10_deviceOf_109 : decode cX10_deviceOf 109 = .ok (.aload_n 3, 1) := by decide +kernel
theorem dX10_deviceOf_110 : decode cX10_deviceOf 110 = .ok (.getfield 225, 3) := by decide +kernel
theorem dX10_deviceOf_113 : decode cX10_deviceOf 113 = .ok (.invokevirtual 237, 3) := by decide +kernel
theorem dX10_deviceOf_116 : decode cX10_deviceOf 116 = .ok (.aload_n 0, 1) := by decide +kernel
theorem dX10_deviceOf_117 : decode cX10_deviceOf 117 = .ok (.getfield 27, 3) := by decide +kernel
theorem dX10_deviceOf_120 : decode cX10_deviceOf 120 = .ok (.iconst 1, 1) := by decide +kernel
theorem dX10_deviceOf_121 : decode cX10_deviceOf 121 = .ok (.aload_n 3, 1) := by decide +kernel
theorem dX10_deviceOf_122 : decode cX10_deviceOf 122 = .ok (.getfield 225, 3) := by decide +kernel
theorem dX10_deviceOf_125 : decode cX10_deviceOf 125 = .ok (.invokevirtual 237, 3) := by decide +kernel
theorem dX10_deviceOf_128 : decode cX10_deviceOf 128 = .ok (.invokestatic 240, 3) := by decide +kernel
theorem dX10_deviceOf_131 : decode cX10_deviceOf 131 = .ok (.ireturn, 1) := by decide +kernel
theorem dX10_deviceOf_132 : decode cX10_deviceOf 132 = .ok (.aload_n 0, 1) := by decide +kernel
theorem dX10_deviceOf_133 : decode cX10_deviceOf 133 = .ok (.bipush (-5), 2) := by decide +kernel
theorem dX10_deviceOf_135 : decode cX10_deviceOf 135 = .ok (.invokevirtual 93, 3) := by decide +kernel
theorem dX10_deviceOf_138 : decode cX10_deviceOf 138 = .ok (.ireturn, 1) := by decide +kernel
theorem dX10_house_0 : decode cX10_house 0 = .ok (.aload_n 0, 1) := by decide +kernel
theorem dX10_house_1 : decode cX10_house 1 = .ok (.iload_n 1, 1) := by decide +kernel
theorem dX10_house_2 : decode cX10_house 2 = .ok (.invokevirtual 89, 3) := by decide +kernel
theorem dX10_house_5 : decode cX10_house 5 = .ok (.astore_n 2, 1) := by decide +kernel
theorem dX10_house_6 : decode cX10_house 6 = .ok (.aload_n 2, 1) := by decide +kernel
theorem dX10_house_7 : decode cX10_house 7 = .ok (.invokestatic 101, 3) := by decide +kernel
theorem dX10_house_10 : decode cX10_house 10 = .ok (.istore_n 3, 1) := by decide +kernel
theorem dX10_house_11 : decode cX10_house 11 = .ok (.iload_n 3, 1) := by decide +kernel
theorem dX10_house_12 : decode cX10_house 12 = .ok (.ifCond .ne 7, 3) := by decide +kernel
theorem dX10_house_15 : decode cX10_house 15 = .ok (.aload_n 2, 1) := by decide +kernel
theorem dX10_house_16 : decode cX10_house 16 = .ok (.ifnonnull 9, 3) := by decide +kernel
theorem dX10_house_19 : decode cX10_house 19 = .ok (.aload_n 0, 1) := by decide +kernel
theorem dX10_house_20 : decode cX10_house 20 = .ok (.iload_n 3, 1) := by decide +kernel
theorem dX10_house_21 : decode cX10_house 21 = .ok (.invokevirtual 93, 3) := by decide +kernel
theorem dX10_house_24 : decode cX10_house 24 = .ok (.ireturn, 1) := by decide +kernel
theorem dX10_house_25 : decode cX10_house 25 = .ok (.aload_n 0, 1) := by decide +kernel
theorem dX10_house_26 : decode cX10_house 26 = .ok (.getfield 19, 3) := by decide +kernel
theorem dX10_house_29 : decode cX10_house 29 = .ok (.aload_n 0, 1) := by decide +kernel
theorem dX10_house_30 : decode cX10_house 30 = .ok (.getfield 10, 3) := by decide +kernel
theorem dX10_house_33 : decode cX10_house 33 = .ok (.invokevirtual 245, 3) := by decide +kernel
theorem dX10_house_36 : decode cX10_house 36 = .ok (.aload_n 0, 1) := by decide +kernel
theorem dX10_house_37 : decode cX10_house 37 = .ok (.getfield 59, 3) := by decide +kernel
theorem dX10_house_40 : decode cX10_house 40 = .ok (.aload_n 2, 1) := by decide +kernel
theorem dX10_house_41 : decode cX10_house 41 = .ok (.invokevirtual 248, 3) := by decide +kernel
theorem dX10_house_44 : decode cX10_house 44 = .ok (.istore 4, 2) := by decide +kernel
theorem dX10_house_46 : decode cX10_house 46 = .ok (.aload_n 0, 1) := by decide +kernel
theorem dX10_house_47 : decode cX10_house 47 = .ok (.aload_n 0, 1) := by decide +kernel
theorem dX10_house_48 : decode cX10_house 48 = .ok (.getfield 59, 3) := by decide +kernel
theorem dX10_house_51 : decode cX10_house 51 = .ok (.getfield 251, 3) := by decide +kernel
theorem dX10_house_54 : decode cX10_house 54 = .ok (.putfield 84, 3) := by decide +kernel
theorem dX10_house_57 : decode cX10_house 57 = .ok (.iload 4, 2) := by decide +kernel
theorem dX10_house_59 : decode cX10_house 59 = .ok (.iconst (-1), 1) := by decide +kernel
theorem dX10_house_60 : decode cX10_house 60 = .ok (.if_icmp .ne 10, 3) := by decide +kernel
theorem dX10_house_63 : decode cX10_house 63 = .ok (.aload_n 0, 1) := by decide +kernel
theorem dX10_house_64 : decode cX10_house 64 = .ok (.bipush (-6), 2) := by decide +kernel
theorem dX10_house_66 : decode cX10_house 66 = .ok (.invokevirtual 93, 3) := by decide +kernel
theorem dX10_house_69 : decode cX10_house 69 = .ok (.ireturn, 1) := by decide +kernel
theorem dX10_house_70 : decode cX10_house 70 = .ok (.aload_n 0, 1) := by decide +kernel
theorem dX10_house_71 : decode cX10_house 71 = .ok (.getfield 10, 3) := by decide +kernel
theorem dX10_house_74 : decode cX10_house 74 = .ok (.aload_n 0, 1) := by decide +kernel
theorem dX10_house_75 : decode cX10_house 75 = .ok (.getfield 19, 3) := by decide +kernel
theorem dX10_house_78 : decode cX10_house 78 = .ok (.invokevirtual 245, 3) := by decide +kernel
theorem dX10_house_81 : decode cX10_house 81 = .ok (.iload 4, 2) := by decide +kernel
theorem dX10_house_83 : decode cX10_house 83 = .ok (.ireturn, 1) := by decide +kernel
theorem dX10_fault_0 : decode cX10_fault 0 = .ok (.aload_n 0, 1) := by decide +kernel
theorem dX10_fault_1 : decode cX10_fault 1 = .ok (.getfield 84, 3) := by decide +kernel
theorem dX10_fault_4 : decode cX10_fault 4 = .ok (.ireturn, 1) := by decide +kernel
theorem dX10_bars_0 : decode cX10_bars 0 = .ok (.iload_n 3, 1) := by decide +kernel
theorem dX10_bars_1 : decode cX10_bars 1 = .ok (.ifCond .lt 8, 3) := by decide +kernel
theorem dX10_bars_4 : decode cX10_bars 4 = .ok (.iload_n 3, 1) := by decide +kernel
theorem dX10_bars_5 : decode cX10_bars 5 = .ok (.iconst 2, 1) := by decide +kernel
theorem dX10_bars_6 : decode cX10_bars 6 = .ok (.if_icmp .le 10, 3) := by decide +kernel
theorem dX10_bars_9 : decode cX10_bars 9 = .ok (.aload_n 0, 1) := by decide +kernel
theorem dX10_bars_10 : decode cX10_bars 10 = .ok (.bipush (-5), 2) := by decide +kernel
theorem dX10_bars_12 : decode cX10_bars 12 = .ok (.invokevirtual 93, 3) := by decide +kernel
theorem dX10_bars_15 : decode cX10_bars 15 = .ok (.ireturn, 1) := by decide +kernel
theorem dX10_bars_16 : decode cX10_bars 16 = .ok (.aload_n 0, 1) := by decide +kernel
theorem dX10_bars_17 : decode cX10_bars 17 = .ok (.getfield 10, 3) := by decide +kernel
theorem dX10_bars_20 : decode cX10_bars 20 = .ok (.iconst 4, 1) := by decide +kernel
theorem dX10_bars_21 : decode cX10_bars 21 = .ok (.iload_n 1, 1) := by decide +kernel
theorem dX10_bars_22 : decode cX10_bars 22 = .ok (.invokevirtual 150, 3) := by decide +kernel
theorem dX10_bars_25 : decode cX10_bars 25 = .ok (.ifCond .eq 14, 3) := by decide +kernel
theorem dX10_bars_28 : decode cX10_bars 28 = .ok (.aload_n 0, 1) := by decide +kernel
theorem dX10_bars_29 : decode cX10_bars 29 = .ok (.getfield 10, 3) := by decide +kernel
theorem dX10_bars_32 : decode cX10_bars 32 = .ok (.iload_n 2, 1) := by decide +kernel
theorem dX10_bars_33 : decode cX10_bars 33 = .ok (.invokevirtual 178, 3) := by decide +kernel
theorem dX10_bars_36 : decode cX10_bars 36 = .ok (.ifCond .ne 10, 3) := by decide +kernel
theorem dX10_bars_39 : decode cX10_bars 39 = .ok (.aload_n 0, 1) := by decide +kernel
theorem dX10_bars_40 : decode cX10_bars 40 = .ok (.bipush (-6), 2) := by decide +kernel
theorem dX10_bars_42 : decode cX10_bars 42 = .ok (.invokevirtual 93, 3) := by decide +kernel
theorem dX10_bars_45 : decode cX10_bars 45 = .ok (.ireturn, 1) := by decide +kernel
theorem dX10_bars_46 : decode cX10_bars 46 = .ok (.aload_n 0, 1) := by decide +kernel
theorem dX10_bars_47 : decode cX10_bars 47 = .ok (.getfield 27, 3) := by decide +kernel
theorem dX10_bars_50 : decode cX10_bars 50 = .ok (.invokevirtual 222, 3) := by decide +kernel
theorem dX10_bars_53 : decode cX10_bars 53 = .ok (.iload_n 3, 1) := by decide +kernel
theorem dX10_bars_54 : decode cX10_bars 54 = .ok (.ifCond .ne 20, 3) := by decide +kernel
theorem dX10_bars_57 : decode cX10_bars 57 = .ok (.aload_n 0, 1) := by decide +kernel
theorem dX10_bars_58 : decode cX10_bars 58 = .ok (.getfield 27, 3) := by decide +kernel
theorem dX10_bars_61 : decode cX10_bars 61 = .ok (.aload_n 0, 1) := by decide +kernel
theorem dX10_bars_62 : decode cX10_bars 62 = .ok (.getfield 10, 3) := by decide +kernel
theorem dX10_bars_65 : decode cX10_bars 65 = .ok (.iload_n 1, 1) := by decide +kernel
theorem dX10_bars_66 : decode cX10_bars 66 = .ok (.invokevirtual 200, 3) := by decide +kernel
theorem dX10_bars_69 : decode cX10_bars 69 = .ok (.iload_n 2, 1) := by decide +kernel
theorem dX10_bars_70 : decode cX10_bars 70 = .ok (.invokevirtual 252, 3) := by decide +kernel
theorem dX10_bars_73 : decode cX10_bars 73 = .ok (.ireturn, 1) := by decide +kernel
theorem dX10_bars_74 : decode cX10_bars 74 = .ok (.iload_n 3, 1) := by decide +kernel
theorem dX10_bars_75 : decode cX10_bars 75 = .ok (.iconst 1, 1) := by decide +kernel
theorem dX10_bars_76 : decode cX10_bars 76 = .ok (.if_icmp .ne 15, 3) := by decide +kernel
theorem dX10_bars_79 : decode cX10_bars 79 = .ok (.aload_n 0, 1) := by decide +kernel
theorem dX10_bars_80 : decode cX10_bars 80 = .ok (.getfield 27, 3) := by decide +kernel
theorem dX10_bars_83 : decode cX10_bars 83 = .ok (.iload_n 1, 1) := by decide +kernel
theorem dX10_bars_84 : decode cX10_bars 84 = .ok (.iload_n 2, 1) := by decide +kernel
theorem dX10_bars_85 : decode cX10_bars 85 = .ok (.invokevirtual 255, 3) := by decide +kernel
theorem dX10_bars_88 : decode cX10_bars 88 = .ok (.goto 12, 3) := by decide +kernel
theorem dX10_bars_91 : decode cX10_bars 91 = .ok (.aload_n 0, 1) := by decide +kernel
theorem dX10_bars_92 : decode cX10_bars 92 = .ok (.getfield 27, 3) := by decide +kernel
theorem dX10_bars_95 : decode cX10_bars 95 = .ok (.iload_n 1, 1) := by decide +kernel
theorem dX10_bars_96 : decode cX10_bars 96 = .ok (.iload_n 2, 1) := by decide +kernel
theorem dX10_bars_97 : decode cX10_bars 97 = .ok (.invokevirtual 237, 3) := by decide +kernel
theorem dX10_bars_100 : decode cX10_bars 100 = .ok (.ireturn, 1) := by decide +kernel
theorem dX10_way_0 : decode cX10_way 0 = .ok (.iload_n 3, 1) := by decide +kernel
theorem dX10_way_1 : decode cX10_way 1 = .ok (.ifCond .lt 8, 3) := by decide +kernel
theorem dX10_way_4 : decode cX10_way 4 = .ok (.iload_n 3, 1) := by decide +kernel
theorem dX10_way_5 : decode cX10_way 5 = .ok (.iconst 1, 1) := by decide +kernel
theorem dX10_way_6 : decode cX10_way 6 = .ok (.if_icmp .le 10, 3) := by decide +kernel
theorem dX10_way_9 : decode cX10_way 9 = .ok (.aload_n 0, 1) := by decide +kernel
theorem dX10_way_10 : decode cX10_way 10 = .ok (.bipush (-5), 2) := by decide +kernel
theorem dX10_way_12 : decode cX10_way 12 = .ok (.invokevirtual 93, 3) := by decide +kernel
theorem dX10_way_15 : decode cX10_way 15 = .ok (.ireturn, 1) := by decide +kernel
theorem dX10_way_16 : decode cX10_way 16 = .ok (.aload_n 0, 1) := by decide +kernel
theorem dX10_way_17 : decode cX10_way 17 = .ok (.getfield 10, 3) := by decide +kernel
theorem dX10_way_20 : decode cX10_way 20 = .ok (.iload_n 1, 1) := by decide +kernel
theorem dX10_way_21 : decode cX10_way 21 = .ok (.invokevirtual 178, 3) := by decide +kernel
theorem dX10_way_24 : decode cX10_way 24 = .ok (.ifCond .eq 14, 3) := by decide +kernel
theorem dX10_way_27 : decode cX10_way 27 = .ok (.aload_n 0, 1) := by decide +kernel
theorem dX10_way_28 : decode cX10_way 28 = .ok (.getfield 10, 3) := by decide +kernel
theorem dX10_way_31 : decode cX10_way 31 = .ok (.iload_n 2, 1) := by decide +kernel
theorem dX10_way_32 : decode cX10_way 32 = .ok (.invokevirtual 178, 3) := by decide +kernel
theorem dX10_way_35 : decode cX10_way 35 = .ok (.ifCond .ne 10, 3) := by decide +kernel
theorem dX10_way_38 : decode cX10_way 38 = .ok (.aload_n 0, 1) := by decide +kernel
theorem dX10_way_39 : decode cX10_way 39 = .ok (.bipush (-6), 2) := by decide +kernel
theorem dX10_way_41 : decode cX10_way 41 = .ok (.invokevirtual 93, 3) := by decide +kernel
theorem dX10_way_44 : decode cX10_way 44 = .ok (.ireturn, 1) := by decide +kernel
theorem dX10_way_45 : decode cX10_way 45 = .ok (.iload_n 3, 1) := by decide +kernel
theorem dX10_way_46 : decode cX10_way 46 = .ok (.ifCond .ne 9, 3) := by decide +kernel
theorem dX10_way_49 : decode cX10_way 49 = .ok (.iload_n 1, 1) := by decide +kernel
theorem dX10_way_50 : decode cX10_way 50 = .ok (.iload_n 2, 1) := by decide +kernel
theorem dX10_way_51 : decode cX10_way 51 = .ok (.invokestatic 258, 3) := by decide +kernel
theorem dX10_way_54 : decode cX10_way 54 = .ok (.ireturn, 1) := by decide +kernel
theorem dX10_way_55 : decode cX10_way 55 = .ok (.aload_n 0, 1) := by decide +kernel
theorem dX10_way_56 : decode cX10_way 56 = .ok (.getfield 27, 3) := by decide +kernel
theorem dX10_way_59 : decode cX10_way 59 = .ok (.invokevirtual 222, 3) := by decide +kernel
theorem dX10_way_62 : decode cX10_way 62 = .ok (.aload_n 0, 1) := by decide +kernel
theorem dX10_way_63 : decode cX10_way 63 = .ok (.getfield 27, 3) := by decide +kernel
theorem dX10_way_66 : decode cX10_way 66 = .ok (.iload_n 1, 1) := by decide +kernel
theorem dX10_way_67 : decode cX10_way 67 = .ok (.iload_n 2, 1) := by decide +kernel
theorem dX10_way_68 : decode cX10_way 68 = .ok (.invokevirtual 261, 3) := by decide +kernel
theorem dX10_way_71 : decode cX10_way 71 = .ok (.ireturn, 1) := by decide +kernel
theorem dX10_hum_0 : decode cX10_hum 0 = .ok (.iload_n 2, 1) := by decide +kernel
theorem dX10_hum_1 : decode cX10_hum 1 = .ok (.ifCond .lt 8, 3) := by decide +kernel
theorem dX10_hum_4 : decode cX10_hum 4 = .ok (.iload_n 2, 1) := by decide +kernel
theorem dX10_hum_5 : decode cX10_hum 5 = .ok (.iconst 1, 1) := by decide +kernel
theorem dX10_hum_6 : decode cX10_hum 6 = .ok (.if_icmp .le 10, 3) := by decide +kernel
theorem dX10_hum_9 : decode cX10_hum 9 = .ok (.aload_n 0, 1) := by decide +kernel
theorem dX10_hum_10 : decode cX10_hum 10 = .ok (.bipush (-5), 2) := by decide +kernel
theorem dX10_hum_12 : decode cX10_hum 12 = .ok (.invokevirtual 93, 3) := by decide +kernel
theorem dX10_hum_15 : decode cX10_hum 15 = .ok (.ireturn, 1) := by decide +kernel
theorem dX10_hum_16 : decode cX10_hum 16 = .ok (.aload_n 0, 1) := by decide +kernel
theorem dX10_hum_17 : decode cX10_hum 17 = .ok (.getfield 10, 3) := by decide +kernel
theorem dX10_hum_20 : decode cX10_hum 20 = .ok (.iload_n 1, 1) := by decide +kernel
theorem dX10_hum_21 : decode cX10_hum 21 = .ok (.invokevirtual 178, 3) := by decide +kernel
theorem dX10_hum_24 : decode cX10_hum 24 = .ok (.ifCond .ne 10, 3) := by decide +kernel
theorem dX10_hum_27 : decode cX10_hum 27 = .ok (.aload_n 0, 1) := by decide +kernel
theorem dX10_hum_28 : decode cX10_hum 28 = .ok (.bipush (-6), 2) := by decide +kernel
theorem dX10_hum_30 : decode cX10_hum 30 = .ok (.invokevirtual 93, 3) := by decide +kernel
theorem dX10_hum_33 : decode cX10_hum 33 = .ok (.ireturn, 1) := by decide +kernel
theorem dX10_hum_34 : decode cX10_hum 34 = .ok (.iload_n 2, 1) := by decide +kernel
theorem dX10_hum_35 : decode cX10_hum 35 = .ok (.iconst 1, 1) := by decide +kernel
theorem dX10_hum_36 : decode cX10_hum 36 = .ok (.if_icmp .ne 18, 3) := by decide +kernel
theorem dX10_hum_39 : decode cX10_hum 39 = .ok (.aload_n 0, 1) := by decide +kernel
theorem dX10_hum_40 : decode cX10_hum 40 = .ok (.getfield 10, 3) := by decide +kernel
theorem dX10_hum_43 : decode cX10_hum 43 = .ok (.aload_n 0, 1) := by decide +kernel
theorem dX10_hum_44 : decode cX10_hum 44 = .ok (.getfield 10, 3) := by decide +kernel
theorem dX10_hum_47 : decode cX10_hum 47 = .ok (.getfield 209, 3) := by decide +kernel
theorem dX10_hum_50 : decode cX10_hum 50 = .ok (.invokevirtual 264, 3) := by decide +kernel
theorem dX10_hum_53 : decode cX10_hum 53 = .ok (.ireturn, 1) := by decide +kernel
theorem dX10_hum_54 : decode cX10_hum 54 = .ok (.aload_n 0, 1) := by decide +kernel
theorem dX10_hum_55 : decode cX10_hum 55 = .ok (.getfield 27, 3) := by decide +kernel
theorem dX10_hum_58 : decode cX10_hum 58 = .ok (.invokevirtual 222, 3) := by decide +kernel
theorem dX10_hum_61 : decode cX10_hum 61 = .ok (.aload_n 0, 1) := by decide +kernel
theorem dX10_hum_62 : decode cX10_hum 62 = .ok (.getfield 27, 3) := by decide +kernel
theorem dX10_hum_65 : decode cX10_hum 65 = .ok (.iload_n 1, 1) := by decide +kernel
theorem dX10_hum_66 : decode cX10_hum 66 = .ok (.invokevirtual 267, 3) := by decide +kernel
theorem dX10_hum_69 : decode cX10_hum 69 = .ok (.ireturn, 1) := by decide +kernel
theorem dX10_filled_0 : decode cX10_filled 0 = .ok (.iload_n 1, 1) := by decide +kernel
theorem dX10_filled_1 : decode cX10_filled 1 = .ok (.ifCond .lt 8, 3) := by decide +kernel
theorem dX10_filled_4 : decode cX10_filled 4 = .ok (.iload_n 1, 1) := by decide +kernel
theorem dX10_filled_5 : decode cX10_filled 5 = .ok (.iconst 1, 1) := by decide +kernel
theorem dX10_filled_6 : decode cX10_filled 6 = .ok (.if_icmp .le 10, 3) := by decide +kernel
theorem dX10_filled_9 : decode cX10_filled 9 = .ok (.aload_n 0, 1) := by decide +kernel
theorem dX10_filled_10 : decode cX10_filled 10 = .ok (.bipush (-5), 2) := by decide +kernel
theorem dX10_filled_12 : decode cX10_filled 12 = .ok (.invokevirtual 93, 3) := by decide +kernel
theorem dX10_filled_15 : decode cX10_filled 15 = .ok (.ireturn, 1) := by decide +kernel
theorem dX10_filled_16 : decode cX10_filled 16 = .ok (.aload_n 0, 1) := by decide +kernel
theorem dX10_filled_17 : decode cX10_filled 17 = .ok (.getfield 27, 3) := by decide +kernel
theorem dX10_filled_20 : decode cX10_filled 20 = .ok (.invokevirtual 222, 3) := by decide +kernel
theorem dX10_filled_23 : decode cX10_filled 23 = .ok (.iload_n 1, 1) := by decide +kernel
theorem dX10_filled_24 : decode cX10_filled 24 = .ok (.ifCond .ne 13, 3) := by decide +kernel
theorem dX10_filled_27 : decode cX10_filled 27 = .ok (.aload_n 0, 1) := by decide +kernel
theorem dX10_filled_28 : decode cX10_filled 28 = .ok (.getfield 27, 3) := by decide +kernel
theorem dX10_filled_31 : decode cX10_filled 31 = .ok (.invokevirtual 270, 3) := by decide +kernel
theorem dX10_filled_34 : decode cX10_filled 34 = .ok (.goto 10, 3) := by decide +kernel
theorem dX10_filled_37 : decode cX10_filled 37 = .ok (.aload_n 0, 1) := by decide +kernel
theorem dX10_filled_38 : decode cX10_filled 38 = .ok (.getfield 27, 3) := by decide +kernel
theorem dX10_filled_41 : decode cX10_filled 41 = .ok (.invokevirtual 273, 3) := by decide +kernel
theorem dX10_filled_44 : decode cX10_filled 44 = .ok (.ireturn, 1) := by decide +kernel
theorem dX10_put_0 : decode cX10_put 0 = .ok (.iload_n 1, 1) := by decide +kernel
theorem dX10_put_1 : decode cX10_put 1 = .ok (.ifCond .lt 8, 3) := by decide +kernel
theorem dX10_put_4 : decode cX10_put 4 = .ok (.iload_n 1, 1) := by decide +kernel
theorem dX10_put_5 : decode cX10_put 5 = .ok (.iconst 2, 1) := by decide +kernel
theorem dX10_put_6 : decode cX10_put 6 = .ok (.if_icmp .le 10, 3) := by decide +kernel
theorem dX10_put_9 : decode cX10_put 9 = .ok (.aload_n 0, 1) := by decide +kernel
theorem dX10_put_10 : decode cX10_put 10 = .ok (.bipush (-5), 2) := by decide +kernel
theorem dX10_put_12 : decode cX10_put 12 = .ok (.invokevirtual 93, 3) := by decide +kernel
theorem dX10_put_15 : decode cX10_put 15 = .ok (.ireturn, 1) := by decide +kernel
theorem dX10_put_16 : decode cX10_put 16 = .ok (.aload_n 0, 1) := by decide +kernel
theorem dX10_put_17 : decode cX10_put 17 = .ok (.getfield 36, 3) := by decide +kernel
theorem dX10_put_20 : decode cX10_put 20 = .ok (.invokevirtual 276, 3) := by decide +kernel
theorem dX10_put_23 : decode cX10_put 23 = .ok (.iload_n 1, 1) := by decide +kernel
theorem dX10_put_24 : decode cX10_put 24 = .ok (.iconst 2, 1) := by decide +kernel
theorem dX10_put_25 : decode cX10_put 25 = .ok (.if_icmp .ne 13, 3) := by decide +kernel
theorem dX10_put_28 : decode cX10_put 28 = .ok (.aload_n 0, 1) := by decide +kernel
theorem dX10_put_29 : decode cX10_put 29 = .ok (.getfield 36, 3) := by decide +kernel
theorem dX10_put_32 : decode cX10_put 32 = .ok (.invokevirtual 279, 3) := by decide +kernel
theorem dX10_put_35 : decode cX10_put 35 = .ok (.goto 11, 3) := by decide +kernel
theorem dX10_put_38 : decode cX10_put 38 = .ok (.aload_n 0, 1) := by decide +kernel
theorem dX10_put_39 : decode cX10_put 39 = .ok (.getfield 36, 3) := by decide +kernel
theorem dX10_put_42 : decode cX10_put 42 = .ok (.iload_n 1, 1) := by decide +kernel
theorem dX10_put_43 : decode cX10_put 43 = .ok (.invokevirtual 282, 3) := by decide +kernel
theorem dX10_put_46 : decode cX10_put 46 = .ok (.ireturn, 1) := by decide +kernel
theorem dX10_channel_0 : decode cX10_channel 0 = .ok (.iconst 1, 1) := by decide +kernel
theorem dX10_channel_1 : decode cX10_channel 1 = .ok (.istore_n 1, 1) := by decide +kernel
theorem dX10_channel_2 : decode cX10_channel 2 = .ok (.iconst 2, 1) := by decide +kernel
theorem dX10_channel_3 : decode cX10_channel 3 = .ok (.istore_n 2, 1) := by decide +kernel
theorem dX10_channel_4 : decode cX10_channel 4 = .ok (.iload_n 2, 1) := by decide +kernel
theorem dX10_channel_5 : decode cX10_channel 5 = .ok (.bipush 13, 2) := by decide +kernel
theorem dX10_channel_7 : decode cX10_channel 7 = .ok (.if_icmp .gt 30, 3) := by decide +kernel
theorem dX10_channel_10 : decode cX10_channel 10 = .ok (.aload_n 0, 1) := by decide +kernel
theorem dX10_channel_11 : decode cX10_channel 11 = .ok (.getfield 10, 3) := by decide +kernel
theorem dX10_channel_14 : decode cX10_channel 14 = .ok (.iload_n 2, 1) := by decide +kernel
theorem dX10_channel_15 : decode cX10_channel 15 = .ok (.invokevirtual 264, 3) := by decide +kernel
theorem dX10_channel_18 : decode cX10_channel 18 = .ok (.aload_n 0, 1) := by decide +kernel
theorem dX10_channel_19 : decode cX10_channel 19 = .ok (.getfield 10, 3) := by decide +kernel
theorem dX10_channel_22 : decode cX10_channel 22 = .ok (.iload_n 1, 1) := by decide +kernel
theorem dX10_channel_23 : decode cX10_channel 23 = .ok (.invokevirtual 264, 3) := by decide +kernel
theorem dX10_channel_26 : decode cX10_channel 26 = .ok (.if_icmp .ge 5, 3) := by decide +kernel
theorem dX10_channel_29 : decode cX10_channel 29 = .ok (.iload_n 2, 1) := by decide +kernel
theorem dX10_channel_30 : decode cX10_channel 30 = .ok (.istore_n 1, 1) := by decide +kernel
theorem dX10_channel_31 : decode cX10_channel 31 = .ok (.iinc 2 1, 3) := by decide +kernel
theorem dX10_channel_34 : decode cX10_channel 34 = .ok (.goto (-30), 3) := by decide +kernel
theorem dX10_channel_37 : decode cX10_channel 37 = .ok (.iload_n 1, 1) := by decide +kernel
theorem dX10_channel_38 : decode cX10_channel 38 = .ok (.ireturn, 1) := by decide +kernel
theorem dX10_rests_0 : decode cX10_rests 0 = .ok (.aload_n 0, 1) := by decide +kernel
theorem dX10_rests_1 : decode cX10_rests 1 = .ok (.getfield 52, 3) := by decide +kernel
theorem dX10_rests_4 : decode cX10_rests 4 = .ok (.invokevirtual 285, 3) := by decide +kernel
theorem dX10_rests_7 : decode cX10_rests 7 = .ok (.iconst 0, 1) := by decide +kernel
theorem dX10_rests_8 : decode cX10_rests 8 = .ok (.istore_n 1, 1) := by decide +kernel
theorem dX10_rests_9 : decode cX10_rests 9 = .ok (.iload_n 1, 1) := by decide +kernel
theorem dX10_rests_10 : decode cX10_rests 10 = .ok (.bipush 20, 2) := by decide +kernel
theorem dX10_rests_12 : decode cX10_rests 12 = .ok (.if_icmp .ge 21, 3) := by decide +kernel
theorem dX10_rests_15 : decode cX10_rests 15 = .ok (.aload_n 0, 1) := by decide +kernel
theorem dX10_rests_16 : decode cX10_rests 16 = .ok (.getfield 52, 3) := by decide +kernel
theorem dX10_rests_19 : decode cX10_rests 19 = .ok (.invokevirtual 286, 3) := by decide +kernel
theorem dX10_rests_22 : decode cX10_rests 22 = .ok (.ifCond .ne 5, 3) := by decide +kernel
theorem dX10_rests_25 : decode cX10_rests 25 = .ok (.iload_n 1, 1) := by decide +kernel
theorem dX10_rests_26 : decode cX10_rests 26 = .ok (.ireturn, 1) := by decide +kernel
theorem dX10_rests_27 : decode cX10_rests 27 = .ok (.iinc 1 1, 3) := by decide +kernel
theorem dX10_rests_30 : decode cX10_rests 30 = .ok (.goto (-21), 3) := by decide +kernel
theorem dX10_rests_33 : decode cX10_rests 33 = .ok (.iconst (-1), 1) := by decide +kernel
theorem dX10_rests_34 : decode cX10_rests 34 = .ok (.ireturn, 1) := by decide +kernel
theorem dX10_goesTo_0 : decode cX10_goesTo 0 = .ok (.iload_n 1, 1) := by decide +kernel
theorem dX10_goesTo_1 : decode cX10_goesTo 1 = .ok (.ifCond .lt 14, 3) := by decide +kernel
theorem dX10_goesTo_4 : decode cX10_goesTo 4 = .ok (.iload_n 1, 1) := by decide +kernel
theorem dX10_goesTo_5 : decode cX10_goesTo 5 = .ok (.aload_n 0, 1) := by decide +kernel
theorem dX10_goesTo_6 : decode cX10_goesTo 6 = .ok (.getfield 10, 3) := by decide +kernel
theorem dX10_goesTo_9 : decode cX10_goesTo 9 = .ok (.getfield 188, 3) := by decide +kernel
theorem dX10_goesTo_12 : decode cX10_goesTo 12 = .ok (.if_icmp .lt 9, 3) := by decide +kernel
theorem dX10_goesTo_15 : decode cX10_goesTo 15 = .ok (.aload_n 0, 1) := by decide +kernel
theorem dX10_goesTo_16 : decode cX10_goesTo 16 = .ok (.iconst (-1), 1) := by decide +kernel
theorem dX10_goesTo_17 : decode cX10_goesTo 17 = .ok (.invokevirtual 93, 3) := by decide +kernel
theorem dX10_goesTo_20 : decode cX10_goesTo 20 = .ok (.ireturn, 1) := by decide +kernel
theorem dX10_goesTo_21 : decode cX10_goesTo 21 = .ok (.iload_n 2, 1) := by decide +kernel
theorem dX10_goesTo_22 : decode cX10_goesTo 22 = .ok (.ifCond .lt 9, 3) := by decide +kernel
theorem dX10_goesTo_25 : decode cX10_goesTo 25 = .ok (.iload_n 2, 1) := by decide +kernel
theorem dX10_goesTo_26 : decode cX10_goesTo 26 = .ok (.bipush 20, 2) := by decide +kernel
theorem dX10_goesTo_28 : decode cX10_goesTo 28 = .ok (.if_icmp .le 10, 3) := by decide +kernel
theorem dX10_goesTo_31 : decode cX10_goesTo 31 = .ok (.aload_n 0, 1) := by decide +kernel
theorem dX10_goesTo_32 : decode cX10_goesTo 32 = .ok (.bipush (-6), 2) := by decide +kernel
theorem dX10_goesTo_34 : decode cX10_goesTo 34 = .ok (.invokevirtual 93, 3) := by decide +kernel
theorem dX10_goesTo_37 : decode cX10_goesTo 37 = .ok (.ireturn, 1) := by decide +kernel
theorem dX10_goesTo_38 : decode cX10_goesTo 38 = .ok (.aload_n 0, 1) := by decide +kernel
theorem dX10_goesTo_39 : decode cX10_goesTo 39 = .ok (.getfield 52, 3) := by decide +kernel
theorem dX10_goesTo_42 : decode cX10_goesTo 42 = .ok (.invokevirtual 285, 3) := by decide +kernel
theorem dX10_goesTo_45 : decode cX10_goesTo 45 = .ok (.iconst 0, 1) := by decide +kernel
theorem dX10_goesTo_46 : decode cX10_goesTo 46 = .ok (.istore_n 3, 1) := by decide +kernel
theorem dX10_goesTo_47 : decode cX10_goesTo 47 = .ok (.iload_n 3, 1) := by decide +kernel
theorem dX10_goesTo_48 : decode cX10_goesTo 48 = .ok (.iload_n 2, 1) := by decide +kernel
theorem dX10_goesTo_49 : decode cX10_goesTo 49 = .ok (.if_icmp .ge 17, 3) := by decide +kernel
theorem dX10_goesTo_52 : decode cX10_goesTo 52 = .ok (.aload_n 0, 1) := by decide +kernel
theorem dX10_goesTo_53 : decode cX10_goesTo 53 = .ok (.getfield 52, 3) := by decide +kernel
theorem dX10_goesTo_56 : decode cX10_goesTo 56 = .ok (.invokevirtual 286, 3) := by decide +kernel
theorem dX10_goesTo_59 : decode cX10_goesTo 59 = .ok (.pop, 1) := by decide +kernel
theorem dX10_goesTo_60 : decode cX10_goesTo 60 = .ok (.iinc 3 1, 3) := by decide +kernel
theorem dX10_goesTo_63 : decode cX10_goesTo 63 = .ok (.goto (-16), 3) := by decide +kernel
theorem dX10_goesTo_66 : decode cX10_goesTo 66 = .ok (.aload_n 0, 1) := by decide +kernel
theorem dX10_goesTo_67 : decode cX10_goesTo 67 = .ok (.getfield 52, 3) := by decide +kernel
theorem dX10_goesTo_70 : decode cX10_goesTo 70 = .ok (.iload_n 1, 1) := by decide +kernel
theorem dX10_goesTo_71 : decode cX10_goesTo 71 = .ok (.invokevirtual 289, 3) := by decide +kernel
theorem dX10_goesTo_74 : decode cX10_goesTo 74 = .ok (.ireturn, 1) := by decide +kernel
theorem dX10_moved_0 : decode cX10_moved 0 = .ok (.aload_n 0, 1) := by decide +kernel
theorem dX10_moved_1 : decode cX10_moved 1 = .ok (.getfield 36, 3) := by decide +kernel
theorem dX10_moved_4 : decode cX10_moved 4 = .ok (.invokevirtual 276, 3) := by decide +kernel
theorem dX10_moved_7 : decode cX10_moved 7 = .ok (.aload_n 0, 1) := by decide +kernel
theorem dX10_moved_8 : decode cX10_moved 8 = .ok (.getfield 36, 3) := by decide +kernel
theorem dX10_moved_11 : decode cX10_moved 11 = .ok (.invokevirtual 292, 3) := by decide +kernel
theorem dX10_moved_14 : decode cX10_moved 14 = .ok (.ireturn, 1) := by decide +kernel
theorem dX10_doors_0 : decode cX10_doors 0 = .ok (.aload_n 0, 1) := by decide +kernel
theorem dX10_doors_1 : decode cX10_doors 1 = .ok (.getfield 36, 3) := by decide +kernel
theorem dX10_doors_4 : decode cX10_doors 4 = .ok (.invokevirtual 276, 3) := by decide +kernel
theorem dX10_doors_7 : decode cX10_doors 7 = .ok (.aload_n 0, 1) := by decide +kernel
theorem dX10_doors_8 : decode cX10_doors 8 = .ok (.getfield 36, 3) := by decide +kernel
theorem dX10_doors_11 : decode cX10_doors 11 = .ok (.invokevirtual 295, 3) := by decide +kernel
theorem dX10_doors_14 : decode cX10_doors 14 = .ok (.ireturn, 1) := by decide +kernel
theorem dX10_count_0 : decode cX10_count 0 = .ok (.aload_n 0, 1) := by decide +kernel
theorem dX10_count_1 : decode cX10_count 1 = .ok (.getfield 10, 3) := by decide +kernel
theorem dX10_count_4 : decode cX10_count 4 = .ok (.bipush 12, 2) := by decide +kernel
theorem dX10_count_6 : decode cX10_count 6 = .ok (.iload_n 1, 1) := by decide +kernel
theorem dX10_count_7 : decode cX10_count 7 = .ok (.invokevirtual 150, 3) := by decide +kernel
theorem dX10_count_10 : decode cX10_count 10 = .ok (.ifCond .ne 10, 3) := by decide +kernel
theorem dX10_count_13 : decode cX10_count 13 = .ok (.aload_n 0, 1) := by decide +kernel
theorem dX10_count_14 : decode cX10_count 14 = .ok (.bipush (-6), 2) := by decide +kernel
theorem dX10_count_16 : decode cX10_count 16 = .ok (.invokevirtual 93, 3) := by decide +kernel
theorem dX10_count_19 : decode cX10_count 19 = .ok (.ireturn, 1) := by decide +kernel
theorem dX10_count_20 : decode cX10_count 20 = .ok (.aload_n 0, 1) := by decide +kernel
theorem dX10_count_21 : decode cX10_count 21 = .ok (.getfield 27, 3) := by decide +kernel
theorem dX10_count_24 : decode cX10_count 24 = .ok (.invokevirtual 222, 3) := by decide +kernel
theorem dX10_count_27 : decode cX10_count 27 = .ok (.iconst 0, 1) := by decide +kernel
theorem dX10_count_28 : decode cX10_count 28 = .ok (.istore_n 2, 1) := by decide +kernel
theorem dX10_count_29 : decode cX10_count 29 = .ok (.iconst 0, 1) := by decide +kernel
theorem dX10_count_30 : decode cX10_count 30 = .ok (.istore_n 3, 1) := by decide +kernel
theorem dX10_count_31 : decode cX10_count 31 = .ok (.iload_n 3, 1) := by decide +kernel
theorem dX10_count_32 : decode cX10_count 32 = .ok (.bipush 80, 2) := by decide +kernel
theorem dX10_count_34 : decode cX10_count 34 = .ok (.if_icmp .ge 35, 3) := by decide +kernel
theorem dX10_count_37 : decode cX10_count 37 = .ok (.aload_n 0, 1) := by decide +kernel
theorem dX10_count_38 : decode cX10_count 38 = .ok (.getfield 10, 3) := by decide +kernel
theorem dX10_count_41 : decode cX10_count 41 = .ok (.iload_n 3, 1) := by decide +kernel
theorem dX10_count_42 : decode cX10_count 42 = .ok (.invokevirtual 178, 3) := by decide +kernel
theorem dX10_count_45 : decode cX10_count 45 = .ok (.ifCond .eq 18, 3) := by decide +kernel
theorem dX10_count_48 : decode cX10_count 48 = .ok (.aload_n 0, 1) := by decide +kernel
theorem dX10_count_49 : decode cX10_count 49 = .ok (.getfield 27, 3) := by decide +kernel
theorem dX10_count_52 : decode cX10_count 52 = .ok (.iload_n 3, 1) := by decide +kernel
theorem dX10_count_53 : decode cX10_count 53 = .ok (.invokevirtual 298, 3) := by decide +kernel
theorem dX10_count_56 : decode cX10_count 56 = .ok (.iload_n 1, 1) := by decide +kernel
theorem dX10_count_57 : decode cX10_count 57 = .ok (.if_icmp .lt 6, 3) := by decide +kernel
theorem dX10_count_60 : decode cX10_count 60 = .ok (.iinc 2 1, 3) := by decide +kernel
theorem dX10_count_63 : decode cX10_count 63 = .ok (.iinc 3 1, 3) := by decide +kernel
theorem dX10_count_66 : decode cX10_count 66 = .ok (.goto (-35), 3) := by decide +kernel
theorem dX10_count_69 : decode cX10_count 69 = .ok (.iload_n 2, 1) := by decide +kernel
theorem dX10_count_70 : decode cX10_count 70 = .ok (.ireturn, 1) := by decide +kernel
theorem dX10_fits_0 : decode cX10_fits 0 = .ok (.aload_n 0, 1) := by decide +kernel
theorem dX10_fits_1 : decode cX10_fits 1 = .ok (.iload_n 1, 1) := by decide +kernel
theorem dX10_fits_2 : decode cX10_fits 2 = .ok (.invokevirtual 89, 3) := by decide +kernel
theorem dX10_fits_5 : decode cX10_fits 5 = .ok (.astore 4, 2) := by decide +kernel
theorem dX10_fits_7 : decode cX10_fits 7 = .ok (.aload_n 0, 1) := by decide +kernel
theorem dX10_fits_8 : decode cX10_fits 8 = .ok (.aload 4, 2) := by decide +kernel
theorem dX10_fits_10 : decode cX10_fits 10 = .ok (.iload_n 2, 1) := by decide +kernel
theorem dX10_fits_11 : decode cX10_fits 11 = .ok (.invokevirtual 301, 3) := by decide +kernel
theorem dX10_fits_14 : decode cX10_fits 14 = .ok (.istore 5, 2) := by decide +kernel
theorem dX10_fits_16 : decode cX10_fits 16 = .ok (.iload 5, 2) := by decide +kernel
theorem dX10_fits_18 : decode cX10_fits 18 = .ok (.ifCond .eq 10, 3) := by decide +kernel
theorem dX10_fits_21 : decode cX10_fits 21 = .ok (.aload_n 0, 1) := by decide +kernel
theorem dX10_fits_22 : decode cX10_fits 22 = .ok (.iload 5, 2) := by decide +kernel
theorem dX10_fits_24 : decode cX10_fits 24 = .ok (.invokevirtual 93, 3) := by decide +kernel
theorem dX10_fits_27 : decode cX10_fits 27 = .ok (.ireturn, 1) := by decide +kernel
theorem dX10_fits_28 : decode cX10_fits 28 = .ok (.aload_n 0, 1) := by decide +kernel
theorem dX10_fits_29 : decode cX10_fits 29 = .ok (.getfield 45, 3) := by decide +kernel
theorem dX10_fits_32 : decode cX10_fits 32 = .ok (.aload 4, 2) := by decide +kernel
theorem dX10_fits_34 : decode cX10_fits 34 = .ok (.iload_n 2, 1) := by decide +kernel
theorem dX10_fits_35 : decode cX10_fits 35 = .ok (.invokevirtual 305, 3) := by decide +kernel
theorem dX10_fits_38 : decode cX10_fits 38 = .ok (.iload_n 3, 1) := by decide +kernel
theorem dX10_fits_39 : decode cX10_fits 39 = .ok (.iconst (-1), 1) := by decide +kernel
theorem dX10_fits_40 : decode cX10_fits 40 = .ok (.if_icmp .ne 11, 3) := by decide +kernel
theorem dX10_fits_43 : decode cX10_fits 43 = .ok (.aload_n 0, 1) := by decide +kernel
theorem dX10_fits_44 : decode cX10_fits 44 = .ok (.getfield 45, 3) := by decide +kernel
theorem dX10_fits_47 : decode cX10_fits 47 = .ok (.getfield 309, 3) := by decide +kernel
theorem dX10_fits_50 : decode cX10_fits 50 = .ok (.ireturn, 1) := by decide +kernel
theorem dX10_fits_51 : decode cX10_fits 51 = .ok (.aload_n 0, 1) := by decide +kernel
theorem dX10_fits_52 : decode cX10_fits 52 = .ok (.getfield 45, 3) := by decide +kernel
theorem dX10_fits_55 : decode cX10_fits 55 = .ok (.iload_n 3, 1) := by decide +kernel
theorem dX10_fits_56 : decode cX10_fits 56 = .ok (.invokevirtual 312, 3) := by decide +kernel
theorem dX10_fits_59 : decode cX10_fits 59 = .ok (.istore 6, 2) := by decide +kernel
theorem dX10_fits_61 : decode cX10_fits 61 = .ok (.iload 6, 2) := by decide +kernel
theorem dX10_fits_63 : decode cX10_fits 63 = .ok (.iconst (-1), 1) := by decide +kernel
theorem dX10_fits_64 : decode cX10_fits 64 = .ok (.if_icmp .ne 12, 3) := by decide +kernel
theorem dX10_fits_67 : decode cX10_fits 67 = .ok (.aload_n 0, 1) := by decide +kernel
theorem dX10_fits_68 : decode cX10_fits 68 = .ok (.bipush (-5), 2) := by decide +kernel
theorem dX10_fits_70 : decode cX10_fits 70 = .ok (.invokevirtual 93, 3) := by decide +kernel
theorem dX10_fits_73 : decode cX10_fits 73 = .ok (.goto 5, 3) := by decide +kernel
theorem dX10_fits_76 : decode cX10_fits 76 = .ok (.iload 6, 2) := by decide +kernel
theorem dX10_fits_78 : decode cX10_fits 78 = .ok (.ireturn, 1) := by decide +kernel
theorem dX10_next_0 : decode cX10_next 0 = .ok (.aload_n 0, 1) := by decide +kernel
theorem dX10_next_1 : decode cX10_next 1 = .ok (.iload_n 1, 1) := by decide +kernel
theorem dX10_next_2 : decode cX10_next 2 = .ok (.invokevirtual 89, 3) := by decide +kernel
theorem dX10_next_5 : decode cX10_next 5 = .ok (.astore_n 3, 1) := by decide +kernel
theorem dX10_next_6 : decode cX10_next 6 = .ok (.aload_n 0, 1) := by decide +kernel
theorem dX10_next_7 : decode cX10_next 7 = .ok (.aload_n 3, 1) := by decide +kernel
theorem dX10_next_8 : decode cX10_next 8 = .ok (.iload_n 2, 1) := by decide +kernel
theorem dX10_next_9 : decode cX10_next 9 = .ok (.invokevirtual 301, 3) := by decide +kernel
theorem dX10_next_12 : decode cX10_next 12 = .ok (.istore 4, 2) := by decide +kernel
theorem dX10_next_14 : decode cX10_next 14 = .ok (.iload 4, 2) := by decide +kernel
theorem dX10_next_16 : decode cX10_next 16 = .ok (.ifCond .eq 13, 3) := by decide +kernel
theorem dX10_next_19 : decode cX10_next 19 = .ok (.aload_n 0, 1) := by decide +kernel
theorem dX10_next_20 : decode cX10_next 20 = .ok (.iload 4, 2) := by decide +kernel
theorem dX10_next_22 : decode cX10_next 22 = .ok (.invokevirtual 93, 3) := by decide +kernel
theorem dX10_next_25 : decode cX10_next 25 = .ok (.bipush (-10), 2) := by decide +kernel
theorem dX10_next_27 : decode cX10_next 27 = .ok (.iadd, 1) := by decide +kernel
theorem dX10_next_28 : decode cX10_next 28 = .ok (.ireturn, 1) := by decide +kernel
theorem dX10_next_29 : decode cX10_next 29 = .ok (.aload_n 0, 1) := by decide +kernel
theorem dX10_next_30 : decode cX10_next 30 = .ok (.getfield 45, 3) := by decide +kernel
theorem dX10_next_33 : decode cX10_next 33 = .ok (.aload_n 3, 1) := by decide +kernel
theorem dX10_next_34 : decode cX10_next 34 = .ok (.iload_n 2, 1) := by decide +kernel
theorem dX10_next_35 : decode cX10_next 35 = .ok (.invokevirtual 305, 3) := by decide +kernel
theorem dX10_next_38 : decode cX10_next 38 = .ok (.aload_n 0, 1) := by decide +kernel
theorem dX10_next_39 : decode cX10_next 39 = .ok (.getfield 45, 3) := by decide +kernel
theorem dX10_next_42 : decode cX10_next 42 = .ok (.getfield 309, 3) := by decide +kernel
theorem dX10_next_45 : decode cX10_next 45 = .ok (.iconst 2, 1) := by decide +kernel
theorem dX10_next_46 : decode cX10_next 46 = .ok (.if_icmp .ge 7, 3) := by decide +kernel
theorem dX10_next_49 : decode cX10_next 49 = .ok (.iconst (-1), 1) := by decide +kernel
theorem dX10_next_50 : decode cX10_next 50 = .ok (.goto 10, 3) := by decide +kernel
theorem dX10_next_53 : decode cX10_next 53 = .ok (.aload_n 0, 1) := by decide +kernel
theorem dX10_next_54 : decode cX10_next 54 = .ok (.getfield 45, 3) := by decide +kernel
theorem dX10_next_57 : decode cX10_next 57 = .ok (.invokevirtual 315, 3) := by decide +kernel
theorem dX10_next_60 : decode cX10_next 60 = .ok (.ireturn, 1) := by decide +kernel
theorem dX10_near_0 : decode cX10_near 0 = .ok (.aload_n 0, 1) := by decide +kernel
theorem dX10_near_1 : decode cX10_near 1 = .ok (.getfield 10, 3) := by decide +kernel
theorem dX10_near_4 : decode cX10_near 4 = .ok (.iload_n 1, 1) := by decide +kernel
theorem dX10_near_5 : decode cX10_near 5 = .ok (.invokevirtual 178, 3) := by decide +kernel
theorem dX10_near_8 : decode cX10_near 8 = .ok (.ifCond .eq 16, 3) := by decide +kernel
theorem dX10_near_11 : decode cX10_near 11 = .ok (.aload_n 0, 1) := by decide +kernel
theorem dX10_near_12 : decode cX10_near 12 = .ok (.getfield 10, 3) := by decide +kernel
theorem dX10_near_15 : decode cX10_near 15 = .ok (.bipush 12, 2) := by decide +kernel
theorem dX10_near_17 : decode cX10_near 17 = .ok (.iload_n 2, 1) := by decide +kernel
theorem dX10_near_18 : decode cX10_near 18 = .ok (.invokevirtual 150, 3) := by decide +kernel
theorem dX10_near_21 : decode cX10_near 21 = .ok (.ifCond .ne 13, 3) := by decide +kernel
theorem dX10_near_24 : decode cX10_near 24 = .ok (.aload_n 0, 1) := by decide +kernel
theorem dX10_near_25 : decode cX10_near 25 = .ok (.bipush (-6), 2) := by decide +kernel
theorem dX10_near_27 : decode cX10_near 27 = .ok (.invokevirtual 93, 3) := by decide +kernel
theorem dX10_near_30 : decode cX10_near 30 = .ok (.bipush (-10), 2) := by decide +kernel
theorem dX10_near_32 : decode cX10_near 32 = .ok (.iadd, 1) := by decide +kernel
theorem dX10_near_33 : decode cX10_near 33 = .ok (.ireturn, 1) := by decide +kernel
theorem dX10_near_34 : decode cX10_near 34 = .ok (.aload_n 0, 1) := by decide +kernel
theorem dX10_near_35 : decode cX10_near 35 = .ok (.getfield 27, 3) := by decide +kernel
theorem dX10_near_38 : decode cX10_near 38 = .ok (.invokevirtual 222, 3) := by decide +kernel
theorem dX10_near_41 : decode cX10_near 41 = .ok (.iconst (-1), 1) := by decide +kernel
theorem dX10_near_42 : decode cX10_near 42 = .ok (.istore_n 3, 1) := by decide +kernel
theorem dX10_near_43 : decode cX10_near 43 = .ok (.iconst 0, 1) := by decide +kernel
theorem dX10_near_44 : decode cX10_near 44 = .ok (.istore 4, 2) := by decide +kernel
theorem dX10_near_46 : decode cX10_near 46 = .ok (.iload 4, 2) := by decide +kernel
theorem dX10_near_48 : decode cX10_near 48 = .ok (.bipush 80, 2) := by decide +kernel
theorem dX10_near_50 : decode cX10_near 50 = .ok (.if_icmp .ge 59, 3) := by decide +kernel
theorem dX10_near_53 : decode cX10_near 53 = .ok (.aload_n 0, 1) := by decide +kernel
theorem dX10_near_54 : decode cX10_near 54 = .ok (.getfield 10, 3) := by decide +kernel
theorem dX10_near_57 : decode cX10_near 57 = .ok (.iload 4, 2) := by decide +kernel
theorem dX10_near_59 : decode cX10_near 59 = .ok (.invokevirtual 178, 3) := by decide +kernel
theorem dX10_near_62 : decode cX10_near 62 = .ok (.ifCond .eq 41, 3) := by decide +kernel
theorem dX10_near_65 : decode cX10_near 65 = .ok (.aload_n 0, 1) := by decide +kernel
theorem dX10_near_66 : decode cX10_near 66 = .ok (.getfield 27, 3) := by decide +kernel
theorem dX10_near_69 : decode cX10_near 69 = .ok (.iload 4, 2) := by decide +kernel
theorem dX10_near_71 : decode cX10_near 71 = .ok (.invokevirtual 298, 3) := by decide +kernel
theorem dX10_near_74 : decode cX10_near 74 = .ok (.iload_n 2, 1) := by decide +kernel
theorem dX10_near_75 : decode cX10_near 75 = .ok (.if_icmp .lt 28, 3) := by decide +kernel
theorem dX10_near_78 : decode cX10_near 78 = .ok (.iload_n 1, 1) := by decide +kernel
theorem dX10_near_79 : decode cX10_near 79 = .ok (.iload 4, 2) := by decide +kernel
theorem dX10_near_81 : decode cX10_near 81 = .ok (.invokestatic 258, 3) := by decide +kernel
theorem dX10_near_84 : decode cX10_near 84 = .ok (.istore 5, 2) := by decide +kernel
theorem dX10_near_86 : decode cX10_near 86 = .ok (.iload_n 3, 1) := by decide +kernel
theorem dX10_near_87 : decode cX10_near 87 = .ok (.iconst (-1), 1) := by decide +kernel
theorem dX10_near_88 : decode cX10_near 88 = .ok (.if_icmp .ne 8, 3) := by decide +kernel
theorem dX10_near_91 : decode cX10_near 91 = .ok (.iload 5, 2) := by decide +kernel
theorem dX10_near_93 : decode cX10_near 93 = .ok (.goto 9, 3) := by decide +kernel
theorem dX10_near_96 : decode cX10_near 96 = .ok (.iload_n 3, 1) := by decide +kernel
theorem dX10_near_97 : decode cX10_near 97 = .ok (.iload 5, 2) := by decide +kernel
theorem dX10_near_99 : decode cX10_near 99 = .ok (.invokestatic 318, 3) := by decide +kernel
theorem dX10_near_102 : decode cX10_near 102 = .ok (.istore_n 3, 1) := by decide +kernel
theorem dX10_near_103 : decode cX10_near 103 = .ok (.iinc 4 1, 3) := by decide +kernel
theorem dX10_near_106 : decode cX10_near 106 = .ok (.goto (-60), 3) := by decide +kernel
theorem dX10_near_109 : decode cX10_near 109 = .ok (.iload_n 3, 1) := by decide +kernel
theorem dX10_near_110 : decode cX10_near 110 = .ok (.ireturn, 1) := by decide +kernel
theorem dX10_minute_0 : decode cX10_minute 0 = .ok (.aload_n 0, 1) := by decide +kernel
theorem dX10_minute_1 : decode cX10_minute 1 = .ok (.getfield 36, 3) := by decide +kernel
theorem dX10_minute_4 : decode cX10_minute 4 = .ok (.invokevirtual 276, 3) := by decide +kernel
theorem dX10_minute_7 : decode cX10_minute 7 = .ok (.aload_n 0, 1) := by decide +kernel
theorem dX10_minute_8 : decode cX10_minute 8 = .ok (.getfield 36, 3) := by decide +kernel
theorem dX10_minute_11 : decode cX10_minute 11 = .ok (.invokevirtual 321, 3) := by decide +kernel
theorem dX10_minute_14 : decode cX10_minute 14 = .ok (.ireturn, 1) := by decide +kernel
theorem dX10_blame_0 : decode cX10_blame 0 = .ok (.aload_n 0, 1) := by decide +kernel
theorem dX10_blame_1 : decode cX10_blame 1 = .ok (.getfield 10, 3) := by decide +kernel
theorem dX10_blame_4 : decode cX10_blame 4 = .ok (.iload_n 1, 1) := by decide +kernel
theorem dX10_blame_5 : decode cX10_blame 5 = .ok (.invokevirtual 178, 3) := by decide +kernel
theorem dX10_blame_8 : decode cX10_blame 8 = .ok (.ifCond .ne 10, 3) := by decide +kernel
theorem dX10_blame_11 : decode cX10_blame 11 = .ok (.aload_n 0, 1) := by decide +kernel
theorem dX10_blame_12 : decode cX10_blame 12 = .ok (.bipush (-6), 2) := by decide +kernel
theorem dX10_blame_14 : decode cX10_blame 14 = .ok (.invokevirtual 93, 3) := by decide +kernel
theorem dX10_blame_17 : decode cX10_blame 17 = .ok (.ireturn, 1) := by decide +kernel
theorem dX10_blame_18 : decode cX10_blame 18 = .ok (.aload_n 0, 1) := by decide +kernel
theorem dX10_blame_19 : decode cX10_blame 19 = .ok (.getfield 27, 3) := by decide +kernel
theorem dX10_blame_22 : decode cX10_blame 22 = .ok (.invokevirtual 222, 3) := by decide +kernel
theorem dX10_blame_25 : decode cX10_blame 25 = .ok (.iconst 2, 1) := by decide +kernel
theorem dX10_blame_26 : decode cX10_blame 26 = .ok (.aload_n 0, 1) := by decide +kernel
theorem dX10_blame_27 : decode cX10_blame 27 = .ok (.getfield 10, 3) := by decide +kernel
theorem dX10_blame_30 : decode cX10_blame 30 = .ok (.getfield 324, 3) := by decide +kernel
theorem dX10_blame_33 : decode cX10_blame 33 = .ok (.iload_n 1, 1) := by decide +kernel
theorem dX10_blame_34 : decode cX10_blame 34 = .ok (.invokestatic 258, 3) := by decide +kernel
theorem dX10_blame_37 : decode cX10_blame 37 = .ok (.imul, 1) := by decide +kernel
theorem dX10_blame_38 : decode cX10_blame 38 = .ok (.istore_n 2, 1) := by decide +kernel
theorem dX10_blame_39 : decode cX10_blame 39 = .ok (.iconst 0, 1) := by decide +kernel
theorem dX10_blame_40 : decode cX10_blame 40 = .ok (.istore_n 3, 1) := by decide +kernel
theorem dX10_blame_41 : decode cX10_blame 41 = .ok (.aload_n 0, 1) := by decide +kernel
theorem dX10_blame_42 : decode cX10_blame 42 = .ok (.getfield 27, 3) := by decide +kernel
theorem dX10_blame_45 : decode cX10_blame 45 = .ok (.aload_n 0, 1) := by decide +kernel
theorem dX10_blame_46 : decode cX10_blame 46 = .ok (.getfield 10, 3) := by decide +kernel
theorem dX10_blame_49 : decode cX10_blame 49 = .ok (.getfield 324, 3) := by decide +kernel
theorem dX10_blame_52 : decode cX10_blame 52 = .ok (.iload_n 1, 1) := by decide +kernel
theorem dX10_blame_53 : decode cX10_blame 53 = .ok (.invokevirtual 261, 3) := by decide +kernel
theorem dX10_blame_56 : decode cX10_blame 56 = .ok (.istore 4, 2) := by decide +kernel
theorem dX10_blame_58 : decode cX10_blame 58 = .ok (.iload 4, 2) := by decide +kernel
theorem dX10_blame_60 : decode cX10_blame 60 = .ok (.iload_n 2, 1) := by decide +kernel
theorem dX10_blame_61 : decode cX10_blame 61 = .ok (.if_icmp .le 8, 3) := by decide +kernel
theorem dX10_blame_64 : decode cX10_blame 64 = .ok (.iload 4, 2) := by decide +kernel
theorem dX10_blame_66 : decode cX10_blame 66 = .ok (.istore_n 2, 1) := by decide +kernel
theorem dX10_blame_67 : decode cX10_blame 67 = .ok (.iconst 1, 1) := by decide +kernel
theorem dX10_blame_68 : decode cX10_blame 68 = .ok (.istore_n 3, 1) := by decide +kernel
theorem dX10_blame_69 : decode cX10_blame 69 = .ok (.aload_n 0, 1) := by decide +kernel
theorem dX10_blame_70 : decode cX10_blame 70 = .ok (.getfield 27, 3) := by decide +kernel
theorem dX10_blame_73 : decode cX10_blame 73 = .ok (.iload_n 1, 1) := by decide +kernel
theorem dX10_blame_74 : decode cX10_blame 74 = .ok (.invokevirtual 267, 3) := by decide +kernel
theorem dX10_blame_77 : decode cX10_blame 77 = .ok (.istore 5, 2) := by decide +kernel
theorem dX10_blame_79 : decode cX10_blame 79 = .ok (.iload 5, 2) := by decide +kernel
theorem dX10_blame_81 : decode cX10_blame 81 = .ok (.iload_n 2, 1) := by decide +kernel
theorem dX10_blame_82 : decode cX10_blame 82 = .ok (.if_icmp .le 8, 3) := by decide +kernel
theorem dX10_blame_85 : decode cX10_blame 85 = .ok (.iload 5, 2) := by decide +kernel
theorem dX10_blame_87 : decode cX10_blame 87 = .ok (.istore_n 2, 1) := by decide +kernel
theorem dX10_blame_88 : decode cX10_blame 88 = .ok (.iconst 2, 1) := by decide +kernel
theorem dX10_blame_89 : decode cX10_blame 89 = .ok (.istore_n 3, 1) := by decide +kernel
theorem dX10_blame_90 : decode cX10_blame 90 = .ok (.aload_n 0, 1) := by decide +kernel
theorem dX10_blame_91 : decode cX10_blame 91 = .ok (.getfield 27, 3) := by decide +kernel
theorem dX10_blame_94 : decode cX10_blame 94 = .ok (.getfield 327, 3) := by decide +kernel
theorem dX10_blame_97 : decode cX10_blame 97 = .ok (.iload_n 2, 1) := by decide +kernel
theorem dX10_blame_98 : decode cX10_blame 98 = .ok (.if_icmp .le 7, 3) := by decide +kernel
theorem dX10_blame_101 : decode cX10_blame 101 = .ok (.iconst 3, 1) := by decide +kernel
theorem dX10_blame_102 : decode cX10_blame 102 = .ok (.goto 4, 3) := by decide +kernel
theorem dX10_blame_105 : decode cX10_blame 105 = .ok (.iload_n 3, 1) := by decide +kernel
theorem dX10_blame_106 : decode cX10_blame 106 = .ok (.ireturn, 1) := by decide +kernel
theorem dX10_judge_0 : decode cX10_judge 0 = .ok (.aload_n 0, 1) := by decide +kernel
theorem dX10_judge_1 : decode cX10_judge 1 = .ok (.iload_n 1, 1) := by decide +kernel
theorem dX10_judge_2 : decode cX10_judge 2 = .ok (.invokevirtual 89, 3) := by decide +kernel
theorem dX10_judge_5 : decode cX10_judge 5 = .ok (.astore_n 3, 1) := by decide +kernel
theorem dX10_judge_6 : decode cX10_judge 6 = .ok (.aload_n 3, 1) := by decide +kernel
theorem dX10_judge_7 : decode cX10_judge 7 = .ok (.iload_n 2, 1) := by decide +kernel
theorem dX10_judge_8 : decode cX10_judge 8 = .ok (.iconst 1, 1) := by decide +kernel
theorem dX10_judge_9 : decode cX10_judge 9 = .ok (.invokestatic 330, 3) := by decide +kernel
theorem dX10_judge_12 : decode cX10_judge 12 = .ok (.istore 4, 2) := by decide +kernel
theorem dX10_judge_14 : decode cX10_judge 14 = .ok (.iload 4, 2) := by decide +kernel
theorem dX10_judge_16 : decode cX10_judge 16 = .ok (.ifCond .eq 13, 3) := by decide +kernel
theorem dX10_judge_19 : decode cX10_judge 19 = .ok (.aload_n 0, 1) := by decide +kernel
theorem dX10_judge_20 : decode cX10_judge 20 = .ok (.iload 4, 2) := by decide +kernel
theorem dX10_judge_22 : decode cX10_judge 22 = .ok (.invokevirtual 93, 3) := by decide +kernel
theorem dX10_judge_25 : decode cX10_judge 25 = .ok (.bipush (-10), 2) := by decide +kernel
theorem dX10_judge_27 : decode cX10_judge 27 = .ok (.iadd, 1) := by decide +kernel
theorem dX10_judge_28 : decode cX10_judge 28 = .ok (.ireturn, 1) := by decide +kernel
theorem dX10_judge_29 : decode cX10_judge 29 = .ok (.aload_n 0, 1) := by decide +kernel
theorem dX10_judge_30 : decode cX10_judge 30 = .ok (.aload_n 3, 1) := by decide +kernel
theorem dX10_judge_31 : decode cX10_judge 31 = .ok (.iload_n 2, 1) := by decide +kernel
theorem dX10_judge_32 : decode cX10_judge 32 = .ok (.invokevirtual 334, 3) := by decide +kernel
theorem dX10_judge_35 : decode cX10_judge 35 = .ok (.ireturn, 1) := by decide +kernel
theorem dX10_hops_0 : decode cX10_hops 0 = .ok (.aload_n 0, 1) := by decide +kernel
theorem dX10_hops_1 : decode cX10_hops 1 = .ok (.iload_n 1, 1) := by decide +kernel
theorem dX10_hops_2 : decode cX10_hops 2 = .ok (.invokevirtual 89, 3) := by decide +kernel
theorem dX10_hops_5 : decode cX10_hops 5 = .ok (.astore 4, 2) := by decide +kernel
theorem dX10_hops_7 : decode cX10_hops 7 = .ok (.aload 4, 2) := by decide +kernel
theorem dX10_hops_9 : decode cX10_hops 9 = .ok (.iload_n 2, 1) := by decide +kernel
theorem dX10_hops_10 : decode cX10_hops 10 = .ok (.iconst 1, 1) := by decide +kernel
theorem dX10_hops_11 : decode cX10_hops 11 = .ok (.invokestatic 330, 3) := by decide +kernel
theorem dX10_hops_14 : decode cX10_hops 14 = .ok (.istore 5, 2) := by decide +kernel
theorem dX10_hops_16 : decode cX10_hops 16 = .ok (.iload 5, 2) := by decide +kernel
theorem dX10_hops_18 : decode cX10_hops 18 = .ok (.ifCond .ne 25, 3) := by decide +kernel
theorem dX10_hops_21 : decode cX10_hops 21 = .ok (.iload_n 3, 1) := by decide +kernel
theorem dX10_hops_22 : decode cX10_hops 22 = .ok (.iconst (-1), 1) := by decide +kernel
theorem dX10_hops_23 : decode cX10_hops 23 = .ok (.if_icmp .eq 20, 3) := by decide +kernel
theorem dX10_hops_26 : decode cX10_hops 26 = .ok (.aload_n 0, 1) := by decide +kernel
theorem dX10_hops_27 : decode cX10_hops 27 = .ok (.getfield 10, 3) := by decide +kernel
theorem dX10_hops_30 : decode cX10_hops 30 = .ok (.bipush 13, 2) := by decide +kernel
theorem dX10_hops_32 : decode cX10_hops 32 = .ok (.iload_n 3, 1) := by decide +kernel
theorem dX10_hops_33 : decode cX10_hops 33 = .ok (.invokevirtual 150, 3) := by decide +kernel
theorem dX10_hops_36 : decode cX10_hops 36 = .ok (.ifCond .ne 7, 3) := by decide +kernel
theorem dX10_hops_39 : decode cX10_hops 39 = .ok (.bipush (-6), 2) := by decide +kernel
theorem dX10_hops_41 : decode cX10_hops 41 = .ok (.istore 5, 2) := by decide +kernel
theorem dX10_hops_43 : decode cX10_hops 43 = .ok (.iload 5, 2) := by decide +kernel
theorem dX10_hops_45 : decode cX10_hops 45 = .ok (.ifCond .ne 18, 3) := by decide +kernel
theorem dX10_hops_48 : decode cX10_hops 48 = .ok (.aload_n 0, 1) := by decide +kernel
theorem dX10_hops_49 : decode cX10_hops 49 = .ok (.aload 4, 2) := by decide +kernel
theorem dX10_hops_51 : decode cX10_hops 51 = .ok (.iload_n 2, 1) := by decide +kernel
theorem dX10_hops_52 : decode cX10_hops 52 = .ok (.invokevirtual 334, 3) := by decide +kernel
theorem dX10_hops_55 : decode cX10_hops 55 = .ok (.iconst (-1), 1) := by decide +kernel
theorem dX10_hops_56 : decode cX10_hops 56 = .ok (.if_icmp .eq 7, 3) := by decide +kernel
theorem dX10_hops_59 : decode cX10_hops 59 = .ok (.bipush (-6), 2) := by decide +kernel
theorem dX10_hops_61 : decode cX10_hops 61 = .ok (.istore 5, 2) := by decide +kernel
theorem dX10_hops_63 : decode cX10_hops 63 = .ok (.iload 5, 2) := by decide +kernel
theorem dX10_hops_65 : decode cX10_hops 65 = .ok (.ifCond .eq 10, 3) := by decide +kernel
theorem dX10_hops_68 : decode cX10_hops 68 = .ok (.aload_n 0, 1) := by decide +kernel
theorem dX10_hops_69 : decode cX10_hops 69 = .ok (.iload 5, 2) := by decide +kernel
theorem dX10_hops_71 : decode cX10_hops 71 = .ok (.invokevirtual 93, 3) := by decide +kernel
theorem dX10_hops_74 : decode cX10_hops 74 = .ok (.ireturn, 1) := by decide +kernel
theorem dX10_hops_75 : decode cX10_hops 75 = .ok (.aload_n 0, 1) := by decide +kernel
theorem dX10_hops_76 : decode cX10_hops 76 = .ok (.getfield 27, 3) := by decide +kernel
theorem dX10_hops_79 : decode cX10_hops 79 = .ok (.invokevirtual 222, 3) := by decide +kernel
theorem dX10_hops_82 : decode cX10_hops 82 = .ok (.iload_n 3, 1) := by decide +kernel
theorem dX10_hops_83 : decode cX10_hops 83 = .ok (.iconst (-1), 1) := by decide +kernel
theorem dX10_hops_84 : decode cX10_hops 84 = .ok (.if_icmp .ne 13, 3) := by decide +kernel
theorem dX10_hops_87 : decode cX10_hops 87 = .ok (.aload_n 0, 1) := by decide +kernel
theorem dX10_hops_88 : decode cX10_hops 88 = .ok (.aload 4, 2) := by decide +kernel
theorem dX10_hops_90 : decode cX10_hops 90 = .ok (.iload_n 2, 1) := by decide +kernel
theorem dX10_hops_91 : decode cX10_hops 91 = .ok (.invokevirtual 337, 3) := by decide +kernel
theorem dX10_hops_94 : decode cX10_hops 94 = .ok (.goto 11, 3) := by decide +kernel
theorem dX10_hops_97 : decode cX10_hops 97 = .ok (.aload_n 0, 1) := by decide +kernel
theorem dX10_hops_98 : decode cX10_hops 98 = .ok (.aload 4, 2) := by decide +kernel
theorem dX10_hops_100 : decode cX10_hops 100 = .ok (.iload_n 2, 1) := by decide +kernel
theorem dX10_hops_101 : decode cX10_hops 101 = .ok (.iload_n 3, 1) := by decide +kernel
theorem dX10_hops_102 : decode cX10_hops 102 = .ok (.invokevirtual 340, 3) := by decide +kernel
theorem dX10_hops_105 : decode cX10_hops 105 = .ok (.ireturn, 1) := by decide +kernel
theorem dX10_evening_0 : decode cX10_evening 0 = .ok (.iload_n 1, 1) := by decide +kernel
theorem dX10_evening_1 : decode cX10_evening 1 = .ok (.iconst 1, 1) := by decide +kernel
theorem dX10_evening_2 : decode cX10_evening 2 = .ok (.if_icmp .lt 22, 3) := by decide +kernel
theorem dX10_evening_5 : decode cX10_evening 5 = .ok (.iload_n 1, 1) := by decide +kernel
theorem dX10_evening_6 : decode cX10_evening 6 = .ok (.bipush 60, 2) := by decide +kernel
theorem dX10_evening_8 : decode cX10_evening 8 = .ok (.if_icmp .gt 16, 3) := by decide +kernel
theorem dX10_evening_11 : decode cX10_evening 11 = .ok (.aload_n 0, 1) := by decide +kernel
theorem dX10_evening_12 : decode cX10_evening 12 = .ok (.getfield 10, 3) := by decide +kernel
theorem dX10_evening_15 : decode cX10_evening 15 = .ok (.bipush 13, 2) := by decide +kernel
theorem dX10_evening_17 : decode cX10_evening 17 = .ok (.iload_n 2, 1) := by decide +kernel
theorem dX10_evening_18 : decode cX10_evening 18 = .ok (.invokevirtual 150, 3) := by decide +kernel
theorem dX10_evening_21 : decode cX10_evening 21 = .ok (.ifCond .ne 10, 3) := by decide +kernel
theorem dX10_evening_24 : decode cX10_evening 24 = .ok (.aload_n 0, 1) := by decide +kernel
theorem dX10_evening_25 : decode cX10_evening 25 = .ok (.bipush (-6), 2) := by decide +kernel
theorem dX10_evening_27 : decode cX10_evening 27 = .ok (.invokevirtual 93, 3) := by decide +kernel
theorem dX10_evening_30 : decode cX10_evening 30 = .ok (.ireturn, 1) := by decide +kernel
theorem dX10_evening_31 : decode cX10_evening 31 = .ok (.aload_n 0, 1) := by decide +kernel
theorem dX10_evening_32 : decode cX10_evening 32 = .ok (.getfield 27, 3) := by decide +kernel
theorem dX10_evening_35 : decode cX10_evening 35 = .ok (.invokevirtual 222, 3) := by decide +kernel
theorem dX10_evening_38 : decode cX10_evening 38 = .ok (.iconst 0, 1) := by decide +kernel
theorem dX10_evening_39 : decode cX10_evening 39 = .ok (.istore_n 3, 1) := by decide +kernel
theorem dX10_evening_40 : decode cX10_evening 40 = .ok (.iload_n 3, 1) := by decide +kernel
theorem dX10_evening_41 : decode cX10_evening 41 = .ok (.iload_n 1, 1) := by decide +kernel
theorem dX10_evening_42 : decode cX10_evening 42 = .ok (.if_icmp .ge 14, 3) := by decide +kernel
theorem dX10_evening_45 : decode cX10_evening 45 = .ok (.aload_n 0, 1) := by decide +kernel
theorem dX10_evening_46 : decode cX10_evening 46 = .ok (.iload_n 2, 1) := by decide +kernel
theorem dX10_evening_47 : decode cX10_evening 47 = .ok (.invokevirtual 343, 3) := by decide +kernel
theorem dX10_evening_50 : decode cX10_evening 50 = .ok (.iinc 3 1, 3) := by decide +kernel
theorem dX10_evening_53 : decode cX10_evening 53 = .ok (.goto (-13), 3) := by decide +kernel
theorem dX10_evening_56 : decode cX10_evening 56 = .ok (.aload_n 0, 1) := by decide +kernel
theorem dX10_evening_57 : decode cX10_evening 57 = .ok (.getfield 27, 3) := by decide +kernel
theorem dX10_evening_60 : decode cX10_evening 60 = .ok (.invokevirtual 270, 3) := by decide +kernel
theorem dX10_evening_63 : decode cX10_evening 63 = .ok (.ireturn, 1) := by decide +kernel
theorem dX10_weeks_0 : decode cX10_weeks 0 = .ok (.iload_n 1, 1) := by decide +kernel
theorem dX10_weeks_1 : decode cX10_weeks 1 = .ok (.iconst 1, 1) := by decide +kernel
theorem dX10_weeks_2 : decode cX10_weeks 2 = .ok (.if_icmp .lt 9, 3) := by decide +kernel
theorem dX10_weeks_5 : decode cX10_weeks 5 = .ok (.iload_n 1, 1) := by decide +kernel
theorem dX10_weeks_6 : decode cX10_weeks 6 = .ok (.bipush 60, 2) := by decide +kernel
theorem dX10_weeks_8 : decode cX10_weeks 8 = .ok (.if_icmp .le 10, 3) := by decide +kernel
theorem dX10_weeks_11 : decode cX10_weeks 11 = .ok (.aload_n 0, 1) := by decide +kernel
theorem dX10_weeks_12 : decode cX10_weeks 12 = .ok (.bipush (-6), 2) := by decide +kernel
theorem dX10_weeks_14 : decode cX10_weeks 14 = .ok (.invokevirtual 93, 3) := by decide +kernel
theorem dX10_weeks_17 : decode cX10_weeks 17 = .ok (.ireturn, 1) := by decide +kernel
theorem dX10_weeks_18 : decode cX10_weeks 18 = .ok (.iconst 0, 1) := by decide +kernel
theorem dX10_weeks_19 : decode cX10_weeks 19 = .ok (.istore_n 2, 1) := by decide +kernel
theorem dX10_weeks_20 : decode cX10_weeks 20 = .ok (.iconst 0, 1) := by decide +kernel
theorem dX10_weeks_21 : decode cX10_weeks 21 = .ok (.istore_n 3, 1) := by decide +kernel
theorem dX10_weeks_22 : decode cX10_weeks 22 = .ok (.iload_n 3, 1) := by decide +kernel
theorem dX10_weeks_23 : decode cX10_weeks 23 = .ok (.iload_n 1, 1) := by decide +kernel
theorem dX10_weeks_24 : decode cX10_weeks 24 = .ok (.if_icmp .ge 35, 3) := by decide +kernel
theorem dX10_weeks_27 : decode cX10_weeks 27 = .ok (.aload_n 0, 1) := by decide +kernel
theorem dX10_weeks_28 : decode cX10_weeks 28 = .ok (.invokevirtual 346, 3) := by decide +kernel
theorem dX10_weeks_31 : decode cX10_weeks 31 = .ok (.aload_n 0, 1) := by decide +kernel
theorem dX10_weeks_32 : decode cX10_weeks 32 = .ok (.getfield 27, 3) := by decide +kernel
theorem dX10_weeks_35 : decode cX10_weeks 35 = .ok (.invokevirtual 222, 3) := by decide +kernel
theorem dX10_weeks_38 : decode cX10_weeks 38 = .ok (.aload_n 0, 1) := by decide +kernel
theorem dX10_weeks_39 : decode cX10_weeks 39 = .ok (.iconst 1, 1) := by decide +kernel
theorem dX10_weeks_40 : decode cX10_weeks 40 = .ok (.invokevirtual 343, 3) := by decide +kernel
theorem dX10_weeks_43 : decode cX10_weeks 43 = .ok (.iload_n 2, 1) := by decide +kernel
theorem dX10_weeks_44 : decode cX10_weeks 44 = .ok (.aload_n 0, 1) := by decide +kernel
theorem dX10_weeks_45 : decode cX10_weeks 45 = .ok (.getfield 27, 3) := by decide +kernel
theorem dX10_weeks_48 : decode cX10_weeks 48 = .ok (.invokevirtual 270, 3) := by decide +kernel
theorem dX10_weeks_51 : decode cX10_weeks 51 = .ok (.iadd, 1) := by decide +kernel
theorem dX10_weeks_52 : decode cX10_weeks 52 = .ok (.istore_n 2, 1) := by decide +kernel
theorem dX10_weeks_53 : decode cX10_weeks 53 = .ok (.iinc 3 1, 3) := by decide +kernel
theorem dX10_weeks_56 : decode cX10_weeks 56 = .ok (.goto (-34), 3) := by decide +kernel
theorem dX10_weeks_59 : decode cX10_weeks 59 = .ok (.iload_n 2, 1) := by decide +kernel
theorem dX10_weeks_60 : decode cX10_weeks 60 = .ok (.ireturn, 1) := by decide +kernel
theorem dX10_seed_0 : decode cX10_seed 0 = .ok (.aload_n 0, 1) := by decide +kernel
theorem dX10_seed_1 : decode cX10_seed 1 = .ok (.getfield 10, 3) := by decide +kernel
theorem dX10_seed_4 : decode cX10_seed 4 = .ok (.getfield 349, 3) := by decide +kernel
theorem dX10_seed_7 : decode cX10_seed 7 = .ok (.istore_n 2, 1) := by decide +kernel
theorem dX10_seed_8 : decode cX10_seed 8 = .ok (.aload_n 0, 1) := by decide +kernel
theorem dX10_seed_9 : decode cX10_seed 9 = .ok (.getfield 10, 3) := by decide +kernel
theorem dX10_seed_12 : decode cX10_seed 12 = .ok (.iload_n 1, 1) := by decide +kernel
theorem dX10_seed_13 : decode cX10_seed 13 = .ok (.putfield 349, 3) := by decide +kernel
theorem dX10_seed_16 : decode cX10_seed 16 = .ok (.iload_n 2, 1) := by decide +kernel
theorem dX10_seed_17 : decode cX10_seed 17 = .ok (.ireturn, 1) := by decide +kernel
theorem dX10_act_0 : decode cX10_act 0 = .ok (.aload_n 0, 1) := by decide +kernel
theorem dX10_act_1 : decode cX10_act 1 = .ok (.getfield 66, 3) := by decide +kernel
theorem dX10_act_4 : decode cX10_act 4 = .ok (.invokevirtual 352, 3) := by decide +kernel
theorem dX10_act_7 : decode cX10_act 7 = .ok (.aload_n 0, 1) := by decide +kernel
theorem dX10_act_8 : decode cX10_act 8 = .ok (.getfield 10, 3) := by decide +kernel
theorem dX10_act_11 : decode cX10_act 11 = .ok (.iload_n 1, 1) := by decide +kernel
theorem dX10_act_12 : decode cX10_act 12 = .ok (.invokevirtual 129, 3) := by decide +kernel
theorem dX10_act_15 : decode cX10_act 15 = .ok (.astore 4, 2) := by decide +kernel
theorem dX10_act_17 : decode cX10_act 17 = .ok (.aload 4, 2) := by decide +kernel
theorem dX10_act_19 : decode cX10_act 19 = .ok (.ifnull 12, 3) := by decide +kernel
theorem dX10_act_22 : decode cX10_act 22 = .ok (.iload_n 2, 1) := by decide +kernel
theorem dX10_act_23 : decode cX10_act 23 = .ok (.ifCond .lt 8, 3) := by decide +kernel
theorem dX10_act_26 : decode cX10_act 26 = .ok (.iload_n 2, 1) := by decide +kernel
theorem dX10_act_27 : decode cX10_act 27 = .ok (.iconst 2, 1) := by decide +kernel
theorem dX10_act_28 : decode cX10_act 28 = .ok (.if_icmp .le 5, 3) := by decide +kernel
theorem dX10_act_31 : decode cX10_act 31 = .ok (.iconst 0, 1) := by decide +kernel
theorem dX10_act_32 : decode cX10_act 32 = .ok (.ireturn, 1) := by decide +kernel
theorem dX10_act_33 : decode cX10_act 33 = .ok (.aload_n 0, 1) := by decide +kernel
theorem dX10_act_34 : decode cX10_act 34 = .ok (.getfield 66, 3) := by decide +kernel
theorem dX10_act_37 : decode cX10_act 37 = .ok (.aload 4, 2) := by decide +kernel
theorem dX10_act_39 : decode cX10_act 39 = .ok (.iload_n 1, 1) := by decide +kernel
theorem dX10_act_40 : decode cX10_act 40 = .ok (.invokevirtual 353, 3) := by decide +kernel
theorem dX10_act_43 : decode cX10_act 43 = .ok (.aload_n 0, 1) := by decide +kernel
theorem dX10_act_44 : decode cX10_act 44 = .ok (.getfield 66, 3) := by decide +kernel
theorem dX10_act_47 : decode cX10_act 47 = .ok (.iload_n 2, 1) := by decide +kernel
theorem dX10_act_48 : decode cX10_act 48 = .ok (.aload 4, 2) := by decide +kernel
theorem dX10_act_50 : decode cX10_act 50 = .ok (.getfield 212, 3) := by decide +kernel
theorem dX10_act_53 : decode cX10_act 53 = .ok (.iload_n 3, 1) := by decide +kernel
theorem dX10_act_54 : decode cX10_act 54 = .ok (.iconst 0, 1) := by decide +kernel
theorem dX10_act_55 : decode cX10_act 55 = .ok (.invokestatic 357, 3) := by decide +kernel
theorem dX10_act_58 : decode cX10_act 58 = .ok (.ireturn, 1) := by decide +kernel
theorem dX10_trace_0 : decode cX10_trace 0 = .ok (.aload_n 0, 1) := by decide +kernel
theorem dX10_trace_1 : decode cX10_trace 1 = .ok (.getfield 66, 3) := by decide +kernel
theorem dX10_trace_4 : decode cX10_trace 4 = .ok (.iload_n 1, 1) := by decide +kernel
theorem dX10_trace_5 : decode cX10_trace 5 = .ok (.invokevirtual 361, 3) := by decide +kernel
theorem dX10_trace_8 : decode cX10_trace 8 = .ok (.ireturn, 1) := by decide +kernel
theorem dX10_image_0 : decode cX10_image 0 = .ok (.aload_n 0, 1) := by decide +kernel
theorem dX10_image_1 : decode cX10_image 1 = .ok (.getfield 16, 3) := by decide +kernel
theorem dX10_image_4 : decode cX10_image 4 = .ok (.aload_n 0, 1) := by decide +kernel
theorem dX10_image_5 : decode cX10_image 5 = .ok (.getfield 10, 3) := by decide +kernel
theorem dX10_image_8 : decode cX10_image 8 = .ok (.invokevirtual 245, 3) := by decide +kernel
theorem dX10_image_11 : decode cX10_image 11 = .ok (.aload_n 0, 1) := by decide +kernel
theorem dX10_image_12 : decode cX10_image 12 = .ok (.iconst 1, 1) := by decide +kernel
theorem dX10_image_13 : decode cX10_image 13 = .ok (.putfield 80, 3) := by decide +kernel
theorem dX10_image_16 : decode cX10_image 16 = .ok (.aload_n 0, 1) := by decide +kernel
theorem dX10_image_17 : decode cX10_image 17 = .ok (.getfield 16, 3) := by decide +kernel
theorem dX10_image_20 : decode cX10_image 20 = .ok (.getfield 181, 3) := by decide +kernel
theorem dX10_image_23 : decode cX10_image 23 = .ok (.ireturn, 1) := by decide +kernel
theorem dX10_restore_0 : decode cX10_restore 0 = .ok (.aload_n 0, 1) := by decide +kernel
theorem dX10_restore_1 : decode cX10_restore 1 = .ok (.getfield 80, 3) := by decide +kernel
theorem dX10_restore_4 : decode cX10_restore 4 = .ok (.ifCond .ne 10, 3) := by decide +kernel
theorem dX10_restore_7 : decode cX10_restore 7 = .ok (.aload_n 0, 1) := by decide +kernel
theorem dX10_restore_8 : decode cX10_restore 8 = .ok (.bipush (-6), 2) := by decide +kernel
theorem dX10_restore_10 : decode cX10_restore 10 = .ok (.invokevirtual 93, 3) := by decide +kernel
theorem dX10_restore_13 : decode cX10_restore 13 = .ok (.ireturn, 1) := by decide +kernel
theorem dX10_restore_14 : decode cX10_restore 14 = .ok (.aload_n 0, 1) := by decide +kernel
theorem dX10_restore_15 : decode cX10_restore 15 = .ok (.getfield 10, 3) := by decide +kernel
theorem dX10_restore_18 : decode cX10_restore 18 = .ok (.aload_n 0, 1) := by decide +kernel
theorem dX10_restore_19 : decode cX10_restore 19 = .ok (.getfield 16, 3) := by decide +kernel
theorem dX10_restore_22 : decode cX10_restore 22 = .ok (.invokevirtual 245, 3) := by decide +kernel
theorem dX10_restore_25 : decode cX10_restore 25 = .ok (.iconst 0, 1) := by decide +kernel
theorem dX10_restore_26 : decode cX10_restore 26 = .ok (.istore_n 1, 1) := by decide +kernel
theorem dX10_restore_27 : decode cX10_restore 27 = .ok (.iload_n 1, 1) := by decide +kernel
theorem dX10_restore_28 : decode cX10_restore 28 = .ok (.aload_n 0, 1) := by decide +kernel
theorem dX10_restore_29 : decode cX10_restore 29 = .ok (.getfield 72, 3) := by decide +kernel
theorem dX10_restore_32 : decode cX10_restore 32 = .ok (.arraylength, 1) := by decide +kernel
theorem dX10_restore_33 : decode cX10_restore 33 = .ok (.if_icmp .ge 37, 3) := by decide +kernel
theorem dX10_restore_36 : decode cX10_restore 36 = .ok (.aload_n 0, 1) := by decide +kernel
theorem dX10_restore_37 : decode cX10_restore 37 = .ok (.iload_n 1, 1) := by decide +kernel
theorem dX10_restore_38 : decode cX10_restore 38 = .ok (.invokevirtual 89, 3) := by decide +kernel
theorem dX10_restore_41 : decode cX10_restore 41 = .ok (.astore_n 2, 1) := by decide +kernel
theorem dX10_restore_42 : decode cX10_restore 42 = .ok (.aload_n 2, 1) := by decide +kernel
theorem dX10_restore_43 : decode cX10_restore 43 = .ok (.ifnull 21, 3) := by decide +kernel
theorem dX10_restore_46 : decode cX10_restore 46 = .ok (.aload_n 2, 1) := by decide +kernel
theorem dX10_restore_47 : decode cX10_restore 47 = .ok (.getfield 147, 3) := by decide +kernel
theorem dX10_restore_50 : decode cX10_restore 50 = .ok (.aload_n 0, 1) := by decide +kernel
theorem dX10_restore_51 : decode cX10_restore 51 = .ok (.getfield 10, 3) := by decide +kernel
theorem dX10_restore_54 : decode cX10_restore 54 = .ok (.getfield 181, 3) := by decide +kernel
theorem dX10_restore_57 : decode cX10_restore 57 = .ok (.if_icmp .lt 7, 3) := by decide +kernel
theorem dX10_restore_60 : decode cX10_restore 60 = .ok (.aload_n 2, 1) := by decide +kernel
theorem dX10_restore_61 : decode cX10_restore 61 = .ok (.invokevirtual 133, 3) := by decide +kernel
theorem dX10_restore_64 : decode cX10_restore 64 = .ok (.iinc 1 1, 3) := by decide +kernel
theorem dX10_restore_67 : decode cX10_restore 67 = .ok (.goto (-40), 3) := by decide +kernel
theorem dX10_restore_70 : decode cX10_restore 70 = .ok (.aload_n 0, 1) := by decide +kernel
theorem dX10_restore_71 : decode cX10_restore 71 = .ok (.getfield 10, 3) := by decide +kernel
theorem dX10_restore_74 : decode cX10_restore 74 = .ok (.getfield 181, 3) := by decide +kernel
theorem dX10_restore_77 : decode cX10_restore 77 = .ok (.ireturn, 1) := by decide +kernel
theorem dX10_status_0 : decode cX10_status 0 = .ok (.iload_n 1, 1) := by decide +kernel
theorem dX10_status_1 : decode cX10_status 1 = .ok (.bipush 11, 2) := by decide +kernel
theorem dX10_status_3 : decode cX10_status 3 = .ok (.if_icmp .lt 34, 3) := by decide +kernel
theorem dX10_status_6 : decode cX10_status 6 = .ok (.iload_n 1, 1) := by decide +kernel
theorem dX10_status_7 : decode cX10_status 7 = .ok (.bipush 17, 2) := by decide +kernel
theorem dX10_status_9 : decode cX10_status 9 = .ok (.if_icmp .gt 28, 3) := by decide +kernel
theorem dX10_status_12 : decode cX10_status 12 = .ok (.iload_n 1, 1) := by decide +kernel
theorem dX10_status_13 : decode cX10_status 13 = .ok (.bipush 10, 2) := by decide +kernel
theorem dX10_status_15 : decode cX10_status 15 = .ok (.isub, 1) := by decide +kernel
theorem dX10_status_16 : decode cX10_status 16 = .ok (.istore_n 2, 1) := by decide +kernel
theorem dX10_status_17 : decode cX10_status 17 = .ok (.iload_n 2, 1) := by decide +kernel
theorem dX10_status_18 : decode cX10_status 18 = .ok (.aload_n 0, 1) := by decide +kernel
theorem dX10_status_19 : decode cX10_status 19 = .ok (.getfield 76, 3) := by decide +kernel
theorem dX10_status_22 : decode cX10_status 22 = .ok (.arraylength, 1) := by decide +kernel
theorem dX10_status_23 : decode cX10_status 23 = .ok (.if_icmp .ge 12, 3) := by decide +kernel
theorem dX10_status_26 : decode cX10_status 26 = .ok (.aload_n 0, 1) := by decide +kernel
theorem dX10_status_27 : decode cX10_status 27 = .ok (.getfield 76, 3) := by decide +kernel
theorem dX10_status_30 : decode cX10_status 30 = .ok (.iload_n 2, 1) := by decide +kernel
theorem dX10_status_31 : decode cX10_status 31 = .ok (.iaload, 1) := by decide +kernel
theorem dX10_status_32 : decode cX10_status 32 = .ok (.goto 4, 3) := by decide +kernel
theorem dX10_status_35 : decode cX10_status 35 = .ok (.iconst (-1), 1) := by decide +kernel
theorem dX10_status_36 : decode cX10_status 36 = .ok (.ireturn, 1) := by decide +kernel
theorem dX10_status_37 : decode cX10_status 37 = .ok (.iload_n 1, 1) := by decide +kernel
theorem dX10_status_38 : decode cX10_status 38 = .ok (.tableswitch 146 0 10 #[58, 66, 74, 82, 90, 98, 106, 114, 122, 130, 138], 58) := by decide +kernel
theorem dX10_status_96 : decode cX10_status 96 = .ok (.aload_n 0, 1) := by decide +kernel
theorem dX10_status_97 : decode cX10_status 97 = .ok (.getfield 10, 3) := by decide +kernel
theorem dX10_status_100 : decode cX10_status 100 = .ok (.getfield 181, 3) := by decide +kernel
theorem dX10_status_103 : decode cX10_status 103 = .ok (.ireturn, 1) := by decide +kernel
theorem dX10_status_104 : decode cX10_status 104 = .ok (.aload_n 0, 1) := by decide +kernel
theorem dX10_status_105 : decode cX10_status 105 = .ok (.getfield 10, 3) := by decide +kernel
theorem dX10_status_108 : decode cX10_status 108 = .ok (.getfield 175, 3) := by decide +kernel
theorem dX10_status_111 : decode cX10_status 111 = .ok (.ireturn, 1) := by decide +kernel
theorem dX10_status_112 : decode cX10_status 112 = .ok (.aload_n 0, 1) := by decide +kernel
theorem dX10_status_113 : decode cX10_status 113 = .ok (.getfield 10, 3) := by decide +kernel
theorem dX10_status_116 : decode cX10_status 116 = .ok (.getfield 188, 3) := by decide +kernel
theorem dX10_status_119 : decode cX10_status 119 = .ok (.ireturn, 1) := by decide +kernel
theorem dX10_status_120 : decode cX10_status 120 = .ok (.aload_n 0, 1) := by decide +kernel
theorem dX10_status_121 : decode cX10_status 121 = .ok (.getfield 10, 3) := by decide +kernel
theorem dX10_status_124 : decode cX10_status 124 = .ok (.getfield 194, 3) := by decide +kernel
theorem dX10_status_127 : decode cX10_status 127 = .ok (.ireturn, 1) := by decide +kernel
theorem dX10_status_128 : decode cX10_status 128 = .ok (.aload_n 0, 1) := by decide +kernel
theorem dX10_status_129 : decode cX10_status 129 = .ok (.getfield 10, 3) := by decide +kernel
theorem dX10_status_132 : decode cX10_status 132 = .ok (.getfield 206, 3) := by decide +kernel
theorem dX10_status_135 : decode cX10_status 135 = .ok (.ireturn, 1) := by decide +kernel
theorem dX10_status_136 : decode cX10_status 136 = .ok (.aload_n 0, 1) := by decide +kernel
theorem dX10_status_137 : decode cX10_status 137 = .ok (.getfield 10, 3) := by decide +kernel
theorem dX10_status_140 : decode cX10_status 140 = .ok (.getfield 209, 3) := by decide +kernel
theorem dX10_status_143 : decode cX10_status 143 = .ok (.ireturn, 1) := by decide +kernel
theorem dX10_status_144 : decode cX10_status 144 = .ok (.aload_n 0, 1) := by decide +kernel
theorem dX10_status_145 : decode cX10_status 145 = .ok (.getfield 10, 3) := by decide +kernel
theorem dX10_status_148 : decode cX10_status 148 = .ok (.getfield 164, 3) := by decide +kernel
theorem dX10_status_151 : decode cX10_status 151 = .ok (.ireturn, 1) := by decide +kernel
theorem dX10_status_152 : decode cX10_status 152 = .ok (.aload_n 0, 1) := by decide +kernel
theorem dX10_status_153 : decode cX10_status 153 = .ok (.getfield 10, 3) := by decide +kernel
theorem dX10_status_156 : decode cX10_status 156 = .ok (.getfield 324, 3) := by decide +kernel
theorem dX10_status_159 : decode cX10_status 159 = .ok (.ireturn, 1) := by decide +kernel
theorem dX10_status_160 : decode cX10_status 160 = .ok (.aload_n 0, 1) := by decide +kernel
theorem dX10_status_161 : decode cX10_status 161 = .ok (.getfield 10, 3) := by decide +kernel
theorem dX10_status_164 : decode cX10_status 164 = .ok (.getfield 364, 3) := by decide +kernel
theorem dX10_status_167 : decode cX10_status 167 = .ok (.ireturn, 1) := by decide +kernel
theorem dX10_status_168 : decode cX10_status 168 = .ok (.aload_n 0, 1) := by decide +kernel
theorem dX10_status_169 : decode cX10_status 169 = .ok (.getfield 10, 3) := by decide +kernel
theorem dX10_status_172 : decode cX10_status 172 = .ok (.getfield 349, 3) := by decide +kernel
theorem dX10_status_175 : decode cX10_status 175 = .ok (.ireturn, 1) := by decide +kernel
theorem dX10_status_176 : decode cX10_status 176 = .ok (.aload_n 0, 1) := by decide +kernel
theorem dX10_status_177 : decode cX10_status 177 = .ok (.getfield 66, 3) := by decide +kernel
theorem dX10_status_180 : decode cX10_status 180 = .ok (.getfield 367, 3) := by decide +kernel
theorem dX10_status_183 : decode cX10_status 183 = .ok (.ireturn, 1) := by decide +kernel
theorem dX10_status_184 : decode cX10_status 184 = .ok (.iconst (-1), 1) := by decide +kernel
theorem dX10_status_185 : decode cX10_status 185 = .ok (.ireturn, 1) := by decide +kernel
theorem dX10_refuse_0 : decode cX10_refuse 0 = .ok (.iload_n 1, 1) := by decide +kernel
theorem dX10_refuse_1 : decode cX10_refuse 1 = .ok (.ineg, 1) := by decide +kernel
theorem dX10_refuse_2 : decode cX10_refuse 2 = .ok (.istore_n 2, 1) := by decide +kernel
theorem dX10_refuse_3 : decode cX10_refuse 3 = .ok (.iload_n 2, 1) := by decide +kernel
theorem dX10_refuse_4 : decode cX10_refuse 4 = .ok (.ifCond .le 22, 3) := by decide +kernel
theorem dX10_refuse_7 : decode cX10_refuse 7 = .ok (.iload_n 2, 1) := by decide +kernel
theorem dX10_refuse_8 : decode cX10_refuse 8 = .ok (.aload_n 0, 1) := by decide +kernel
theorem dX10_refuse_9 : decode cX10_refuse 9 = .ok (.getfield 76, 3) := by decide +kernel
theorem dX10_refuse_12 : decode cX10_refuse 12 = .ok (.arraylength, 1) := by decide +kernel
theorem dX10_refuse_13 : decode cX10_refuse 13 = .ok (.if_icmp .ge 13, 3) := by decide +kernel
theorem dX10_refuse_16 : decode cX10_refuse 16 = .ok (.aload_n 0, 1) := by decide +kernel
theorem dX10_refuse_17 : decode cX10_refuse 17 = .ok (.getfield 76, 3) := by decide +kernel
theorem dX10_refuse_20 : decode cX10_refuse 20 = .ok (.iload_n 2, 1) := by decide +kernel
theorem dX10_refuse_21 : decode cX10_refuse 21 = .ok (.dup2, 1) := by decide +kernel
theorem dX10_refuse_22 : decode cX10_refuse 22 = .ok (.iaload, 1) := by decide +kernel
theorem dX10_refuse_23 : decode cX10_refuse 23 = .ok (.iconst 1, 1) := by decide +kernel
theorem dX10_refuse_24 : decode cX10_refuse 24 = .ok (.iadd, 1) := by decide +kernel
theorem dX10_refuse_25 : decode cX10_refuse 25 = .ok (.iastore, 1) := by decide +kernel
theorem dX10_refuse_26 : decode cX10_refuse 26 = .ok (.iload_n 1, 1) := by decide +kernel
theorem dX10_refuse_27 : decode cX10_refuse 27 = .ok (.ireturn, 1) := by decide +kernel
theorem dX10_shelfAt_0 : decode cX10_shelfAt 0 = .ok (.iload_n 1, 1) := by decide +kernel
theorem dX10_shelfAt_1 : decode cX10_shelfAt 1 = .ok (.ifCond .lt 21, 3) := by decide +kernel
theorem dX10_shelfAt_4 : decode cX10_shelfAt 4 = .ok (.iload_n 1, 1) := by decide +kernel
theorem dX10_shelfAt_5 : decode cX10_shelfAt 5 = .ok (.aload_n 0, 1) := by decide +kernel
theorem dX10_shelfAt_6 : decode cX10_shelfAt 6 = .ok (.getfield 72, 3) := by decide +kernel
theorem dX10_shelfAt_9 : decode cX10_shelfAt 9 = .ok (.arraylength, 1) := by decide +kernel
theorem dX10_shelfAt_10 : decode cX10_shelfAt 10 = .ok (.if_icmp .ge 12, 3) := by decide +kernel
theorem dX10_shelfAt_13 : decode cX10_shelfAt 13 = .ok (.aload_n 0, 1) := by decide +kernel
theorem dX10_shelfAt_14 : decode cX10_shelfAt 14 = .ok (.getfield 72, 3) := by decide +kernel
theorem dX10_shelfAt_17 : decode cX10_shelfAt 17 = .ok (.iload_n 1, 1) := by decide +kernel
theorem dX10_shelfAt_18 : decode cX10_shelfAt 18 = .ok (.aaload, 1) := by decide +kernel
theorem dX10_shelfAt_19 : decode cX10_shelfAt 19 = .ok (.goto 4, 3) := by decide +kernel
theorem dX10_shelfAt_22 : decode cX10_shelfAt 22 = .ok (.aconst_null, 1) := by decide +kernel
theorem dX10_shelfAt_23 : decode cX10_shelfAt 23 = .ok (.areturn, 1) := by decide +kernel
theorem dX10_rowRefusal_0 : decode cX10_rowRefusal 0 = .ok (.aload_n 0, 1) := by decide +kernel
theorem dX10_rowRefusal_1 : decode cX10_rowRefusal 1 = .ok (.ifnonnull 5, 3) := by decide +kernel
theorem dX10_rowRefusal_4 : decode cX10_rowRefusal 4 = .ok (.iconst (-1), 1) := by decide +kernel
theorem dX10_rowRefusal_5 : decode cX10_rowRefusal 5 = .ok (.ireturn, 1) := by decide +kernel
theorem dX10_rowRefusal_6 : decode cX10_rowRefusal 6 = .ok (.aload_n 0, 1) := by decide +kernel
theorem dX10_rowRefusal_7 : decode cX10_rowRefusal 7 = .ok (.invokevirtual 140, 3) := by decide +kernel
theorem dX10_rowRefusal_10 : decode cX10_rowRefusal 10 = .ok (.ifCond .eq 5, 3) := by decide +kernel
theorem dX10_rowRefusal_13 : decode cX10_rowRefusal 13 = .ok (.iconst 0, 1) := by decide +kernel
theorem dX10_rowRefusal_14 : decode cX10_rowRefusal 14 = .ok (.ireturn, 1) := by decide +kernel
theorem dX10_rowRefusal_15 : decode cX10_rowRefusal 15 = .ok (.aload_n 0, 1) := by decide +kernel
theorem dX10_rowRefusal_16 : decode cX10_rowRefusal 16 = .ok (.getfield 147, 3) := by decide +kernel
theorem dX10_rowRefusal_19 : decode cX10_rowRefusal 19 = .ok (.iconst (-1), 1) := by decide +kernel
theorem dX10_rowRefusal_20 : decode cX10_rowRefusal 20 = .ok (.if_icmp .ne 8, 3) := by decide +kernel
theorem dX10_rowRefusal_23 : decode cX10_rowRefusal 23 = .ok (.bipush (-3), 2) := by decide +kernel
theorem dX10_rowRefusal_25 : decode cX10_rowRefusal 25 = .ok (.goto 5, 3) := by decide +kernel
theorem dX10_rowRefusal_28 : decode cX10_rowRefusal 28 = .ok (.bipush (-2), 2) := by decide +kernel
theorem dX10_rowRefusal_30 : decode cX10_rowRefusal 30 = .ok (.ireturn, 1) := by decide +kernel
theorem dX10_copyRefusal_0 : decode cX10_copyRefusal 0 = .ok (.aload_n 0, 1) := by decide +kernel
theorem dX10_copyRefusal_1 : decode cX10_copyRefusal 1 = .ok (.invokestatic 101, 3) := by decide +kernel
theorem dX10_copyRefusal_4 : decode cX10_copyRefusal 4 = .ok (.istore_n 2, 1) := by decide +kernel
theorem dX10_copyRefusal_5 : decode cX10_copyRefusal 5 = .ok (.aload_n 1, 1) := by decide +kernel
theorem dX10_copyRefusal_6 : decode cX10_copyRefusal 6 = .ok (.invokestatic 101, 3) := by decide +kernel
theorem dX10_copyRefusal_9 : decode cX10_copyRefusal 9 = .ok (.istore_n 3, 1) := by decide +kernel
theorem dX10_copyRefusal_10 : decode cX10_copyRefusal 10 = .ok (.iload_n 2, 1) := by decide +kernel
theorem dX10_copyRefusal_11 : decode cX10_copyRefusal 11 = .ok (.iconst (-1), 1) := by decide +kernel
theorem dX10_copyRefusal_12 : decode cX10_copyRefusal 12 = .ok (.if_icmp .eq 16, 3) := by decide +kernel
theorem dX10_copyRefusal_15 : decode cX10_copyRefusal 15 = .ok (.iload_n 3, 1) := by decide +kernel
theorem dX10_copyRefusal_16 : decode cX10_copyRefusal 16 = .ok (.iconst (-1), 1) := by decide +kernel
theorem dX10_copyRefusal_17 : decode cX10_copyRefusal 17 = .ok (.if_icmp .eq 11, 3) := by decide +kernel
theorem dX10_copyRefusal_20 : decode cX10_copyRefusal 20 = .ok (.aload_n 0, 1) := by decide +kernel
theorem dX10_copyRefusal_21 : decode cX10_copyRefusal 21 = .ok (.ifnull 7, 3) := by decide +kernel
theorem dX10_copyRefusal_24 : decode cX10_copyRefusal 24 = .ok (.aload_n 1, 1) := by decide +kernel
theorem dX10_copyRefusal_25 : decode cX10_copyRefusal 25 = .ok (.ifnonnull 5, 3) := by decide +kernel
theorem dX10_copyRefusal_28 : decode cX10_copyRefusal 28 = .ok (.iconst (-1), 1) := by decide +kernel
theorem dX10_copyRefusal_29 : decode cX10_copyRefusal 29 = .ok (.ireturn, 1) := by decide +kernel
theorem dX10_copyRefusal_30 : decode cX10_copyRefusal 30 = .ok (.iload_n 2, 1) := by decide +kernel
theorem dX10_copyRefusal_31 : decode cX10_copyRefusal 31 = .ok (.bipush (-2), 2) := by decide +kernel
theorem dX10_copyRefusal_33 : decode cX10_copyRefusal 33 = .ok (.if_icmp .eq 9, 3) := by decide +kernel
theorem dX10_copyRefusal_36 : decode cX10_copyRefusal 36 = .ok (.iload_n 3, 1) := by decide +kernel
theorem dX10_copyRefusal_37 : decode cX10_copyRefusal 37 = .ok (.bipush (-2), 2) := by decide +kernel
theorem dX10_copyRefusal_39 : decode cX10_copyRefusal 39 = .ok (.if_icmp .ne 6, 3) := by decide +kernel
theorem dX10_copyRefusal_42 : decode cX10_copyRefusal 42 = .ok (.bipush (-2), 2) := by decide +kernel
theorem dX10_copyRefusal_44 : decode cX10_copyRefusal 44 = .ok (.ireturn, 1) := by decide +kernel
theorem dX10_copyRefusal_45 : decode cX10_copyRefusal 45 = .ok (.iload_n 2, 1) := by decide +kernel
theorem dX10_copyRefusal_46 : decode cX10_copyRefusal 46 = .ok (.bipush (-3), 2) := by decide +kernel
theorem dX10_copyRefusal_48 : decode cX10_copyRefusal 48 = .ok (.if_icmp .eq 9, 3) := by decide +kernel
theorem dX10_copyRefusal_51 : decode cX10_copyRefusal 51 = .ok (.iload_n 3, 1) := by decide +kernel
theorem dX10_copyRefusal_52 : decode cX10_copyRefusal 52 = .ok (.bipush (-3), 2) := by decide +kernel
theorem dX10_copyRefusal_54 : decode cX10_copyRefusal 54 = .ok (.if_icmp .ne 6, 3) := by decide +kernel
theorem dX10_copyRefusal_57 : decode cX10_copyRefusal 57 = .ok (.bipush (-3), 2) := by decide +kernel
theorem dX10_copyRefusal_59 : decode cX10_copyRefusal 59 = .ok (.ireturn, 1) := by decide +kernel
theorem dX10_copyRefusal_60 : decode cX10_copyRefusal 60 = .ok (.aload_n 0, 1) := by decide +kernel
theorem dX10_copyRefusal_61 : decode cX10_copyRefusal 61 = .ok (.getfield 144, 3) := by decide +kernel
theorem dX10_copyRefusal_64 : decode cX10_copyRefusal 64 = .ok (.aload_n 1, 1) := by decide +kernel
theorem dX10_copyRefusal_65 : decode cX10_copyRefusal 65 = .ok (.getfield 144, 3) := by decide +kernel
theorem dX10_copyRefusal_68 : decode cX10_copyRefusal 68 = .ok (.if_icmp .ne 7, 3) := by decide +kernel
theorem dX10_copyRefusal_71 : decode cX10_copyRefusal 71 = .ok (.iconst 0, 1) := by decide +kernel
theorem dX10_copyRefusal_72 : decode cX10_copyRefusal 72 = .ok (.goto 5, 3) := by decide +kernel
theorem dX10_copyRefusal_75 : decode cX10_copyRefusal 75 = .ok (.bipush (-2), 2) := by decide +kernel
theorem dX10_copyRefusal_77 : decode cX10_copyRefusal 77 = .ok (.ireturn, 1) := by decide +kernel
theorem dX10_toldRefusal_0 : decode cX10_toldRefusal 0 = .ok (.aload_n 0, 1) := by decide +kernel
theorem dX10_toldRefusal_1 : decode cX10_toldRefusal 1 = .ok (.invokestatic 101, 3) := by decide +kernel
theorem dX10_toldRefusal_4 : decode cX10_toldRefusal 4 = .ok (.istore_n 3, 1) := by decide +kernel
theorem dX10_toldRefusal_5 : decode cX10_toldRefusal 5 = .ok (.iload_n 3, 1) := by decide +kernel
theorem dX10_toldRefusal_6 : decode cX10_toldRefusal 6 = .ok (.ifCond .ne 7, 3) := by decide +kernel
theorem dX10_toldRefusal_9 : decode cX10_toldRefusal 9 = .ok (.aload_n 0, 1) := by decide +kernel
theorem dX10_toldRefusal_10 : decode cX10_toldRefusal 10 = .ok (.ifnonnull 5, 3) := by decide +kernel
theorem dX10_toldRefusal_13 : decode cX10_toldRefusal 13 = .ok (.iload_n 3, 1) := by decide +kernel
theorem dX10_toldRefusal_14 : decode cX10_toldRefusal 14 = .ok (.ireturn, 1) := by decide +kernel
theorem dX10_toldRefusal_15 : decode cX10_toldRefusal 15 = .ok (.iload_n 1, 1) := by decide +kernel
theorem dX10_toldRefusal_16 : decode cX10_toldRefusal 16 = .ok (.ifCond .ge 6, 3) := by decide +kernel
theorem dX10_toldRefusal_19 : decode cX10_toldRefusal 19 = .ok (.bipush (-4), 2) := by decide +kernel
theorem dX10_toldRefusal_21 : decode cX10_toldRefusal 21 = .ok (.ireturn, 1) := by decide +kernel
theorem dX10_toldRefusal_22 : decode cX10_toldRefusal 22 = .ok (.iload_n 1, 1) := by decide +kernel
theorem dX10_toldRefusal_23 : decode cX10_toldRefusal 23 = .ok (.i2l, 1) := by decide +kernel
theorem dX10_toldRefusal_24 : decode cX10_toldRefusal 24 = .ok (.iload_n 2, 1) := by decide +kernel
theorem dX10_toldRefusal_25 : decode cX10_toldRefusal 25 = .ok (.i2l, 1) := by decide +kernel
theorem dX10_toldRefusal_26 : decode cX10_toldRefusal 26 = .ok (.lmul, 1) := by decide +kernel
theorem dX10_toldRefusal_27 : decode cX10_toldRefusal 27 = .ok (.aload_n 0, 1) := by decide +kernel
theorem dX10_toldRefusal_28 : decode cX10_toldRefusal 28 = .ok (.getfield 370, 3) := by decide +kernel
theorem dX10_toldRefusal_31 : decode cX10_toldRefusal 31 = .ok (.i2l, 1) := by decide +kernel
theorem dX10_toldRefusal_32 : decode cX10_toldRefusal 32 = .ok (.lcmp, 1) := by decide +kernel
theorem dX10_toldRefusal_33 : decode cX10_toldRefusal 33 = .ok (.ifCond .le 6, 3) := by decide +kernel
theorem dX10_toldRefusal_36 : decode cX10_toldRefusal 36 = .ok (.bipush (-5), 2) := by decide +kernel
theorem dX10_toldRefusal_38 : decode cX10_toldRefusal 38 = .ok (.ireturn, 1) := by decide +kernel
theorem dX10_toldRefusal_39 : decode cX10_toldRefusal 39 = .ok (.iload_n 1, 1) := by decide +kernel
theorem dX10_toldRefusal_40 : decode cX10_toldRefusal 40 = .ok (.bipush 40, 2) := by decide +kernel
theorem dX10_toldRefusal_42 : decode cX10_toldRefusal 42 = .ok (.if_icmp .le 8, 3) := by decide +kernel
theorem dX10_toldRefusal_45 : decode cX10_toldRefusal 45 = .ok (.bipush (-6), 2) := by decide +kernel
theorem dX10_toldRefusal_47 : decode cX10_toldRefusal 47 = .ok (.goto 4, 3) := by decide +kernel
theorem dX10_toldRefusal_50 : decode cX10_toldRefusal 50 = .ok (.iconst 0, 1) := by decide +kernel
theorem dX10_toldRefusal_51 : decode cX10_toldRefusal 51 = .ok (.ireturn, 1) := by decide +kernel
theorem dX10_pairsRefusal_0 : decode cX10_pairsRefusal 0 = .ok (.aload_n 1, 1) := by decide +kernel
theorem dX10_pairsRefusal_1 : decode cX10_pairsRefusal 1 = .ok (.iload_n 2, 1) := by decide +kernel
theorem dX10_pairsRefusal_2 : decode cX10_pairsRefusal 2 = .ok (.iconst 2, 1) := by decide +kernel
theorem dX10_pairsRefusal_3 : decode cX10_pairsRefusal 3 = .ok (.invokestatic 330, 3) := by decide +kernel
theorem dX10_pairsRefusal_6 : decode cX10_pairsRefusal 6 = .ok (.istore_n 3, 1) := by decide +kernel
theorem dX10_pairsRefusal_7 : decode cX10_pairsRefusal 7 = .ok (.iload_n 3, 1) := by decide +kernel
theorem dX10_pairsRefusal_8 : decode cX10_pairsRefusal 8 = .ok (.ifCond .ne 7, 3) := by decide +kernel
theorem dX10_pairsRefusal_11 : decode cX10_pairsRefusal 11 = .ok (.aload_n 1, 1) := by decide +kernel
theorem dX10_pairsRefusal_12 : decode cX10_pairsRefusal 12 = .ok (.ifnonnull 5, 3) := by decide +kernel
theorem dX10_pairsRefusal_15 : decode cX10_pairsRefusal 15 = .ok (.iload_n 3, 1) := by decide +kernel
theorem dX10_pairsRefusal_16 : decode cX10_pairsRefusal 16 = .ok (.ireturn, 1) := by decide +kernel
theorem dX10_pairsRefusal_17 : decode cX10_pairsRefusal 17 = .ok (.iconst 0, 1) := by decide +kernel
theorem dX10_pairsRefusal_18 : decode cX10_pairsRefusal 18 = .ok (.istore 4, 2) := by decide +kernel
theorem dX10_pairsRefusal_20 : decode cX10_pairsRefusal 20 = .ok (.iload 4, 2) := by decide +kernel
theorem dX10_pairsRefusal_22 : decode cX10_pairsRefusal 22 = .ok (.iload_n 2, 1) := by decide +kernel
theorem dX10_pairsRefusal_23 : decode cX10_pairsRefusal 23 = .ok (.if_icmp .ge 52, 3) := by decide +kernel
theorem dX10_pairsRefusal_26 : decode cX10_pairsRefusal 26 = .ok (.aload_n 0, 1) := by decide +kernel
theorem dX10_pairsRefusal_27 : decode cX10_pairsRefusal 27 = .ok (.getfield 10, 3) := by decide +kernel
theorem dX10_pairsRefusal_30 : decode cX10_pairsRefusal 30 = .ok (.aload_n 1, 1) := by decide +kernel
theorem dX10_pairsRefusal_31 : decode cX10_pairsRefusal 31 = .ok (.iconst 2, 1) := by decide +kernel
theorem dX10_pairsRefusal_32 : decode cX10_pairsRefusal 32 = .ok (.iload 4, 2) := by decide +kernel
theorem dX10_pairsRefusal_34 : decode cX10_pairsRefusal 34 = .ok (.imul, 1) := by decide +kernel
theorem dX10_pairsRefusal_35 : decode cX10_pairsRefusal 35 = .ok (.invokevirtual 373, 3) := by decide +kernel
theorem dX10_pairsRefusal_38 : decode cX10_pairsRefusal 38 = .ok (.invokevirtual 178, 3) := by decide +kernel
theorem dX10_pairsRefusal_41 : decode cX10_pairsRefusal 41 = .ok (.ifCond .eq 25, 3) := by decide +kernel
theorem dX10_pairsRefusal_44 : decode cX10_pairsRefusal 44 = .ok (.aload_n 0, 1) := by decide +kernel
theorem dX10_pairsRefusal_45 : decode cX10_pairsRefusal 45 = .ok (.getfield 10, 3) := by decide +kernel
theorem dX10_pairsRefusal_48 : decode cX10_pairsRefusal 48 = .ok (.bipush 12, 2) := by decide +kernel
theorem dX10_pairsRefusal_50 : decode cX10_pairsRefusal 50 = .ok (.aload_n 1, 1) := by decide +kernel
theorem dX10_pairsRefusal_51 : decode cX10_pairsRefusal 51 = .ok (.iconst 2, 1) := by decide +kernel
theorem dX10_pairsRefusal_52 : decode cX10_pairsRefusal 52 = .ok (.iload 4, 2) := by decide +kernel
theorem dX10_pairsRefusal_54 : decode cX10_pairsRefusal 54 = .ok (.imul, 1) := by decide +kernel
theorem dX10_pairsRefusal_55 : decode cX10_pairsRefusal 55 = .ok (.iconst 1, 1) := by decide +kernel
theorem dX10_pairsRefusal_56 : decode cX10_pairsRefusal 56 = .ok (.iadd, 1) := by decide +kernel
theorem dX10_pairsRefusal_57 : decode cX10_pairsRefusal 57 = .ok (.invokevirtual 373, 3) := by decide +kernel
theorem dX10_pairsRefusal_60 : decode cX10_pairsRefusal 60 = .ok (.invokevirtual 150, 3) := by decide +kernel
theorem dX10_pairsRefusal_63 : decode cX10_pairsRefusal 63 = .ok (.ifCond .ne 6, 3) := by decide +kernel
theorem dX10_pairsRefusal_66 : decode cX10_pairsRefusal 66 = .ok (.bipush (-6), 2) := by decide +kernel
theorem dX10_pairsRefusal_68 : decode cX10_pairsRefusal 68 = .ok (.ireturn, 1) := by decide +kernel
theorem dX10_pairsRefusal_69 : decode cX10_pairsRefusal 69 = .ok (.iinc 4 1, 3) := by decide +kernel
theorem dX10_pairsRefusal_72 : decode cX10_pairsRefusal 72 = .ok (.goto (-52), 3) := by decide +kernel
theorem dX10_pairsRefusal_75 : decode cX10_pairsRefusal 75 = .ok (.iconst 0, 1) := by decide +kernel
theorem dX10_pairsRefusal_76 : decode cX10_pairsRefusal 76 = .ok (.ireturn, 1) := by decide +kernel
theorem dX10_firstWrong_0 : decode cX10_firstWrong 0 = .ok (.aload_n 1, 1) := by decide +kernel
theorem dX10_firstWrong_1 : decode cX10_firstWrong 1 = .ok (.ifnonnull 5, 3) := by decide +kernel
theorem dX10_firstWrong_4 : decode cX10_firstWrong 4 = .ok (.iconst (-1), 1) := by decide +kernel
theorem dX10_firstWrong_5 : decode cX10_firstWrong 5 = .ok (.ireturn, 1) := by decide +kernel
theorem dX10_firstWrong_6 : decode cX10_firstWrong 6 = .ok (.iconst 0, 1) := by decide +kernel
theorem dX10_firstWrong_7 : decode cX10_firstWrong 7 = .ok (.istore_n 3, 1) := by decide +kernel
theorem dX10_firstWrong_8 : decode cX10_firstWrong 8 = .ok (.iload_n 3, 1) := by decide +kernel
theorem dX10_firstWrong_9 : decode cX10_firstWrong 9 = .ok (.iload_n 2, 1) := by decide +kernel
theorem dX10_firstWrong_10 : decode cX10_firstWrong 10 = .ok (.if_icmp .ge 50, 3) := by decide +kernel
theorem dX10_firstWrong_13 : decode cX10_firstWrong 13 = .ok (.aload_n 1, 1) := by decide +kernel
theorem dX10_firstWrong_14 : decode cX10_firstWrong 14 = .ok (.iload_n 3, 1) := by decide +kernel
theorem dX10_firstWrong_15 : decode cX10_firstWrong 15 = .ok (.invokevirtual 373, 3) := by decide +kernel
theorem dX10_firstWrong_18 : decode cX10_firstWrong 18 = .ok (.istore 4, 2) := by decide +kernel
theorem dX10_firstWrong_20 : decode cX10_firstWrong 20 = .ok (.aload_n 0, 1) := by decide +kernel
theorem dX10_firstWrong_21 : decode cX10_firstWrong 21 = .ok (.getfield 10, 3) := by decide +kernel
theorem dX10_firstWrong_24 : decode cX10_firstWrong 24 = .ok (.iload 4, 2) := by decide +kernel
theorem dX10_firstWrong_26 : decode cX10_firstWrong 26 = .ok (.invokevirtual 178, 3) := by decide +kernel
theorem dX10_firstWrong_29 : decode cX10_firstWrong 29 = .ok (.ifCond .eq 23, 3) := by decide +kernel
theorem dX10_firstWrong_32 : decode cX10_firstWrong 32 = .ok (.iload_n 3, 1) := by decide +kernel
theorem dX10_firstWrong_33 : decode cX10_firstWrong 33 = .ok (.ifCond .le 21, 3) := by decide +kernel
theorem dX10_firstWrong_36 : decode cX10_firstWrong 36 = .ok (.aload_n 1, 1) := by decide +kernel
theorem dX10_firstWrong_37 : decode cX10_firstWrong 37 = .ok (.iload_n 3, 1) := by decide +kernel
theorem dX10_firstWrong_38 : decode cX10_firstWrong 38 = .ok (.iconst 1, 1) := by decide +kernel
theorem dX10_firstWrong_39 : decode cX10_firstWrong 39 = .ok (.isub, 1) := by decide +kernel
theorem dX10_firstWrong_40 : decode cX10_firstWrong 40 = .ok (.invokevirtual 373, 3) := by decide +kernel
theorem dX10_firstWrong_43 : decode cX10_firstWrong 43 = .ok (.iload 4, 2) := by decide +kernel
theorem dX10_firstWrong_45 : decode cX10_firstWrong 45 = .ok (.invokestatic 258, 3) := by decide +kernel
theorem dX10_firstWrong_48 : decode cX10_firstWrong 48 = .ok (.iconst 1, 1) := by decide +kernel
theorem dX10_firstWrong_49 : decode cX10_firstWrong 49 = .ok (.if_icmp .le 5, 3) := by decide +kernel
theorem dX10_firstWrong_52 : decode cX10_firstWrong 52 = .ok (.iload_n 3, 1) := by decide +kernel
theorem dX10_firstWrong_53 : decode cX10_firstWrong 53 = .ok (.ireturn, 1) := by decide +kernel
theorem dX10_firstWrong_54 : decode cX10_firstWrong 54 = .ok (.iinc 3 1, 3) := by decide +kernel
theorem dX10_firstWrong_57 : decode cX10_firstWrong 57 = .ok (.goto (-49), 3) := by decide +kernel
theorem dX10_firstWrong_60 : decode cX10_firstWrong 60 = .ok (.iconst (-1), 1) := by decide +kernel
theorem dX10_firstWrong_61 : decode cX10_firstWrong 61 = .ok (.ireturn, 1) := by decide +kernel
theorem dX10_hopsOf_0 : decode cX10_hopsOf 0 = .ok (.aload_n 1, 1) := by decide +kernel
theorem dX10_hopsOf_1 : decode cX10_hopsOf 1 = .ok (.ifnonnull 5, 3) := by decide +kernel
theorem dX10_hopsOf_4 : decode cX10_hopsOf 4 = .ok (.iconst 0, 1) := by decide +kernel
theorem dX10_hopsOf_5 : decode cX10_hopsOf 5 = .ok (.ireturn, 1) := by decide +kernel
theorem dX10_hopsOf_6 : decode cX10_hopsOf 6 = .ok (.iconst 0, 1) := by decide +kernel
theorem dX10_hopsOf_7 : decode cX10_hopsOf 7 = .ok (.istore 4, 2) := by decide +kernel
theorem dX10_hopsOf_9 : decode cX10_hopsOf 9 = .ok (.iconst 0, 1) := by decide +kernel
theorem dX10_hopsOf_10 : decode cX10_hopsOf 10 = .ok (.istore 5, 2) := by decide +kernel
theorem dX10_hopsOf_12 : decode cX10_hopsOf 12 = .ok (.iconst 0, 1) := by decide +kernel
theorem dX10_hopsOf_13 : decode cX10_hopsOf 13 = .ok (.istore 6, 2) := by decide +kernel
theorem dX10_hopsOf_15 : decode cX10_hopsOf 15 = .ok (.iload 6, 2) := by decide +kernel
theorem dX10_hopsOf_17 : decode cX10_hopsOf 17 = .ok (.iload_n 2, 1) := by decide +kernel
theorem dX10_hopsOf_18 : decode cX10_hopsOf 18 = .ok (.if_icmp .ge 41, 3) := by decide +kernel
theorem dX10_hopsOf_21 : decode cX10_hopsOf 21 = .ok (.aload_n 0, 1) := by decide +kernel
theorem dX10_hopsOf_22 : decode cX10_hopsOf 22 = .ok (.getfield 27, 3) := by decide +kernel
theorem dX10_hopsOf_25 : decode cX10_hopsOf 25 = .ok (.iload 4, 2) := by decide +kernel
theorem dX10_hopsOf_27 : decode cX10_hopsOf 27 = .ok (.aload_n 1, 1) := by decide +kernel
theorem dX10_hopsOf_28 : decode cX10_hopsOf 28 = .ok (.iload 6, 2) := by decide +kernel
theorem dX10_hopsOf_30 : decode cX10_hopsOf 30 = .ok (.invokevirtual 373, 3) := by decide +kernel
theorem dX10_hopsOf_33 : decode cX10_hopsOf 33 = .ok (.iload_n 3, 1) := by decide +kernel
theorem dX10_hopsOf_34 : decode cX10_hopsOf 34 = .ok (.invokevirtual 376, 3) := by decide +kernel
theorem dX10_hopsOf_37 : decode cX10_hopsOf 37 = .ok (.istore 7, 2) := by decide +kernel
theorem dX10_hopsOf_39 : decode cX10_hopsOf 39 = .ok (.iload 7, 2) := by decide +kernel
theorem dX10_hopsOf_41 : decode cX10_hopsOf 41 = .ok (.iload 4, 2) := by decide +kernel
theorem dX10_hopsOf_43 : decode cX10_hopsOf 43 = .ok (.if_icmp .eq 6, 3) := by decide +kernel
theorem dX10_hopsOf_46 : decode cX10_hopsOf 46 = .ok (.iinc 5 1, 3) := by decide +kernel
theorem dX10_hopsOf_49 : decode cX10_hopsOf 49 = .ok (.iload 7, 2) := by decide +kernel
theorem dX10_hopsOf_51 : decode cX10_hopsOf 51 = .ok (.istore 4, 2) := by decide +kernel
theorem dX10_hopsOf_53 : decode cX10_hopsOf 53 = .ok (.iinc 6 1, 3) := by decide +kernel
theorem dX10_hopsOf_56 : decode cX10_hopsOf 56 = .ok (.goto (-41), 3) := by decide +kernel
theorem dX10_hopsOf_59 : decode cX10_hopsOf 59 = .ok (.iload 5, 2) := by decide +kernel
theorem dX10_hopsOf_61 : decode cX10_hopsOf 61 = .ok (.ireturn, 1) := by decide +kernel
theorem dX10_calmest_0 : decode cX10_calmest 0 = .ok (.iconst 0, 1) := by decide +kernel
theorem dX10_calmest_1 : decode cX10_calmest 1 = .ok (.istore_n 3, 1) := by decide +kernel
theorem dX10_calmest_2 : decode cX10_calmest 2 = .ok (.aload_n 0, 1) := by decide +kernel
theorem dX10_calmest_3 : decode cX10_calmest 3 = .ok (.aload_n 1, 1) := by decide +kernel
theorem dX10_calmest_4 : decode cX10_calmest 4 = .ok (.iload_n 2, 1) := by decide +kernel
theorem dX10_calmest_5 : decode cX10_calmest 5 = .ok (.iconst 0, 1) := by decide +kernel
theorem dX10_calmest_6 : decode cX10_calmest 6 = .ok (.invokevirtual 340, 3) := by decide +kernel
theorem dX10_calmest_9 : decode cX10_calmest 9 = .ok (.istore 4, 2) := by decide +kernel
theorem dX10_calmest_11 : decode cX10_calmest 11 = .ok (.iconst 1, 1) := by decide +kernel
theorem dX10_calmest_12 : decode cX10_calmest 12 = .ok (.istore 5, 2) := by decide +kernel
theorem dX10_calmest_14 : decode cX10_calmest 14 = .ok (.iload 5, 2) := by decide +kernel
theorem dX10_calmest_16 : decode cX10_calmest 16 = .ok (.iconst 4, 1) := by decide +kernel
theorem dX10_calmest_17 : decode cX10_calmest 17 = .ok (.if_icmp .gt 33, 3) := by decide +kernel
theorem dX10_calmest_20 : decode cX10_calmest 20 = .ok (.aload_n 0, 1) := by decide +kernel
theorem dX10_calmest_21 : decode cX10_calmest 21 = .ok (.aload_n 1, 1) := by decide +kernel
theorem dX10_calmest_22 : decode cX10_calmest 22 = .ok (.iload_n 2, 1) := by decide +kernel
theorem dX10_calmest_23 : decode cX10_calmest 23 = .ok (.iload 5, 2) := by decide +kernel
theorem dX10_calmest_25 : decode cX10_calmest 25 = .ok (.invokevirtual 340, 3) := by decide +kernel
theorem dX10_calmest_28 : decode cX10_calmest 28 = .ok (.istore 6, 2) := by decide +kernel
theorem dX10_calmest_30 : decode cX10_calmest 30 = .ok (.iload 6, 2) := by decide +kernel
theorem dX10_calmest_32 : decode cX10_calmest 32 = .ok (.iload 4, 2) := by decide +kernel
theorem dX10_calmest_34 : decode cX10_calmest 34 = .ok (.if_icmp .gt 10, 3) := by decide +kernel
theorem dX10_calmest_37 : decode cX10_calmest 37 = .ok (.iload 6, 2) := by decide +kernel
theorem dX10_calmest_39 : decode cX10_calmest 39 = .ok (.istore 4, 2) := by decide +kernel
theorem dX10_calmest_41 : decode cX10_calmest 41 = .ok (.iload 5, 2) := by decide +kernel
theorem dX10_calmest_43 : decode cX10_calmest 43 = .ok (.istore_n 3, 1) := by decide +kernel
theorem dX10_calmest_44 : decode cX10_calmest 44 = .ok (.iinc 5 1, 3) := by decide +kernel
theorem dX10_calmest_47 : decode cX10_calmest 47 = .ok (.goto (-33), 3) := by decide +kernel
theorem dX10_calmest_50 : decode cX10_calmest 50 = .ok (.iload_n 3, 1) := by decide +kernel
theorem dX10_calmest_51 : decode cX10_calmest 51 = .ok (.ireturn, 1) := by decide +kernel
theorem dX10_passMinute_0 : decode cX10_passMinute 0 = .ok (.aload_n 0, 1) := by decide +kernel
theorem dX10_passMinute_1 : decode cX10_passMinute 1 = .ok (.getfield 10, 3) := by decide +kernel
theorem dX10_passMinute_4 : decode cX10_passMinute 4 = .ok (.aload_n 0, 1) := by decide +kernel
theorem dX10_passMinute_5 : decode cX10_passMinute 5 = .ok (.getfield 10, 3) := by decide +kernel
theorem dX10_passMinute_8 : decode cX10_passMinute 8 = .ok (.getfield 164, 3) := by decide +kernel
theorem dX10_passMinute_11 : decode cX10_passMinute 11 = .ok (.iconst 1, 1) := by decide +kernel
theorem dX10_passMinute_12 : decode cX10_passMinute 12 = .ok (.iadd, 1) := by decide +kernel
theorem dX10_passMinute_13 : decode cX10_passMinute 13 = .ok (.bipush 60, 2) := by decide +kernel
theorem dX10_passMinute_15 : decode cX10_passMinute 15 = .ok (.irem, 1) := by decide +kernel
theorem dX10_passMinute_16 : decode cX10_passMinute 16 = .ok (.putfield 164, 3) := by decide +kernel
theorem dX10_passMinute_19 : decode cX10_passMinute 19 = .ok (.aload_n 0, 1) := by decide +kernel
theorem dX10_passMinute_20 : decode cX10_passMinute 20 = .ok (.getfield 27, 3) := by decide +kernel
theorem dX10_passMinute_23 : decode cX10_passMinute 23 = .ok (.invokevirtual 379, 3) := by decide +kernel
theorem dX10_passMinute_26 : decode cX10_passMinute 26 = .ok (.iconst 0, 1) := by decide +kernel
theorem dX10_passMinute_27 : decode cX10_passMinute 27 = .ok (.istore_n 2, 1) := by decide +kernel
theorem dX10_passMinute_28 : decode cX10_passMinute 28 = .ok (.iload_n 2, 1) := by decide +kernel
theorem dX10_passMinute_29 : decode cX10_passMinute 29 = .ok (.aload_n 0, 1) := by decide +kernel
theorem dX10_passMinute_30 : decode cX10_passMinute 30 = .ok (.getfield 10, 3) := by decide +kernel
theorem dX10_passMinute_33 : decode cX10_passMinute 33 = .ok (.getfield 194, 3) := by decide +kernel
theorem dX10_passMinute_36 : decode cX10_passMinute 36 = .ok (.if_icmp .ge 42, 3) := by decide +kernel
theorem dX10_passMinute_39 : decode cX10_passMinute 39 = .ok (.aload_n 0, 1) := by decide +kernel
theorem dX10_passMinute_40 : decode cX10_passMinute 40 = .ok (.getfield 10, 3) := by decide +kernel
theorem dX10_passMinute_43 : decode cX10_passMinute 43 = .ok (.iload_n 2, 1) := by decide +kernel
theorem dX10_passMinute_44 : decode cX10_passMinute 44 = .ok (.invokevirtual 218, 3) := by decide +kernel
theorem dX10_passMinute_47 : decode cX10_passMinute 47 = .ok (.astore_n 3, 1) := by decide +kernel
theorem dX10_passMinute_48 : decode cX10_passMinute 48 = .ok (.aload_n 3, 1) := by decide +kernel
theorem dX10_passMinute_49 : decode cX10_passMinute 49 = .ok (.ifnull 23, 3) := by decide +kernel
theorem dX10_passMinute_52 : decode cX10_passMinute 52 = .ok (.aload_n 3, 1) := by decide +kernel
theorem dX10_passMinute_53 : decode cX10_passMinute 53 = .ok (.aload_n 0, 1) := by decide +kernel
theorem dX10_passMinute_54 : decode cX10_passMinute 54 = .ok (.getfield 27, 3) := by decide +kernel
theorem dX10_passMinute_57 : decode cX10_passMinute 57 = .ok (.aload_n 3, 1) := by decide +kernel
theorem dX10_passMinute_58 : decode cX10_passMinute 58 = .ok (.getfield 234, 3) := by decide +kernel
theorem dX10_passMinute_61 : decode cX10_passMinute 61 = .ok (.aload_n 3, 1) := by decide +kernel
theorem dX10_passMinute_62 : decode cX10_passMinute 62 = .ok (.getfield 225, 3) := by decide +kernel
theorem dX10_passMinute_65 : decode cX10_passMinute 65 = .ok (.iload_n 1, 1) := by decide +kernel
theorem dX10_passMinute_66 : decode cX10_passMinute 66 = .ok (.invokevirtual 376, 3) := by decide +kernel
theorem dX10_passMinute_69 : decode cX10_passMinute 69 = .ok (.putfield 234, 3) := by decide +kernel
theorem dX10_passMinute_72 : decode cX10_passMinute 72 = .ok (.iinc 2 1, 3) := by decide +kernel
theorem dX10_passMinute_75 : decode cX10_passMinute 75 = .ok (.goto (-47), 3) := by decide +kernel
theorem dX10_passMinute_78 : decode cX10_passMinute 78 = .ok (.return_, 1) := by decide +kernel
theorem dX10_chance_0 : decode cX10_chance 0 = .ok (.aload_n 0, 1) := by decide +kernel
theorem dX10_chance_1 : decode cX10_chance 1 = .ok (.getfield 10, 3) := by decide +kernel
theorem dX10_chance_4 : decode cX10_chance 4 = .ok (.iconst 4, 1) := by decide +kernel
theorem dX10_chance_5 : decode cX10_chance 5 = .ok (.invokevirtual 382, 3) := by decide +kernel
theorem dX10_chance_8 : decode cX10_chance 8 = .ok (.istore_n 1, 1) := by decide +kernel
theorem dX10_chance_9 : decode cX10_chance 9 = .ok (.iload_n 1, 1) := by decide +kernel
theorem dX10_chance_10 : decode cX10_chance 10 = .ok (.ifCond .ne 81, 3) := by decide +kernel
theorem dX10_chance_13 : decode cX10_chance 13 = .ok (.aload_n 0, 1) := by decide +kernel
theorem dX10_chance_14 : decode cX10_chance 14 = .ok (.getfield 10, 3) := by decide +kernel
theorem dX10_chance_17 : decode cX10_chance 17 = .ok (.getfield 194, 3) := by decide +kernel
theorem dX10_chance_20 : decode cX10_chance 20 = .ok (.ifCond .le 71, 3) := by decide +kernel
theorem dX10_chance_23 : decode cX10_chance 23 = .ok (.aload_n 0, 1) := by decide +kernel
theorem dX10_chance_24 : decode cX10_chance 24 = .ok (.getfield 10, 3) := by decide +kernel
theorem dX10_chance_27 : decode cX10_chance 27 = .ok (.aload_n 0, 1) := by decide +kernel
theorem dX10_chance_28 : decode cX10_chance 28 = .ok (.getfield 10, 3) := by decide +kernel
theorem dX10_chance_31 : decode cX10_chance 31 = .ok (.aload_n 0, 1) := by decide +kernel
theorem dX10_chance_32 : decode cX10_chance 32 = .ok (.getfield 10, 3) := by decide +kernel
theorem dX10_chance_35 : decode cX10_chance 35 = .ok (.getfield 194, 3) := by decide +kernel
theorem dX10_chance_38 : decode cX10_chance 38 = .ok (.invokevirtual 382, 3) := by decide +kernel
theorem dX10_chance_41 : decode cX10_chance 41 = .ok (.invokevirtual 218, 3) := by decide +kernel
theorem dX10_chance_44 : decode cX10_chance 44 = .ok (.astore_n 2, 1) := by decide +kernel
theorem dX10_chance_45 : decode cX10_chance 45 = .ok (.aload_n 0, 1) := by decide +kernel
theorem dX10_chance_46 : decode cX10_chance 46 = .ok (.getfield 10, 3) := by decide +kernel
theorem dX10_chance_49 : decode cX10_chance 49 = .ok (.aload_n 0, 1) := by decide +kernel
theorem dX10_chance_50 : decode cX10_chance 50 = .ok (.getfield 10, 3) := by decide +kernel
theorem dX10_chance_53 : decode cX10_chance 53 = .ok (.getfield 175, 3) := by decide +kernel
theorem dX10_chance_56 : decode cX10_chance 56 = .ok (.invokevirtual 382, 3) := by decide +kernel
theorem dX10_chance_59 : decode cX10_chance 59 = .ok (.istore_n 3, 1) := by decide +kernel
theorem dX10_chance_60 : decode cX10_chance 60 = .ok (.aload_n 0, 1) := by decide +kernel
theorem dX10_chance_61 : decode cX10_chance 61 = .ok (.getfield 10, 3) := by decide +kernel
theorem dX10_chance_64 : decode cX10_chance 64 = .ok (.aload_n 0, 1) := by decide +kernel
theorem dX10_chance_65 : decode cX10_chance 65 = .ok (.getfield 10, 3) := by decide +kernel
theorem dX10_chance_68 : decode cX10_chance 68 = .ok (.getfield 175, 3) := by decide +kernel
theorem dX10_chance_71 : decode cX10_chance 71 = .ok (.invokevirtual 382, 3) := by decide +kernel
theorem dX10_chance_74 : decode cX10_chance 74 = .ok (.istore 4, 2) := by decide +kernel
theorem dX10_chance_76 : decode cX10_chance 76 = .ok (.aload_n 2, 1) := by decide +kernel
theorem dX10_chance_77 : decode cX10_chance 77 = .ok (.ifnull 14, 3) := by decide +kernel
theorem dX10_chance_80 : decode cX10_chance 80 = .ok (.aload_n 2, 1) := by decide +kernel
theorem dX10_chance_81 : decode cX10_chance 81 = .ok (.bipush 10, 2) := by decide +kernel
theorem dX10_chance_83 : decode cX10_chance 83 = .ok (.iload_n 3, 1) := by decide +kernel
theorem dX10_chance_84 : decode cX10_chance 84 = .ok (.imul, 1) := by decide +kernel
theorem dX10_chance_85 : decode cX10_chance 85 = .ok (.iload 4, 2) := by decide +kernel
theorem dX10_chance_87 : decode cX10_chance 87 = .ok (.iadd, 1) := by decide +kernel
theorem dX10_chance_88 : decode cX10_chance 88 = .ok (.putfield 225, 3) := by decide +kernel
theorem dX10_chance_91 : decode cX10_chance 91 = .ok (.iload_n 1, 1) := by decide +kernel
theorem dX10_chance_92 : decode cX10_chance 92 = .ok (.iconst 1, 1) := by decide +kernel
theorem dX10_chance_93 : decode cX10_chance 93 = .ok (.if_icmp .ne 55, 3) := by decide +kernel
theorem dX10_chance_96 : decode cX10_chance 96 = .ok (.aload_n 0, 1) := by decide +kernel
theorem dX10_chance_97 : decode cX10_chance 97 = .ok (.getfield 10, 3) := by decide +kernel
theorem dX10_chance_100 : decode cX10_chance 100 = .ok (.getfield 181, 3) := by decide +kernel
theorem dX10_chance_103 : decode cX10_chance 103 = .ok (.ifCond .le 45, 3) := by decide +kernel
theorem dX10_chance_106 : decode cX10_chance 106 = .ok (.aload_n 0, 1) := by decide +kernel
theorem dX10_chance_107 : decode cX10_chance 107 = .ok (.getfield 10, 3) := by decide +kernel
theorem dX10_chance_110 : decode cX10_chance 110 = .ok (.aload_n 0, 1) := by decide +kernel
theorem dX10_chance_111 : decode cX10_chance 111 = .ok (.getfield 10, 3) := by decide +kernel
theorem dX10_chance_114 : decode cX10_chance 114 = .ok (.aload_n 0, 1) := by decide +kernel
theorem dX10_chance_115 : decode cX10_chance 115 = .ok (.getfield 10, 3) := by decide +kernel
theorem dX10_chance_118 : decode cX10_chance 118 = .ok (.getfield 181, 3) := by decide +kernel
theorem dX10_chance_121 : decode cX10_chance 121 = .ok (.invokevirtual 382, 3) := by decide +kernel
theorem dX10_chance_124 : decode cX10_chance 124 = .ok (.invokevirtual 129, 3) := by decide +kernel
theorem dX10_chance_127 : decode cX10_chance 127 = .ok (.astore_n 2, 1) := by decide +kernel
theorem dX10_chance_128 : decode cX10_chance 128 = .ok (.aload_n 2, 1) := by decide +kernel
theorem dX10_chance_129 : decode cX10_chance 129 = .ok (.ifnull 19, 3) := by decide +kernel
theorem dX10_chance_132 : decode cX10_chance 132 = .ok (.aload_n 2, 1) := by decide +kernel
theorem dX10_chance_133 : decode cX10_chance 133 = .ok (.aload_n 2, 1) := by decide +kernel
theorem dX10_chance_134 : decode cX10_chance 134 = .ok (.getfield 161, 3) := by decide +kernel
theorem dX10_chance_137 : decode cX10_chance 137 = .ok (.ifCond .ne 7, 3) := by decide +kernel
theorem dX10_chance_140 : decode cX10_chance 140 = .ok (.iconst 1, 1) := by decide +kernel
theorem dX10_chance_141 : decode cX10_chance 141 = .ok (.goto 4, 3) := by decide +kernel
theorem dX10_chance_144 : decode cX10_chance 144 = .ok (.iconst 0, 1) := by decide +kernel
theorem dX10_chance_145 : decode cX10_chance 145 = .ok (.putfield 161, 3) := by decide +kernel
theorem dX10_chance_148 : decode cX10_chance 148 = .ok (.iload_n 1, 1) := by decide +kernel
theorem dX10_chance_149 : decode cX10_chance 149 = .ok (.iconst 2, 1) := by decide +kernel
theorem dX10_chance_150 : decode cX10_chance 150 = .ok (.if_icmp .ne 47, 3) := by decide +kernel
theorem dX10_chance_153 : decode cX10_chance 153 = .ok (.aload_n 0, 1) := by decide +kernel
theorem dX10_chance_154 : decode cX10_chance 154 = .ok (.getfield 10, 3) := by decide +kernel
theorem dX10_chance_157 : decode cX10_chance 157 = .ok (.getfield 188, 3) := by decide +kernel
theorem dX10_chance_160 : decode cX10_chance 160 = .ok (.ifCond .le 37, 3) := by decide +kernel
theorem dX10_chance_163 : decode cX10_chance 163 = .ok (.aload_n 0, 1) := by decide +kernel
theorem dX10_chance_164 : decode cX10_chance 164 = .ok (.getfield 10, 3) := by decide +kernel
theorem dX10_chance_167 : decode cX10_chance 167 = .ok (.aload_n 0, 1) := by decide +kernel
theorem dX10_chance_168 : decode cX10_chance 168 = .ok (.getfield 10, 3) := by decide +kernel
theorem dX10_chance_171 : decode cX10_chance 171 = .ok (.getfield 188, 3) := by decide +kernel
theorem dX10_chance_174 : decode cX10_chance 174 = .ok (.invokevirtual 382, 3) := by decide +kernel
theorem dX10_chance_177 : decode cX10_chance 177 = .ok (.istore_n 2, 1) := by decide +kernel
theorem dX10_chance_178 : decode cX10_chance 178 = .ok (.aload_n 0, 1) := by decide +kernel
theorem dX10_chance_179 : decode cX10_chance 179 = .ok (.getfield 10, 3) := by decide +kernel
theorem dX10_chance_182 : decode cX10_chance 182 = .ok (.iload_n 2, 1) := by decide +kernel
theorem dX10_chance_183 : decode cX10_chance 183 = .ok (.iconst 1, 1) := by decide +kernel
theorem dX10_chance_184 : decode cX10_chance 184 = .ok (.aload_n 0, 1) := by decide +kernel
theorem dX10_chance_185 : decode cX10_chance 185 = .ok (.getfield 10, 3) := by decide +kernel
theorem dX10_chance_188 : decode cX10_chance 188 = .ok (.bipush 13, 2) := by decide +kernel
theorem dX10_chance_190 : decode cX10_chance 190 = .ok (.invokevirtual 382, 3) := by decide +kernel
theorem dX10_chance_193 : decode cX10_chance 193 = .ok (.iadd, 1) := by decide +kernel
theorem dX10_chance_194 : decode cX10_chance 194 = .ok (.invokevirtual 385, 3) := by decide +kernel
theorem dX10_chance_197 : decode cX10_chance 197 = .ok (.return_, 1) := by decide +kernel
theorem dX10_stepsFar_0 : decode cX10_stepsFar 0 = .ok (.iload_n 0, 1) := by decide +kernel
theorem dX10_stepsFar_1 : decode cX10_stepsFar 1 = .ok (.bipush 10, 2) := by decide +kernel
theorem dX10_stepsFar_3 : decode cX10_stepsFar 3 = .ok (.idiv, 1) := by decide +kernel
theorem dX10_stepsFar_4 : decode cX10_stepsFar 4 = .ok (.iload_n 1, 1) := by decide +kernel
theorem dX10_stepsFar_5 : decode cX10_stepsFar 5 = .ok (.bipush 10, 2) := by decide +kernel
theorem dX10_stepsFar_7 : decode cX10_stepsFar 7 = .ok (.idiv, 1) := by decide +kernel
theorem dX10_stepsFar_8 : decode cX10_stepsFar 8 = .ok (.isub, 1) := by decide +kernel
theorem dX10_stepsFar_9 : decode cX10_stepsFar 9 = .ok (.invokestatic 388, 3) := by decide +kernel
theorem dX10_stepsFar_12 : decode cX10_stepsFar 12 = .ok (.iload_n 0, 1) := by decide +kernel
theorem dX10_stepsFar_13 : decode cX10_stepsFar 13 = .ok (.bipush 10, 2) := by decide +kernel
theorem dX10_stepsFar_15 : decode cX10_stepsFar 15 = .ok (.irem, 1) := by decide +kernel
theorem dX10_stepsFar_16 : decode cX10_stepsFar 16 = .ok (.iload_n 1, 1) := by decide +kernel
theorem dX10_stepsFar_17 : decode cX10_stepsFar 17 = .ok (.bipush 10, 2) := by decide +kernel
theorem dX10_stepsFar_19 : decode cX10_stepsFar 19 = .ok (.irem, 1) := by decide +kernel
theorem dX10_stepsFar_20 : decode cX10_stepsFar 20 = .ok (.isub, 1) := by decide +kernel
theorem dX10_stepsFar_21 : decode cX10_stepsFar 21 = .ok (.invokestatic 388, 3) := by decide +kernel
theorem dX10_stepsFar_24 : decode cX10_stepsFar 24 = .ok (.iadd, 1) := by decide +kernel
theorem dX10_stepsFar_25 : decode cX10_stepsFar 25 = .ok (.ireturn, 1) := by decide +kernel
theorem dX10_isPlace_0 : decode cX10_isPlace 0 = .ok (.iload_n 0, 1) := by decide +kernel
theorem dX10_isPlace_1 : decode cX10_isPlace 1 = .ok (.ifCond .lt 13, 3) := by decide +kernel
theorem dX10_isPlace_4 : decode cX10_isPlace 4 = .ok (.iload_n 0, 1) := by decide +kernel
theorem dX10_isPlace_5 : decode cX10_isPlace 5 = .ok (.bipush 80, 2) := by decide +kernel
theorem dX10_isPlace_7 : decode cX10_isPlace 7 = .ok (.if_icmp .ge 7, 3) := by decide +kernel
theorem dX10_isPlace_10 : decode cX10_isPlace 10 = .ok (.iconst 1, 1) := by decide +kernel
theorem dX10_isPlace_11 : decode cX10_isPlace 11 = .ok (.goto 4, 3) := by decide +kernel
theorem dX10_isPlace_14 : decode cX10_isPlace 14 = .ok (.iconst 0, 1) := by decide +kernel
theorem dX10_isPlace_15 : decode cX10_isPlace 15 = .ok (.ireturn, 1) := by decide +kernel
theorem dX10_kindAbove_0 : decode cX10_kindAbove 0 = .ok (.iload_n 0, 1) := by decide +kernel
theorem dX10_kindAbove_1 : decode cX10_kindAbove 1 = .ok (.ifCond .lt 19, 3) := by decide +kernel
theorem dX10_kindAbove_4 : decode cX10_kindAbove 4 = .ok (.iload_n 0, 1) := by decide +kernel
theorem dX10_kindAbove_5 : decode cX10_kindAbove 5 = .ok (.getstatic 391, 3) := by decide +kernel
theorem dX10_kindAbove_8 : decode cX10_kindAbove 8 = .ok (.arraylength, 1) := by decide +kernel
theorem dX10_kindAbove_9 : decode cX10_kindAbove 9 = .ok (.if_icmp .ge 11, 3) := by decide +kernel
theorem dX10_kindAbove_12 : decode cX10_kindAbove 12 = .ok (.getstatic 391, 3) := by decide +kernel
theorem dX10_kindAbove_15 : decode cX10_kindAbove 15 = .ok (.iload_n 0, 1) := by decide +kernel
theorem dX10_kindAbove_16 : decode cX10_kindAbove 16 = .ok (.iaload, 1) := by decide +kernel
theorem dX10_kindAbove_17 : decode cX10_kindAbove 17 = .ok (.goto 4, 3) := by decide +kernel
theorem dX10_kindAbove_20 : decode cX10_kindAbove 20 = .ok (.iconst 0, 1) := by decide +kernel
theorem dX10_kindAbove_21 : decode cX10_kindAbove 21 = .ok (.ireturn, 1) := by decide +kernel
theorem dX10_barsBy_0 : decode cX10_barsBy 0 = .ok (.iconst 5, 1) := by decide +kernel
theorem dX10_barsBy_1 : decode cX10_barsBy 1 = .ok (.iload_n 0, 1) := by decide +kernel
theorem dX10_barsBy_2 : decode cX10_barsBy 2 = .ok (.bipush 10, 2) := by decide +kernel
theorem dX10_barsBy_4 : decode cX10_barsBy 4 = .ok (.idiv, 1) := by decide +kernel
theorem dX10_barsBy_5 : decode cX10_barsBy 5 = .ok (.invokestatic 318, 3) := by decide +kernel
theorem dX10_barsBy_8 : decode cX10_barsBy 8 = .ok (.ireturn, 1) := by decide +kernel
theorem dX10_noiseOver_0 : decode cX10_noiseOver 0 = .ok (.iload_n 0, 1) := by decide +kernel
theorem dX10_noiseOver_1 : decode cX10_noiseOver 1 = .ok (.iconst 0, 1) := by decide +kernel
theorem dX10_noiseOver_2 : decode cX10_noiseOver 2 = .ok (.iconst 5, 1) := by decide +kernel
theorem dX10_noiseOver_3 : decode cX10_noiseOver 3 = .ok (.iload_n 1, 1) := by decide +kernel
theorem dX10_noiseOver_4 : decode cX10_noiseOver 4 = .ok (.invokestatic 388, 3) := by decide +kernel
theorem dX10_noiseOver_7 : decode cX10_noiseOver 7 = .ok (.isub, 1) := by decide +kernel
theorem dX10_noiseOver_8 : decode cX10_noiseOver 8 = .ok (.invokestatic 240, 3) := by decide +kernel
theorem dX10_noiseOver_11 : decode cX10_noiseOver 11 = .ok (.imul, 1) := by decide +kernel
theorem dX10_noiseOver_12 : decode cX10_noiseOver 12 = .ok (.iconst 5, 1) := by decide +kernel
theorem dX10_noiseOver_13 : decode cX10_noiseOver 13 = .ok (.idiv, 1) := by decide +kernel
theorem dX10_noiseOver_14 : decode cX10_noiseOver 14 = .ok (.ireturn, 1) := by decide +kernel
theorem dX10_run_0 : decode cX10_run 0 = .ok (.aload_n 0, 1) := by decide +kernel
theorem dX10_run_1 : decode cX10_run 1 = .ok (.ifnull 10, 3) := by decide +kernel
theorem dX10_run_4 : decode cX10_run 4 = .ok (.iload 4, 2) := by decide +kernel
theorem dX10_run_6 : decode cX10_run 6 = .ok (.bipush 40, 2) := by decide +kernel
theorem dX10_run_8 : decode cX10_run 8 = .ok (.if_icmp .le 5, 3) := by decide +kernel
theorem dX10_run_11 : decode cX10_run 11 = .ok (.iconst 0, 1) := by decide +kernel
theorem dX10_run_12 : decode cX10_run 12 = .ok (.ireturn, 1) := by decide +kernel
theorem dX10_run_13 : decode cX10_run 13 = .ok (.iload_n 1, 1) := by decide +kernel
theorem dX10_run_14 : decode cX10_run 14 = .ok (.iload_n 2, 1) := by decide +kernel
theorem dX10_run_15 : decode cX10_run 15 = .ok (.invokestatic 394, 3) := by decide +kernel
theorem dX10_run_18 : decode cX10_run 18 = .ok (.istore 5, 2) := by decide +kernel
theorem dX10_run_20 : decode cX10_run 20 = .ok (.iload 5, 2) := by decide +kernel
theorem dX10_run_22 : decode cX10_run 22 = .ok (.invokestatic 397, 3) := by decide +kernel
theorem dX10_run_25 : decode cX10_run 25 = .ok (.istore 6, 2) := by decide +kernel
theorem dX10_run_27 : decode cX10_run 27 = .ok (.aload_n 0, 1) := by decide +kernel
theorem dX10_run_28 : decode cX10_run 28 = .ok (.getfield 400, 3) := by decide +kernel
theorem dX10_run_31 : decode cX10_run 31 = .ok (.istore 7, 2) := by decide +kernel
theorem dX10_run_33 : decode cX10_run 33 = .ok (.iload 4, 2) := by decide +kernel
theorem dX10_run_35 : decode cX10_run 35 = .ok (.iconst 1, 1) := by decide +kernel
theorem dX10_run_36 : decode cX10_run 36 = .ok (.iadd, 1) := by decide +kernel
theorem dX10_run_37 : decode cX10_run 37 = .ok (.istore 8, 2) := by decide +kernel
theorem dX10_run_39 : decode cX10_run 39 = .ok (.iload_n 1, 1) := by decide +kernel
theorem dX10_run_40 : decode cX10_run 40 = .ok (.iload 5, 2) := by decide +kernel
theorem dX10_run_42 : decode cX10_run 42 = .ok (.invokestatic 401, 3) := by decide +kernel
theorem dX10_run_45 : decode cX10_run 45 = .ok (.istore 9, 2) := by decide +kernel
theorem dX10_run_47 : decode cX10_run 47 = .ok (.aload_n 0, 1) := by decide +kernel
theorem dX10_run_48 : decode cX10_run 48 = .ok (.iload 9, 2) := by decide +kernel
theorem dX10_run_50 : decode cX10_run 50 = .ok (.invokevirtual 404, 3) := by decide +kernel
theorem dX10_run_53 : decode cX10_run 53 = .ok (.iload 9, 2) := by decide +kernel
theorem dX10_run_55 : decode cX10_run 55 = .ok (.lookupswitch 256 #[(10, 97), (11, 104), (12, 117), (20, 144), (30, 160), (40, 173), (50, 186), (51, 198), (60, 214), (70, 227), (71, 240)], 97) := by decide +kernel
theorem dX10_run_152 : decode cX10_run 152 = .ok (.iload_n 3, 1) := by decide +kernel
theorem dX10_run_153 : decode cX10_run 153 = .ok (.aload_n 0, 1) := by decide +kernel
theorem dX10_run_154 : decode cX10_run 154 = .ok (.getfield 407, 3) := by decide +kernel
theorem dX10_run_157 : decode cX10_run 157 = .ok (.iadd, 1) := by decide +kernel
theorem dX10_run_158 : decode cX10_run 158 = .ok (.ireturn, 1) := by decide +kernel
theorem dX10_run_159 : decode cX10_run 159 = .ok (.aload_n 0, 1) := by decide +kernel
theorem dX10_run_160 : decode cX10_run 160 = .ok (.iconst 0, 1) := by decide +kernel
theorem dX10_run_161 : decode cX10_run 161 = .ok (.iload 7, 2) := by decide +kernel
theorem dX10_run_163 : decode cX10_run 163 = .ok (.iload_n 3, 1) := by decide +kernel
theorem dX10_run_164 : decode cX10_run 164 = .ok (.iload 8, 2) := by decide +kernel
theorem dX10_run_166 : decode cX10_run 166 = .ok (.invokestatic 357, 3) := by decide +kernel
theorem dX10_run_169 : decode cX10_run 169 = .ok (.iconst 2, 1) := by decide +kernel
theorem dX10_run_170 : decode cX10_run 170 = .ok (.imul, 1) := by decide +kernel
theorem dX10_run_171 : decode cX10_run 171 = .ok (.ireturn, 1) := by decide +kernel
theorem dX10_run_172 : decode cX10_run 172 = .ok (.aload_n 0, 1) := by decide +kernel
theorem dX10_run_173 : decode cX10_run 173 = .ok (.iconst 1, 1) := by decide +kernel
theorem dX10_run_174 : decode cX10_run 174 = .ok (.iload 7, 2) := by decide +kernel
theorem dX10_run_176 : decode cX10_run 176 = .ok (.iload_n 3, 1) := by decide +kernel
theorem dX10_run_177 : decode cX10_run 177 = .ok (.iload 8, 2) := by decide +kernel
theorem dX10_run_179 : decode cX10_run 179 = .ok (.invokestatic 357, 3) := by decide +kernel
theorem dX10_run_182 : decode cX10_run 182 = .ok (.aload_n 0, 1) := by decide +kernel
theorem dX10_run_183 : decode cX10_run 183 = .ok (.iconst 0, 1) := by decide +kernel
theorem dX10_run_184 : decode cX10_run 184 = .ok (.iload 7, 2) := by decide +kernel
theorem dX10_run_186 : decode cX10_run 186 = .ok (.iload_n 3, 1) := by decide +kernel
theorem dX10_run_187 : decode cX10_run 187 = .ok (.aload_n 0, 1) := by decide +kernel
theorem dX10_run_188 : decode cX10_run 188 = .ok (.getfield 410, 3) := by decide +kernel
theorem dX10_run_191 : decode cX10_run 191 = .ok (.isub, 1) := by decide +kernel
theorem dX10_run_192 : decode cX10_run 192 = .ok (.iload 8, 2) := by decide +kernel
theorem dX10_run_194 : decode cX10_run 194 = .ok (.invokestatic 357, 3) := by decide +kernel
theorem dX10_run_197 : decode cX10_run 197 = .ok (.ixor, 1) := by decide +kernel
theorem dX10_run_198 : decode cX10_run 198 = .ok (.ireturn, 1) := by decide +kernel
theorem dX10_run_199 : decode cX10_run 199 = .ok (.aload_n 0, 1) := by decide +kernel
theorem dX10_run_200 : decode cX10_run 200 = .ok (.iconst 0, 1) := by decide +kernel
theorem dX10_run_201 : decode cX10_run 201 = .ok (.iload 6, 2) := by decide +kernel
theorem dX10_run_203 : decode cX10_run 203 = .ok (.iload_n 3, 1) := by decide +kernel
theorem dX10_run_204 : decode cX10_run 204 = .ok (.iload 8, 2) := by decide +kernel
theorem dX10_run_206 : decode cX10_run 206 = .ok (.invokestatic 357, 3) := by decide +kernel
theorem dX10_run_209 : decode cX10_run 209 = .ok (.aload_n 0, 1) := by decide +kernel
theorem dX10_run_210 : decode cX10_run 210 = .ok (.getfield 410, 3) := by decide +kernel
theorem dX10_run_213 : decode cX10_run 213 = .ok (.iadd, 1) := by decide +kernel
theorem dX10_run_214 : decode cX10_run 214 = .ok (.ireturn, 1) := by decide +kernel
theorem dX10_run_215 : decode cX10_run 215 = .ok (.aload_n 0, 1) := by decide +kernel
theorem dX10_run_216 : decode cX10_run 216 = .ok (.iconst 1, 1) := by decide +kernel
theorem dX10_run_217 : decode cX10_run 217 = .ok (.iload 6, 2) := by decide +kernel
theorem dX10_run_219 : decode cX10_run 219 = .ok (.iload_n 3, 1) := by decide +kernel
theorem dX10_run_220 : decode cX10_run 220 = .ok (.iload 8, 2) := by decide +kernel
theorem dX10_run_222 : decode cX10_run 222 = .ok (.invokestatic 357, 3) := by decide +kernel
theorem dX10_run_225 : decode cX10_run 225 = .ok (.iconst 3, 1) := by decide +kernel
theorem dX10_run_226 : decode cX10_run 226 = .ok (.imul, 1) := by decide +kernel
theorem dX10_run_227 : decode cX10_run 227 = .ok (.ireturn, 1) := by decide +kernel
theorem dX10_run_228 : decode cX10_run 228 = .ok (.aload_n 0, 1) := by decide +kernel
theorem dX10_run_229 : decode cX10_run 229 = .ok (.iconst 1, 1) := by decide +kernel
theorem dX10_run_230 : decode cX10_run 230 = .ok (.iload 6, 2) := by decide +kernel
theorem dX10_run_232 : decode cX10_run 232 = .ok (.iload_n 3, 1) := by decide +kernel
theorem dX10_run_233 : decode cX10_run 233 = .ok (.iconst 1, 1) := by decide +kernel
theorem dX10_run_234 : decode cX10_run 234 = .ok (.iadd, 1) := by decide +kernel
theorem dX10_run_235 : decode cX10_run 235 = .ok (.iload 8, 2) := by decide +kernel
theorem dX10_run_237 : decode cX10_run 237 = .ok (.invokestatic 357, 3) := by decide +kernel
theorem dX10_run_240 : decode cX10_run 240 = .ok (.ireturn, 1) := by decide +kernel
theorem dX10_run_241 : decode cX10_run 241 = .ok (.aload_n 0, 1) := by decide +kernel
theorem dX10_run_242 : decode cX10_run 242 = .ok (.iconst 2, 1) := by decide +kernel
theorem dX10_run_243 : decode cX10_run 243 = .ok (.iload 6, 2) := by decide +kernel
theorem dX10_run_245 : decode cX10_run 245 = .ok (.iload_n 3, 1) := by decide +kernel
theorem dX10_run_246 : decode cX10_run 246 = .ok (.iload 8, 2) := by decide +kernel
theorem dX10_run_248 : decode cX10_run 248 = .ok (.invokestatic 357, 3) := by decide +kernel
theorem dX10_run_251 : decode cX10_run 251 = .ok (.ineg, 1) := by decide +kernel
theorem dX10_run_252 : decode cX10_run 252 = .ok (.ireturn, 1) := by decide +kernel
theorem dX10_run_253 : decode cX10_run 253 = .ok (.aload_n 0, 1) := by decide +kernel
theorem dX10_run_254 : decode cX10_run 254 = .ok (.iconst 0, 1) := by decide +kernel
theorem dX10_run_255 : decode cX10_run 255 = .ok (.iload 6, 2) := by decide +kernel
theorem dX10_run_257 : decode cX10_run 257 = .ok (.iload_n 3, 1) := by decide +kernel
theorem dX10_run_258 : decode cX10_run 258 = .ok (.iload 8, 2) := by decide +kernel
theorem dX10_run_260 : decode cX10_run 260 = .ok (.invokestatic 357, 3) := by decide +kernel
theorem dX10_run_263 : decode cX10_run 263 = .ok (.aload_n 0, 1) := by decide +kernel
theorem dX10_run_264 : decode cX10_run 264 = .ok (.getfield 407, 3) := by decide +kernel
theorem dX10_run_267 : decode cX10_run 267 = .ok (.isub, 1) := by decide +kernel
theorem dX10_run_268 : decode cX10_run 268 = .ok (.ireturn, 1) := by decide +kernel
theorem dX10_run_269 : decode cX10_run 269 = .ok (.aload_n 0, 1) := by decide +kernel
theorem dX10_run_270 : decode cX10_run 270 = .ok (.iconst 2, 1) := by decide +kernel
theorem dX10_run_271 : decode cX10_run 271 = .ok (.iload 6, 2) := by decide +kernel
theorem dX10_run_273 : decode cX10_run 273 = .ok (.iload_n 3, 1) := by decide +kernel
theorem dX10_run_274 : decode cX10_run 274 = .ok (.iload 8, 2) := by decide +kernel
theorem dX10_run_276 : decode cX10_run 276 = .ok (.invokestatic 357, 3) := by decide +kernel
theorem dX10_run_279 : decode cX10_run 279 = .ok (.iconst 5, 1) := by decide +kernel
theorem dX10_run_280 : decode cX10_run 280 = .ok (.ixor, 1) := by decide +kernel
theorem dX10_run_281 : decode cX10_run 281 = .ok (.ireturn, 1) := by decide +kernel
theorem dX10_run_282 : decode cX10_run 282 = .ok (.aload_n 0, 1) := by decide +kernel
theorem dX10_run_283 : decode cX10_run 283 = .ok (.iconst 0, 1) := by decide +kernel
theorem dX10_run_284 : decode cX10_run 284 = .ok (.iload 6, 2) := by decide +kernel
theorem dX10_run_286 : decode cX10_run 286 = .ok (.iload_n 3, 1) := by decide +kernel
theorem dX10_run_287 : decode cX10_run 287 = .ok (.iload 8, 2) := by decide +kernel
theorem dX10_run_289 : decode cX10_run 289 = .ok (.invokestatic 357, 3) := by decide +kernel
theorem dX10_run_292 : decode cX10_run 292 = .ok (.iconst 2, 1) := by decide +kernel
theorem dX10_run_293 : decode cX10_run 293 = .ok (.imul, 1) := by decide +kernel
theorem dX10_run_294 : decode cX10_run 294 = .ok (.ireturn, 1) := by decide +kernel
theorem dX10_run_295 : decode cX10_run 295 = .ok (.aload_n 0, 1) := by decide +kernel
theorem dX10_run_296 : decode cX10_run 296 = .ok (.iconst 1, 1) := by decide +kernel
theorem dX10_run_297 : decode cX10_run 297 = .ok (.iload 6, 2) := by decide +kernel
theorem dX10_run_299 : decode cX10_run 299 = .ok (.iload_n 3, 1) := by decide +kernel
theorem dX10_run_300 : decode cX10_run 300 = .ok (.aload_n 0, 1) := by decide +kernel
theorem dX10_run_301 : decode cX10_run 301 = .ok (.getfield 410, 3) := by decide +kernel
theorem dX10_run_304 : decode cX10_run 304 = .ok (.isub, 1) := by decide +kernel
theorem dX10_run_305 : decode cX10_run 305 = .ok (.iload 8, 2) := by decide +kernel
theorem dX10_run_307 : decode cX10_run 307 = .ok (.invokestatic 357, 3) := by decide +kernel
theorem dX10_run_310 : decode cX10_run 310 = .ok (.ireturn, 1) := by decide +kernel
theorem dX10_run_311 : decode cX10_run 311 = .ok (.iconst 0, 1) := by decide +kernel
theorem dX10_run_312 : decode cX10_run 312 = .ok (.ireturn, 1) := by decide +kernel
theorem dX11_init_0 : decode cX11_init 0 = .ok (.aload_n 0, 1) := by decide +kernel
theorem dX11_init_1 : decode cX11_init 1 = .ok (.invokespecial 1, 3) := by decide +kernel
theorem dX11_init_4 : decode cX11_init 4 = .ok (.aload_n 0, 1) := by decide +kernel
theorem dX11_init_5 : decode cX11_init 5 = .ok (.iconst 4, 1) := by decide +kernel
theorem dX11_init_6 : decode cX11_init 6 = .ok (.putfield 7, 3) := by decide +kernel
theorem dX11_init_9 : decode cX11_init 9 = .ok (.aload_n 0, 1) := by decide +kernel
theorem dX11_init_10 : decode cX11_init 10 = .ok (.bipush 50, 2) := by decide +kernel
theorem dX11_init_12 : decode cX11_init 12 = .ok (.putfield 13, 3) := by decide +kernel
theorem dX11_init_15 : decode cX11_init 15 = .ok (.aload_n 0, 1) := by decide +kernel
theorem dX11_init_16 : decode cX11_init 16 = .ok (.bipush 6, 2) := by decide +kernel
theorem dX11_init_18 : decode cX11_init 18 = .ok (.putfield 16, 3) := by decide +kernel
theorem dX11_init_21 : decode cX11_init 21 = .ok (.aload_n 0, 1) := by decide +kernel
theorem dX11_init_22 : decode cX11_init 22 = .ok (.iconst 1, 1) := by decide +kernel
theorem dX11_init_23 : decode cX11_init 23 = .ok (.putfield 19, 3) := by decide +kernel
theorem dX11_init_26 : decode cX11_init 26 = .ok (.aload_n 0, 1) := by decide +kernel
theorem dX11_init_27 : decode cX11_init 27 = .ok (.iconst (-1), 1) := by decide +kernel
theorem dX11_init_28 : decode cX11_init 28 = .ok (.putfield 22, 3) := by decide +kernel
theorem dX11_init_31 : decode cX11_init 31 = .ok (.aload_n 0, 1) := by decide +kernel
theorem dX11_init_32 : decode cX11_init 32 = .ok (.bipush 8, 2) := by decide +kernel
theorem dX11_init_34 : decode cX11_init 34 = .ok (.newarray .int, 2) := by decide +kernel
theorem dX11_init_36 : decode cX11_init 36 = .ok (.putfield 25, 3) := by decide +kernel
theorem dX11_init_39 : decode cX11_init 39 = .ok (.aload_n 0, 1) := by decide +kernel
theorem dX11_init_40 : decode cX11_init 40 = .ok (.bipush 16, 2) := by decide +kernel
theorem dX11_init_42 : decode cX11_init 42 = .ok (.newarray .int, 2) := by decide +kernel
theorem dX11_init_44 : decode cX11_init 44 = .ok (.putfield 29, 3) := by decide +kernel
theorem dX11_init_47 : decode cX11_init 47 = .ok (.aload_n 0, 1) := by decide +kernel
theorem dX11_init_48 : decode cX11_init 48 = .ok (.bipush 16, 2) := by decide +kernel
theorem dX11_init_50 : decode cX11_init 50 = .ok (.newarray .int, 2) := by decide +kernel
theorem dX11_init_52 : decode cX11_init 52 = .ok (.putfield 32, 3) := by decide +kernel
theorem dX11_init_55 : decode cX11_init 55 = .ok (.aload_n 0, 1) := by decide +kernel
theorem dX11_init_56 : decode cX11_init 56 = .ok (.bipush 16, 2) := by decide +kernel
theorem dX11_init_58 : decode cX11_init 58 = .ok (.newarray .int, 2) := by decide +kernel
theorem dX11_init_60 : decode cX11_init 60 = .ok (.putfield 35, 3) := by decide +kernel
theorem dX11_init_63 : decode cX11_init 63 = .ok (.aload_n 0, 1) := by decide +kernel
theorem dX11_init_64 : decode cX11_init 64 = .ok (.bipush 16, 2) := by decide +kernel
theorem dX11_init_66 : decode cX11_init 66 = .ok (.newarray .int, 2) := by decide +kernel
theorem dX11_init_68 : decode cX11_init 68 = .ok (.putfield 38, 3) := by decide +kernel
theorem dX11_init_71 : decode cX11_init 71 = .ok (.aload_n 0, 1) := by decide +kernel
theorem dX11_init_72 : decode cX11_init 72 = .ok (.bipush 8, 2) := by decide +kernel
theorem dX11_init_74 : decode cX11_init 74 = .ok (.newarray .int, 2) := by decide +kernel
theorem dX11_init_76 : decode cX11_init 76 = .ok (.putfield 41, 3) := by decide +kernel
theorem dX11_init_79 : decode cX11_init 79 = .ok (.aload_n 0, 1) := by decide +kernel
theorem dX11_init_80 : decode cX11_init 80 = .ok (.bipush 8, 2) := by decide +kernel
theorem dX11_init_82 : decode cX11_init 82 = .ok (.newarray .int, 2) := by decide +kernel
theorem dX11_init_84 : decode cX11_init 84 = .ok (.putfield 44, 3) := by decide +kernel
theorem dX11_init_87 : decode cX11_init 87 = .ok (.aload_n 0, 1) := by decide +kernel
theorem dX11_init_88 : decode cX11_init 88 = .ok (.bipush 6, 2) := by decide +kernel
theorem dX11_init_90 : decode cX11_init 90 = .ok (.newarray .int, 2) := by decide +kernel
theorem dX11_init_92 : decode cX11_init 92 = .ok (.putfield 47, 3) := by decide +kernel
theorem dX11_init_95 : decode cX11_init 95 = .ok (.aload_n 0, 1) := by decide +kernel
theorem dX11_init_96 : decode cX11_init 96 = .ok (.bipush 6, 2) := by decide +kernel
theorem dX11_init_98 : decode cX11_init 98 = .ok (.newarray .int, 2) := by decide +kernel
theorem dX11_init_100 : decode cX11_init 100 = .ok (.putfield 50, 3) := by decide +kernel
theorem dX11_init_103 : decode cX11_init 103 = .ok (.aload_n 0, 1) := by decide +kernel
theorem dX11_init_104 : decode cX11_init 104 = .ok (.bipush 6, 2) := by decide +kernel
theorem dX11_init_106 : decode cX11_init 106 = .ok (.newarray .int, 2) := by decide +kernel
theorem dX11_init_108 : decode cX11_init 108 = .ok (.putfield 53, 3) := by decide +kernel
theorem dX11_init_111 : decode cX11_init 111 = .ok (.aload_n 0, 1) := by decide +kernel
theorem dX11_init_112 : decode cX11_init 112 = .ok (.bipush 6, 2) := by decide +kernel
theorem dX11_init_114 : decode cX11_init 114 = .ok (.newarray .int, 2) := by decide +kernel
theorem dX11_init_116 : decode cX11_init 116 = .ok (.putfield 56, 3) := by decide +kernel
theorem dX11_init_119 : decode cX11_init 119 = .ok (.aload_n 0, 1) := by decide +kernel
theorem dX11_init_120 : decode cX11_init 120 = .ok (.iconst 2, 1) := by decide +kernel
theorem dX11_init_121 : decode cX11_init 121 = .ok (.newarray .int, 2) := by decide +kernel
theorem dX11_init_123 : decode cX11_init 123 = .ok (.dup, 1) := by decide +kernel
theorem dX11_init_124 : decode cX11_init 124 = .ok (.iconst 0, 1) := by decide +kernel
theorem dX11_init_125 : decode cX11_init 125 = .ok (.iconst 0, 1) := by decide +kernel
theorem dX11_init_126 : decode cX11_init 126 = .ok (.iastore, 1) := by decide +kernel
theorem dX11_init_127 : decode cX11_init 127 = .ok (.dup, 1) := by decide +kernel
theorem dX11_init_128 : decode cX11_init 128 = .ok (.iconst 1, 1) := by decide +kernel
theorem dX11_init_129 : decode cX11_init 129 = .ok (.iconst (-1), 1) := by decide +kernel
theorem dX11_init_130 : decode cX11_init 130 = .ok (.iastore, 1) := by decide +kernel
theorem dX11_init_131 : decode cX11_init 131 = .ok (.putfield 59, 3) := by decide +kernel
theorem dX11_init_134 : decode cX11_init 134 = .ok (.aload_n 0, 1) := by decide +kernel
theorem dX11_init_135 : decode cX11_init 135 = .ok (.bipush 8, 2) := by decide +kernel
theorem dX11_init_137 : decode cX11_init 137 = .ok (.newarray .int, 2) := by decide +kernel
theorem dX11_init_139 : decode cX11_init 139 = .ok (.putfield 62, 3) := by decide +kernel
theorem dX11_init_142 : decode cX11_init 142 = .ok (.aload_n 0, 1) := by decide +kernel
theorem dX11_init_143 : decode cX11_init 143 = .ok (.bipush 8, 2) := by decide +kernel
theorem dX11_init_145 : decode cX11_init 145 = .ok (.newarray .int, 2) := by decide +kernel
theorem dX11_init_147 : decode cX11_init 147 = .ok (.putfield 65, 3) := by decide +kernel
theorem dX11_init_150 : decode cX11_init 150 = .ok (.aload_n 0, 1) := by decide +kernel
theorem dX11_init_151 : decode cX11_init 151 = .ok (.bipush 8, 2) := by decide +kernel
theorem dX11_init_153 : decode cX11_init 153 = .ok (.newarray .int, 2) := by decide +kernel
theorem dX11_init_155 : decode cX11_init 155 = .ok (.putfield 68, 3) := by decide +kernel
theorem dX11_init_158 : decode cX11_init 158 = .ok (.aload_n 0, 1) := by decide +kernel
theorem dX11_init_159 : decode cX11_init 159 = .ok (.bipush 8, 2) := by decide +kernel
theorem dX11_init_161 : decode cX11_init 161 = .ok (.newarray .int, 2) := by decide +kernel
theorem dX11_init_163 : decode cX11_init 163 = .ok (.putfield 71, 3) := by decide +kernel
theorem dX11_init_166 : decode cX11_init 166 = .ok (.aload_n 0, 1) := by decide +kernel
theorem dX11_init_167 : decode cX11_init 167 = .ok (.sipush 1280, 3) := by decide +kernel
theorem dX11_init_170 : decode cX11_init 170 = .ok (.newarray .long, 2) := by decide +kernel
theorem dX11_init_172 : decode cX11_init 172 = .ok (.putfield 74, 3) := by decide +kernel
theorem dX11_init_175 : decode cX11_init 175 = .ok (.aload_n 0, 1) := by decide +kernel
theorem dX11_init_176 : decode cX11_init 176 = .ok (.sipush 160, 3) := by decide +kernel
theorem dX11_init_179 : decode cX11_init 179 = .ok (.newarray .long, 2) := by decide +kernel
theorem dX11_init_181 : decode cX11_init 181 = .ok (.putfield 78, 3) := by decide +kernel
theorem dX11_init_184 : decode cX11_init 184 = .ok (.aload_n 0, 1) := by decide +kernel
theorem dX11_init_185 : decode cX11_init 185 = .ok (.bipush 73, 2) := by decide +kernel
theorem dX11_init_187 : decode cX11_init 187 = .ok (.newarray .int, 2) := by decide +kernel
theorem dX11_init_189 : decode cX11_init 189 = .ok (.dup, 1) := by decide +kernel
theorem dX11_init_190 : decode cX11_init 190 = .ok (.iconst 0, 1) := by decide +kernel
theorem dX11_init_191 : decode cX11_init 191 = .ok (.bipush 115, 2) := by decide +kernel
theorem dX11_init_193 : decode cX11_init 193 = .ok (.iastore, 1) := by decide +kernel
theorem dX11_init_194 : decode cX11_init 194 = .ok (.dup, 1) := by decide +kernel
theorem dX11_init_195 : decode cX11_init 195 = .ok (.iconst 1, 1) := by decide +kernel
theorem dX11_init_196 : decode cX11_init 196 = .ok (.bipush 105, 2) := by decide +kernel
theorem dX11_init_198 : decode cX11_init 198 = .ok (.iastore, 1) := by decide +kernel
theorem dX11_init_199 : decode cX11_init 199 = .ok (.dup, 1) := by decide +kernel
theorem dX11_init_200 : decode cX11_init 200 = .ok (.iconst 2, 1) := by decide +kernel
theorem dX11_init_201 : decode cX11_init 201 = .ok (.bipush 100, 2) := by decide +kernel
theorem dX11_init_203 : decode cX11_init 203 = .ok (.iastore, 1) := by decide +kernel
theorem dX11_init_204 : decode cX11_init 204 = .ok (.dup, 1) := by decide +kernel
theorem dX11_init_205 : decode cX11_init 205 = .ok (.iconst 3, 1) := by decide +kernel
theorem dX11_init_206 : decode cX11_init 206 = .ok (.bipush 101, 2) := by decide +kernel
theorem dX11_init_208 : decode cX11_init 208 = .ok (.iastore, 1) := by decide +kernel
theorem dX11_init_209 : decode cX11_init 209 = .ok (.dup, 1) := by decide +kernel
theorem dX11_init_210 : decode cX11_init 210 = .ok (.iconst 4, 1) := by decide +kernel
theorem dX11_init_211 : decode cX11_init 211 = .ok (.bipush 32, 2) := by decide +kernel
theorem dX11_init_213 : decode cX11_init 213 = .ok (.iastore, 1) := by decide +kernel
theorem dX11_init_214 : decode cX11_init 214 = .ok (.dup, 1) := by decide +kernel
theorem dX11_init_215 : decode cX11_init 215 = .ok (.iconst 5, 1) := by decide +kernel
theorem dX11_init_216 : decode cX11_init 216 = .ok (.iconst 0, 1) := by decide +kernel
theorem dX11_init_217 : decode cX11_init 217 = .ok (.iastore, 1) := by decide +kernel
theorem dX11_init_218 : decode cX11_init 218 = .ok (.dup, 1) := by decide +kernel
theorem dX11_init_219 : decode cX11_init 219 = .ok (.bipush 6, 2) := by decide +kernel
theorem dX11_init_221 : decode cX11_init 221 = .ok (.bipush 116, 2) := by decide +kernel
theorem dX11_init_223 : decode cX11_init 223 = .ok (.iastore, 1) := by decide +kernel
theorem dX11_init_224 : decode cX11_init 224 = .ok (.dup, 1) := by decide +kernel
theorem dX11_init_225 : decode cX11_init 225 = .ok (.bipush 7, 2) := by decide +kernel
theorem dX11_init_227 : decode cX11_init 227 = .ok (.bipush 104, 2) := by decide +kernel
theorem dX11_init_229 : decode cX11_init 229 = .ok (.iastore, 1) := by decide +kernel
theorem dX11_init_230 : decode cX11_init 230 = .ok (.dup, 1) := by decide +kernel
theorem dX11_init_231 : decode cX11_init 231 = .ok (.bipush 8, 2) := by decide +kernel
theorem dX11_init_233 : decode cX11_init 233 = .ok (.bipush 105, 2) := by decide +kernel
theorem dX11_init_235 : decode cX11_init 235 = .ok (.iastore, 1) := by decide +kernel
theorem dX11_init_236 : decode cX11_init 236 = .ok (.dup, 1) := by decide +kernel
theorem dX11_init_237 : decode cX11_init 237 = .ok (.bipush 9, 2) := by decide +kernel
theorem dX11_init_239 : decode cX11_init 239 = .ok (.bipush 110, 2) := by decide +kernel
theorem dX11_init_241 : decode cX11_init 241 = .ok (.iastore, 1) := by decide +kernel
theorem dX11_init_242 : decode cX11_init 242 = .ok (.dup, 1) := by decide +kernel
theorem dX11_init_243 : decode cX11_init 243 = .ok (.bipush 10, 2) := by decide +kernel
theorem dX11_init_245 : decode cX11_init 245 = .ok (.bipush 103, 2) := by decide +kernel
theorem dX11_init_247 : decode cX11_init 247 = .ok (.iastore, 1) := by decide +kernel
theorem dX11_init_248 : decode cX11_init 248 = .ok (.dup, 1) := by decide +kernel
theorem dX11_init_249 : decode cX11_init 249 = .ok (.bipush 11, 2) := by decide +kernel
theorem dX11_init_251 : decode cX11_init 251 = .ok (.bipush 32, 2) := by decide +kernel
theorem dX11_init_253 : decode cX11_init 253 = .ok (.iastore, 1) := by decide +kernel
theorem dX11_init_254 : decode cX11_init 254 = .ok (.dup, 1) := by decide +kernel
theorem dX11_init_255 : decode cX11_init 255 = .ok (.bipush 12, 2) := by decide +kernel
theorem dX11_init_257 : decode cX11_init 257 = .ok (.iconst 0, 1) := by decide +kernel
theorem dX11_init_258 : decode cX11_init 258 = .ok (.iastore, 1) := by decide +kernel
theorem dX11_init_259 : decode cX11_init 259 = .ok (.dup, 1) := by decide +kernel
theorem dX11_init_260 : decode cX11_init 260 = .ok (.bipush 13, 2) := by decide +kernel
theorem dX11_init_262 : decode cX11_init 262 = .ok (.bipush 98, 2) := by decide +kernel
theorem dX11_init_264 : decode cX11_init 264 = .ok (.iastore, 1) := by decide +kernel
theorem dX11_init_265 : decode cX11_init 265 = .ok (.dup, 1) := by decide +kernel
theorem dX11_init_266 : decode cX11_init 266 = .ok (.bipush 14, 2) := by decide +kernel
theorem dX11_init_268 : decode cX11_init 268 = .ok (.bipush 111, 2) := by decide +kernel
theorem dX11_init_270 : decode cX11_init 270 = .ok (.iastore, 1) := by decide +kernel
theorem dX11_init_271 : decode cX11_init 271 = .ok (.dup, 1) := by decide +kernel
theorem dX11_init_272 : decode cX11_init 272 = .ok (.bipush 15, 2) := by decide +kernel
theorem dX11_init_274 : decode cX11_init 274 = .ok (.bipush 120, 2) := by decide +kernel
theorem dX11_init_276 : decode cX11_init 276 = .ok (.iastore, 1) := by decide +kernel
theorem dX11_init_277 : decode cX11_init 277 = .ok (.dup, 1) := by decide +kernel
theorem dX11_init_278 : decode cX11_init 278 = .ok (.bipush 16, 2) := by decide +kernel
theorem dX11_init_280 : decode cX11_init 280 = .ok (.bipush 32, 2) := by decide +kernel
theorem dX11_init_282 : decode cX11_init 282 = .ok (.iastore, 1) := by decide +kernel
theorem dX11_init_283 : decode cX11_init 283 = .ok (.dup, 1) := by decide +kernel
theorem dX11_init_284 : decode cX11_init 284 = .ok (.bipush 17, 2) := by decide +kernel
theorem dX11_init_286 : decode cX11_init 286 = .ok (.iconst 0, 1) := by decide +kernel
theorem dX11_init_287 : decode cX11_init 287 = .ok (.iastore, 1) := by decide +kernel
theorem dX11_init_288 : decode cX11_init 288 = .ok (.dup, 1) := by decide +kernel
theorem dX11_init_289 : decode cX11_init 289 = .ok (.bipush 18, 2) := by decide +kernel
theorem dX11_init_291 : decode cX11_init 291 = .ok (.bipush 112, 2) := by decide +kernel
theorem dX11_init_293 : decode cX11_init 293 = .ok (.iastore, 1) := by decide +kernel
theorem dX11_init_294 : decode cX11_init 294 = .ok (.dup, 1) := by decide +kernel
theorem dX11_init_295 : decode cX11_init 295 = .ok (.bipush 19, 2) := by decide +kernel
theorem dX11_init_297 : decode cX11_init 297 = .ok (.bipush 111, 2) := by decide +kernel
theorem dX11_init_299 : decode cX11_init 299 = .ok (.iastore, 1) := by decide +kernel
theorem dX11_init_300 : decode cX11_init 300 = .ok (.dup, 1) := by decide +kernel
theorem dX11_init_301 : decode cX11_init 301 = .ok (.bipush 20, 2) := by decide +kernel
theorem dX11_init_303 : decode cX11_init 303 = .ok (.bipush 119, 2) := by decide +kernel
theorem dX11_init_305 : decode cX11_init 305 = .ok (.iastore, 1) := by decide +kernel
theorem dX11_init_306 : decode cX11_init 306 = .ok (.dup, 1) := by decide +kernel
theorem dX11_init_307 : decode cX11_init 307 = .ok (.bipush 21, 2) := by decide +kernel
theorem dX11_init_309 : decode cX11_init 309 = .ok (.bipush 101, 2) := by decide +kernel
theorem dX11_init_311 : decode cX11_init 311 = .ok (.iastore, 1) := by decide +kernel
theorem dX11_init_312 : decode cX11_init 312 = .ok (.dup, 1) := by decide +kernel
theorem dX11_init_313 : decode cX11_init 313 = .ok (.bipush 22, 2) := by decide +kernel
theorem dX11_init_315 : decode cX11_init 315 = .ok (.bipush 114, 2) := by decide +kernel
theorem dX11_init_317 : decode cX11_init 317 = .ok (.iastore, 1) := by decide +kernel
theorem dX11_init_318 : decode cX11_init 318 = .ok (.dup, 1) := by decide +kernel
theorem dX11_init_319 : decode cX11_init 319 = .ok (.bipush 23, 2) := by decide +kernel
theorem dX11_init_321 : decode cX11_init 321 = .ok (.bipush 32, 2) := by decide +kernel
theorem dX11_init_323 : decode cX11_init 323 = .ok (.iastore, 1) := by decide +kernel
theorem dX11_init_324 : decode cX11_init 324 = .ok (.dup, 1) := by decide +kernel
theorem dX11_init_325 : decode cX11_init 325 = .ok (.bipush 24, 2) := by decide +kernel
theorem dX11_init_327 : decode cX11_init 327 = .ok (.iconst 0, 1) := by decide +kernel
theorem dX11_init_328 : decode cX11_init 328 = .ok (.iastore, 1) := by decide +kernel
theorem dX11_init_329 : decode cX11_init 329 = .ok (.dup, 1) := by decide +kernel
theorem dX11_init_330 : decode cX11_init 330 = .ok (.bipush 25, 2) := by decide +kernel
theorem dX11_init_332 : decode cX11_init 332 = .ok (.bipush 99, 2) := by decide +kernel
theorem dX11_init_334 : decode cX11_init 334 = .ok (.iastore, 1) := by decide +kernel
theorem dX11_init_335 : decode cX11_init 335 = .ok (.dup, 1) := by decide +kernel
theorem dX11_init_336 : decode cX11_init 336 = .ok (.bipush 26, 2) := by decide +kernel
theorem dX11_init_338 : decode cX11_init 338 = .ok (.bipush 104, 2) := by decide +kernel
theorem dX11_init_340 : decode cX11_init 340 = .ok (.iastore, 1) := by decide +kernel
theorem dX11_init_341 : decode cX11_init 341 = .ok (.dup, 1) := by decide +kernel
theorem dX11_init_342 : decode cX11_init 342 = .ok (.bipush 27, 2) := by decide +kernel
theorem dX11_init_344 : decode cX11_init 344 = .ok (.bipush 97, 2) := by decide +kernel
theorem dX11_init_346 : decode cX11_init 346 = .ok (.iastore, 1) := by decide +kernel
theorem dX11_init_347 : decode cX11_init 347 = .ok (.dup, 1) := by decide +kernel
theorem dX11_init_348 : decode cX11_init 348 = .ok (.bipush 28, 2) := by decide +kernel
theorem dX11_init_350 : decode cX11_init 350 = .ok (.bipush 110, 2) := by decide +kernel
theorem dX11_init_352 : decode cX11_init 352 = .ok (.iastore, 1) := by decide +kernel
theorem dX11_init_353 : decode cX11_init 353 = .ok (.dup, 1) := by decide +kernel
theorem dX11_init_354 : decode cX11_init 354 = .ok (.bipush 29, 2) := by decide +kernel
theorem dX11_init_356 : decode cX11_init 356 = .ok (.bipush 110, 2) := by decide +kernel
theorem dX11_init_358 : decode cX11_init 358 = .ok (.iastore, 1) := by decide +kernel
theorem dX11_init_359 : decode cX11_init 359 = .ok (.dup, 1) := by decide +kernel
theorem dX11_init_360 : decode cX11_init 360 = .ok (.bipush 30, 2) := by decide +kernel
theorem dX11_init_362 : decode cX11_init 362 = .ok (.bipush 101, 2) := by decide +kernel
theorem dX11_init_364 : decode cX11_init 364 = .ok (.iastore, 1) := by decide +kernel
theorem dX11_init_365 : decode cX11_init 365 = .ok (.dup, 1) := by decide +kernel
theorem dX11_init_366 : decode cX11_init 366 = .ok (.bipush 31, 2) := by decide +kernel
theorem dX11_init_368 : decode cX11_init 368 = .ok (.bipush 108, 2) := by decide +kernel
theorem dX11_init_370 : decode cX11_init 370 = .ok (.iastore, 1) := by decide +kernel
theorem dX11_init_371 : decode cX11_init 371 = .ok (.dup, 1) := by decide +kernel
theorem dX11_init_372 : decode cX11_init 372 = .ok (.bipush 32, 2) := by decide +kernel
theorem dX11_init_374 : decode cX11_init 374 = .ok (.bipush 32, 2) := by decide +kernel
theorem dX11_init_376 : decode cX11_init 376 = .ok (.iastore, 1) := by decide +kernel
theorem dX11_init_377 : decode cX11_init 377 = .ok (.dup, 1) := by decide +kernel
theorem dX11_init_378 : decode cX11_init 378 = .ok (.bipush 33, 2) := by decide +kernel
theorem dX11_init_380 : decode cX11_init 380 = .ok (.iconst 0, 1) := by decide +kernel
theorem dX11_init_381 : decode cX11_init 381 = .ok (.iastore, 1) := by decide +kernel
theorem dX11_init_382 : decode cX11_init 382 = .ok (.dup, 1) := by decide +kernel
theorem dX11_init_383 : decode cX11_init 383 = .ok (.bipush 34, 2) := by decide +kernel
theorem dX11_init_385 : decode cX11_init 385 = .ok (.bipush 110, 2) := by decide +kernel
theorem dX11_init_387 : decode cX11_init 387 = .ok (.iastore, 1) := by decide +kernel
theorem dX11_init_388 : decode cX11_init 388 = .ok (.dup, 1) := by decide +kernel
theorem dX11_init_389 : decode cX11_init 389 = .ok (.bipush 35, 2) := by decide +kernel
theorem dX11_init_391 : decode cX11_init 391 = .ok (.bipush 101, 2) := by decide +kernel
theorem dX11_init_393 : decode cX11_init 393 = .ok (.iastore, 1) := by decide +kernel
theorem dX11_init_394 : decode cX11_init 394 = .ok (.dup, 1) := by decide +kernel
theorem dX11_init_395 : decode cX11_init 395 = .ok (.bipush 36, 2) := by decide +kernel
theorem dX11_init_397 : decode cX11_init 397 = .ok (.bipush 105, 2) := by decide +kernel
theorem dX11_init_399 : decode cX11_init 399 = .ok (.iastore, 1) := by decide +kernel
theorem dX11_init_400 : decode cX11_init 400 = .ok (.dup, 1) := by decide +kernel
theorem dX11_init_401 : decode cX11_init 401 = .ok (.bipush 37, 2) := by decide +kernel
theorem dX11_init_403 : decode cX11_init 403 = .ok (.bipush 103, 2) := by decide +kernel
theorem dX11_init_405 : decode cX11_init 405 = .ok (.iastore, 1) := by decide +kernel
theorem dX11_init_406 : decode cX11_init 406 = .ok (.dup, 1) := by decide +kernel
theorem dX11_init_407 : decode cX11_init 407 = .ok (.bipush 38, 2) := by decide +kernel
theorem dX11_init_409 : decode cX11_init 409 = .ok (.bipush 104, 2) := by decide +kernel
theorem dX11_init_411 : decode cX11_init 411 = .ok (.iastore, 1) := by decide +kernel
theorem dX11_init_412 : decode cX11_init 412 = .ok (.dup, 1) := by decide +kernel
theorem dX11_init_413 : decode cX11_init 413 = .ok (.bipush 39, 2) := by decide +kernel
theorem dX11_init_415 : decode cX11_init 415 = .ok (.bipush 98, 2) := by decide +kernel
theorem dX11_init_417 : decode cX11_init 417 = .ok (.iastore, 1) := by decide +kernel
theorem dX11_init_418 : decode cX11_init 418 = .ok (.dup, 1) := by decide +kernel
theorem dX11_init_419 : decode cX11_init 419 = .ok (.bipush 40, 2) := by decide +kernel
theorem dX11_init_421 : decode cX11_init 421 = .ok (.bipush 111, 2) := by decide +kernel
theorem dX11_init_423 : decode cX11_init 423 = .ok (.iastore, 1) := by decide +kernel
theorem dX11_init_424 : decode cX11_init 424 = .ok (.dup, 1) := by decide +kernel
theorem dX11_init_425 : decode cX11_init 425 = .ok (.bipush 41, 2) := by decide +kernel
theorem dX11_init_427 : decode cX11_init 427 = .ok (.bipush 117, 2) := by decide +kernel
theorem dX11_init_429 : decode cX11_init 429 = .ok (.iastore, 1) := by decide +kernel
theorem dX11_init_430 : decode cX11_init 430 = .ok (.dup, 1) := by decide +kernel
theorem dX11_init_431 : decode cX11_init 431 = .ok (.bipush 42, 2) := by decide +kernel
theorem dX11_init_433 : decode cX11_init 433 = .ok (.bipush 114, 2) := by decide +kernel
theorem dX11_init_435 : decode cX11_init 435 = .ok (.iastore, 1) := by decide +kernel
theorem dX11_init_436 : decode cX11_init 436 = .ok (.dup, 1) := by decide +kernel
theorem dX11_init_437 : decode cX11_init 437 = .ok (.bipush 43, 2) := by decide +kernel
theorem dX11_init_439 : decode cX11_init 439 = .ok (.bipush 32, 2) := by decide +kernel
theorem dX11_init_441 : decode cX11_init 441 = .ok (.iastore, 1) := by decide +kernel
theorem dX11_init_442 : decode cX11_init 442 = .ok (.dup, 1) := by decide +kernel
theorem dX11_init_443 : decode cX11_init 443 = .ok (.bipush 44, 2) := by decide +kernel
theorem dX11_init_445 : decode cX11_init 445 = .ok (.iconst 0, 1) := by decide +kernel
theorem dX11_init_446 : decode cX11_init 446 = .ok (.iastore, 1) := by decide +kernel
theorem dX11_init_447 : decode cX11_init 447 = .ok (.dup, 1) := by decide +kernel
theorem dX11_init_448 : decode cX11_init 448 = .ok (.bipush 45, 2) := by decide +kernel
theorem dX11_init_450 : decode cX11_init 450 = .ok (.bipush 100, 2) := by decide +kernel
theorem dX11_init_452 : decode cX11_init 452 = .ok (.iastore, 1) := by decide +kernel
theorem dX11_init_453 : decode cX11_init 453 = .ok (.dup, 1) := by decide +kernel
theorem dX11_init_454 : decode cX11_init 454 = .ok (.bipush 46, 2) := by decide +kernel
theorem dX11_init_456 : decode cX11_init 456 = .ok (.bipush 101, 2) := by decide +kernel
theorem dX11_init_458 : decode cX11_init 458 = .ok (.iastore, 1) := by decide +kernel
theorem dX11_init_459 : decode cX11_init 459 = .ok (.dup, 1) := by decide +kernel
theorem dX11_init_460 : decode cX11_init 460 = .ok (.bipush 47, 2) := by decide +kernel
theorem dX11_init_462 : decode cX11_init 462 = .ok (.bipush 118, 2) := by decide +kernel
theorem dX11_init_464 : decode cX11_init 464 = .ok (.iastore, 1) := by decide +kernel
theorem dX11_init_465 : decode cX11_init 465 = .ok (.dup, 1) := by decide +kernel
theorem dX11_init_466 : decode cX11_init 466 = .ok (.bipush 48, 2) := by decide +kernel
theorem dX11_init_468 : decode cX11_init 468 = .ok (.bipush 105, 2) := by decide +kernel
theorem dX11_init_470 : decode cX11_init 470 = .ok (.iastore, 1) := by decide +kernel
theorem dX11_init_471 : decode cX11_init 471 = .ok (.dup, 1) := by decide +kernel
theorem dX11_init_472 : decode cX11_init 472 = .ok (.bipush 49, 2) := by decide +kernel
theorem dX11_init_474 : decode cX11_init 474 = .ok (.bipush 99, 2) := by decide +kernel
theorem dX11_init_476 : decode cX11_init 476 = .ok (.iastore, 1) := by decide +kernel
theorem dX11_init_477 : decode cX11_init 477 = .ok (.dup, 1) := by decide +kernel
theorem dX11_init_478 : decode cX11_init 478 = .ok (.bipush 50, 2) := by decide +kernel
theorem dX11_init_480 : decode cX11_init 480 = .ok (.bipush 101, 2) := by decide +kernel
theorem dX11_init_482 : decode cX11_init 482 = .ok (.iastore, 1) := by decide +kernel
theorem dX11_init_483 : decode cX11_init 483 = .ok (.dup, 1) := by decide +kernel
theorem dX11_init_484 : decode cX11_init 484 = .ok (.bipush 51, 2) := by decide +kernel
theorem dX11_init_486 : decode cX11_init 486 = .ok (.bipush 32, 2) := by decide +kernel
theorem dX11_init_488 : decode cX11_init 488 = .ok (.iastore, 1) := by decide +kernel
theorem dX11_init_489 : decode cX11_init 489 = .ok (.dup, 1) := by decide +kernel
theorem dX11_init_490 : decode cX11_init 490 = .ok (.bipush 52, 2) := by decide +kernel
theorem dX11_init_492 : decode cX11_init 492 = .ok (.iconst 0, 1) := by decide +kernel
theorem dX11_init_493 : decode cX11_init 493 = .ok (.iastore, 1) := by decide +kernel
theorem dX11_init_494 : decode cX11_init 494 = .ok (.dup, 1) := by decide +kernel
theorem dX11_init_495 : decode cX11_init 495 = .ok (.bipush 53, 2) := by decide +kernel
theorem dX11_init_497 : decode cX11_init 497 = .ok (.bipush 111, 2) := by decide +kernel
theorem dX11_init_499 : decode cX11_init 499 = .ok (.iastore, 1) := by decide +kernel
theorem dX11_init_500 : decode cX11_init 500 = .ok (.dup, 1) := by decide +kernel
theorem dX11_init_501 : decode cX11_init 501 = .ok (.bipush 54, 2) := by decide +kernel
theorem dX11_init_503 : decode cX11_init 503 = .ok (.bipush 112, 2) := by decide +kernel
theorem dX11_init_505 : decode cX11_init 505 = .ok (.iastore, 1) := by decide +kernel
theorem dX11_init_506 : decode cX11_init 506 = .ok (.dup, 1) := by decide +kernel
theorem dX11_init_507 : decode cX11_init 507 = .ok (.bipush 55, 2) := by decide +kernel
theorem dX11_init_509 : decode cX11_init 509 = .ok (.bipush 101, 2) := by decide +kernel
theorem dX11_init_511 : decode cX11_init 511 = .ok (.iastore, 1) := by decide +kernel
theorem dX11_init_512 : decode cX11_init 512 = .ok (.dup, 1) := by decide +kernel
theorem dX11_init_513 : decode cX11_init 513 = .ok (.bipush 56, 2) := by decide +kernel
theorem dX11_init_515 : decode cX11_init 515 = .ok (.bipush 110, 2) := by decide +kernel
theorem dX11_init_517 : decode cX11_init 517 = .ok (.iastore, 1) := by decide +kernel
theorem dX11_init_518 : decode cX11_init 518 = .ok (.dup, 1) := by decide +kernel
theorem dX11_init_519 : decode cX11_init 519 = .ok (.bipush 57, 2) := by decide +kernel
theorem dX11_init_521 : decode cX11_init 521 = .ok (.bipush 32, 2) := by decide +kernel
theorem dX11_init_523 : decode cX11_init 523 = .ok (.iastore, 1) := by decide +kernel
theorem dX11_init_524 : decode cX11_init 524 = .ok (.dup, 1) := by decide +kernel
theorem dX11_init_525 : decode cX11_init 525 = .ok (.bipush 58, 2) := by decide +kernel
theorem dX11_init_527 : decode cX11_init 527 = .ok (.iconst 0, 1) := by decide +kernel
theorem dX11_init_528 : decode cX11_init 528 = .ok (.iastore, 1) := by decide +kernel
theorem dX11_init_529 : decode cX11_init 529 = .ok (.dup, 1) := by decide +kernel
theorem dX11_init_530 : decode cX11_init 530 = .ok (.bipush 59, 2) := by decide +kernel
theorem dX11_init_532 : decode cX11_init 532 = .ok (.bipush 115, 2) := by decide +kernel
theorem dX11_init_534 : decode cX11_init 534 = .ok (.iastore, 1) := by decide +kernel
theorem dX11_init_535 : decode cX11_init 535 = .ok (.dup, 1) := by decide +kernel
theorem dX11_init_536 : decode cX11_init 536 = .ok (.bipush 60, 2) := by decide +kernel
theorem dX11_init_538 : decode cX11_init 538 = .ok (.bipush 104, 2) := by decide +kernel
theorem dX11_init_540 : decode cX11_init 540 = .ok (.iastore, 1) := by decide +kernel
theorem dX11_init_541 : decode cX11_init 541 = .ok (.dup, 1) := by decide +kernel
theorem dX11_init_542 : decode cX11_init 542 = .ok (.bipush 61, 2) := by decide +kernel
theorem dX11_init_544 : decode cX11_init 544 = .ok (.bipush 117, 2) := by decide +kernel
theorem dX11_init_546 : decode cX11_init 546 = .ok (.iastore, 1) := by decide +kernel
theorem dX11_init_547 : decode cX11_init 547 = .ok (.dup, 1) := by decide +kernel
theorem dX11_init_548 : decode cX11_init 548 = .ok (.bipush 62, 2) := by decide +kernel
theorem dX11_init_550 : decode cX11_init 550 = .ok (.bipush 116, 2) := by decide +kernel
theorem dX11_init_552 : decode cX11_init 552 = .ok (.iastore, 1) := by decide +kernel
theorem dX11_init_553 : decode cX11_init 553 = .ok (.dup, 1) := by decide +kernel
theorem dX11_init_554 : decode cX11_init 554 = .ok (.bipush 63, 2) := by decide +kernel
theorem dX11_init_556 : decode cX11_init 556 = .ok (.bipush 32, 2) := by decide +kernel
theorem dX11_init_558 : decode cX11_init 558 = .ok (.iastore, 1) := by decide +kernel
theorem dX11_init_559 : decode cX11_init 559 = .ok (.dup, 1) := by decide +kernel
theorem dX11_init_560 : decode cX11_init 560 = .ok (.bipush 64, 2) := by decide +kernel
theorem dX11_init_562 : decode cX11_init 562 = .ok (.iconst 0, 1) := by decide +kernel
theorem dX11_init_563 : decode cX11_init 563 = .ok (.iastore, 1) := by decide +kernel
theorem dX11_init_564 : decode cX11_init 564 = .ok (.dup, 1) := by decide +kernel
theorem dX11_init_565 : decode cX11_init 565 = .ok (.bipush 65, 2) := by decide +kernel
theorem dX11_init_567 : decode cX11_init 567 = .ok (.bipush 109, 2) := by decide +kernel
theorem dX11_init_569 : decode cX11_init 569 = .ok (.iastore, 1) := by decide +kernel
theorem dX11_init_570 : decode cX11_init 570 = .ok (.dup, 1) := by decide +kernel
theorem dX11_init_571 : decode cX11_init 571 = .ok (.bipush 66, 2) := by decide +kernel
theorem dX11_init_573 : decode cX11_init 573 = .ok (.bipush 105, 2) := by decide +kernel
theorem dX11_init_575 : decode cX11_init 575 = .ok (.iastore, 1) := by decide +kernel
theorem dX11_init_576 : decode cX11_init 576 = .ok (.dup, 1) := by decide +kernel
theorem dX11_init_577 : decode cX11_init 577 = .ok (.bipush 67, 2) := by decide +kernel
theorem dX11_init_579 : decode cX11_init 579 = .ok (.bipush 110, 2) := by decide +kernel
theorem dX11_init_581 : decode cX11_init 581 = .ok (.iastore, 1) := by decide +kernel
theorem dX11_init_582 : decode cX11_init 582 = .ok (.dup, 1) := by decide +kernel
theorem dX11_init_583 : decode cX11_init 583 = .ok (.bipush 68, 2) := by decide +kernel
theorem dX11_init_585 : decode cX11_init 585 = .ok (.bipush 117, 2) := by decide +kernel
theorem dX11_init_587 : decode cX11_init 587 = .ok (.iastore, 1) := by decide +kernel
theorem dX11_init_588 : decode cX11_init 588 = .ok (.dup, 1) := by decide +kernel
theorem dX11_init_589 : decode cX11_init 589 = .ok (.bipush 69, 2) := by decide +kernel
theorem dX11_init_591 : decode cX11_init 591 = .ok (.bipush 116, 2) := by decide +kernel
theorem dX11_init_593 : decode cX11_init 593 = .ok (.iastore, 1) := by decide +kernel
theorem dX11_init_594 : decode cX11_init 594 = .ok (.dup, 1) := by decide +kernel
theorem dX11_init_595 : decode cX11_init 595 = .ok (.bipush 70, 2) := by decide +kernel
theorem dX11_init_597 : decode cX11_init 597 = .ok (.bipush 101, 2) := by decide +kernel
theorem dX11_init_599 : decode cX11_init 599 = .ok (.iastore, 1) := by decide +kernel
theorem dX11_init_600 : decode cX11_init 600 = .ok (.dup, 1) := by decide +kernel
theorem dX11_init_601 : decode cX11_init 601 = .ok (.bipush 71, 2) := by decide +kernel
theorem dX11_init_603 : decode cX11_init 603 = .ok (.bipush 32, 2) := by decide +kernel
theorem dX11_init_605 : decode cX11_init 605 = .ok (.iastore, 1) := by decide +kernel
theorem dX11_init_606 : decode cX11_init 606 = .ok (.dup, 1) := by decide +kernel
theorem dX11_init_607 : decode cX11_init 607 = .ok (.bipush 72, 2) := by decide +kernel
theorem dX11_init_609 : decode cX11_init 609 = .ok (.iconst 0, 1) := by decide +kernel
theorem dX11_init_610 : decode cX11_init 610 = .ok (.iastore, 1) := by decide +kernel
theorem dX11_init_611 : decode cX11_init 611 = .ok (.putfield 81, 3) := by decide +kernel
theorem dX11_init_614 : decode cX11_init 614 = .ok (.aload_n 0, 1) := by decide +kernel
theorem dX11_init_615 : decode cX11_init 615 = .ok (.bipush 10, 2) := by decide +kernel
theorem dX11_init_617 : decode cX11_init 617 = .ok (.newarray .int, 2) := by decide +kernel
theorem dX11_init_619 : decode cX11_init 619 = .ok (.dup, 1) := by decide +kernel
theorem dX11_init_620 : decode cX11_init 620 = .ok (.iconst 0, 1) := by decide +kernel
theorem dX11_init_621 : decode cX11_init 621 = .ok (.iconst 1, 1) := by decide +kernel
theorem dX11_init_622 : decode cX11_init 622 = .ok (.iastore, 1) := by decide +kernel
theorem dX11_init_623 : decode cX11_init 623 = .ok (.dup, 1) := by decide +kernel
theorem dX11_init_624 : decode cX11_init 624 = .ok (.iconst 1, 1) := by decide +kernel
theorem dX11_init_625 : decode cX11_init 625 = .ok (.iconst 3, 1) := by decide +kernel
theorem dX11_init_626 : decode cX11_init 626 = .ok (.iastore, 1) := by decide +kernel
theorem dX11_init_627 : decode cX11_init 627 = .ok (.dup, 1) := by decide +kernel
theorem dX11_init_628 : decode cX11_init 628 = .ok (.iconst 2, 1) := by decide +kernel
theorem dX11_init_629 : decode cX11_init 629 = .ok (.iconst 2, 1) := by decide +kernel
theorem dX11_init_630 : decode cX11_init 630 = .ok (.iastore, 1) := by decide +kernel
theorem dX11_init_631 : decode cX11_init 631 = .ok (.dup, 1) := by decide +kernel
theorem dX11_init_632 : decode cX11_init 632 = .ok (.iconst 3, 1) := by decide +kernel
theorem dX11_init_633 : decode cX11_init 633 = .ok (.iconst 1, 1) := by decide +kernel
theorem dX11_init_634 : decode cX11_init 634 = .ok (.iastore, 1) := by decide +kernel
theorem dX11_init_635 : decode cX11_init 635 = .ok (.dup, 1) := by decide +kernel
theorem dX11_init_636 : decode cX11_init 636 = .ok (.iconst 4, 1) := by decide +kernel
theorem dX11_init_637 : decode cX11_init 637 = .ok (.iconst 1, 1) := by decide +kernel
theorem dX11_init_638 : decode cX11_init 638 = .ok (.iastore, 1) := by decide +kernel
theorem dX11_init_639 : decode cX11_init 639 = .ok (.dup, 1) := by decide +kernel
theorem dX11_init_640 : decode cX11_init 640 = .ok (.iconst 5, 1) := by decide +kernel
theorem dX11_init_641 : decode cX11_init 641 = .ok (.iconst 2, 1) := by decide +kernel
theorem dX11_init_642 : decode cX11_init 642 = .ok (.iastore, 1) := by decide +kernel
theorem dX11_init_643 : decode cX11_init 643 = .ok (.dup, 1) := by decide +kernel
theorem dX11_init_644 : decode cX11_init 644 = .ok (.bipush 6, 2) := by decide +kernel
theorem dX11_init_646 : decode cX11_init 646 = .ok (.iconst 3, 1) := by decide +kernel
theorem dX11_init_647 : decode cX11_init 647 = .ok (.iastore, 1) := by decide +kernel
theorem dX11_init_648 : decode cX11_init 648 = .ok (.dup, 1) := by decide +kernel
theorem dX11_init_649 : decode cX11_init 649 = .ok (.bipush 7, 2) := by decide +kernel
theorem dX11_init_651 : decode cX11_init 651 = .ok (.iconst 1, 1) := by decide +kernel
theorem dX11_init_652 : decode cX11_init 652 = .ok (.iastore, 1) := by decide +kernel
theorem dX11_init_653 : decode cX11_init 653 = .ok (.dup, 1) := by decide +kernel
theorem dX11_init_654 : decode cX11_init 654 = .ok (.bipush 8, 2) := by decide +kernel
theorem dX11_init_656 : decode cX11_init 656 = .ok (.iconst 1, 1) := by decide +kernel
theorem dX11_init_657 : decode cX11_init 657 = .ok (.iastore, 1) := by decide +kernel
theorem dX11_init_658 : decode cX11_init 658 = .ok (.dup, 1) := by decide +kernel
theorem dX11_init_659 : decode cX11_init 659 = .ok (.bipush 9, 2) := by decide +kernel
theorem dX11_init_661 : decode cX11_init 661 = .ok (.iconst 1, 1) := by decide +kernel
theorem dX11_init_662 : decode cX11_init 662 = .ok (.iastore, 1) := by decide +kernel
theorem dX11_init_663 : decode cX11_init 663 = .ok (.putfield 84, 3) := by decide +kernel
theorem dX11_init_666 : decode cX11_init 666 = .ok (.aload_n 0, 1) := by decide +kernel
theorem dX11_init_667 : decode cX11_init 667 = .ok (.iconst 3, 1) := by decide +kernel
theorem dX11_init_668 : decode cX11_init 668 = .ok (.newarray .int, 2) := by decide +kernel
theorem dX11_init_670 : decode cX11_init 670 = .ok (.putfield 87, 3) := by decide +kernel
theorem dX11_init_673 : decode cX11_init 673 = .ok (.aload_n 0, 1) := by decide +kernel
theorem dX11_init_674 : decode cX11_init 674 = .ok (.bipush 120, 2) := by decide +kernel
theorem dX11_init_676 : decode cX11_init 676 = .ok (.newarray .int, 2) := by decide +kernel
theorem dX11_init_678 : decode cX11_init 678 = .ok (.putfield 90, 3) := by decide +kernel
theorem dX11_init_681 : decode cX11_init 681 = .ok (.aload_n 0, 1) := by decide +kernel
theorem dX11_init_682 : decode cX11_init 682 = .ok (.bipush 120, 2) := by decide +kernel
theorem dX11_init_684 : decode cX11_init 684 = .ok (.newarray .int, 2) := by decide +kernel
theorem dX11_init_686 : decode cX11_init 686 = .ok (.putfield 93, 3) := by decide +kernel
theorem dX11_init_689 : decode cX11_init 689 = .ok (.aload_n 0, 1) := by decide +kernel
theorem dX11_init_690 : decode cX11_init 690 = .ok (.bipush 80, 2) := by decide +kernel
theorem dX11_init_692 : decode cX11_init 692 = .ok (.newarray .int, 2) := by decide +kernel
theorem dX11_init_694 : decode cX11_init 694 = .ok (.putfield 96, 3) := by decide +kernel
theorem dX11_init_697 : decode cX11_init 697 = .ok (.aload_n 0, 1) := by decide +kernel
theorem dX11_init_698 : decode cX11_init 698 = .ok (.bipush 80, 2) := by decide +kernel
theorem dX11_init_700 : decode cX11_init 700 = .ok (.newarray .int, 2) := by decide +kernel
theorem dX11_init_702 : decode cX11_init 702 = .ok (.putfield 99, 3) := by decide +kernel
theorem dX11_init_705 : decode cX11_init 705 = .ok (.aload_n 0, 1) := by decide +kernel
theorem dX11_init_706 : decode cX11_init 706 = .ok (.iconst (-1), 1) := by decide +kernel
theorem dX11_init_707 : decode cX11_init 707 = .ok (.putfield 102, 3) := by decide +kernel
theorem dX11_init_710 : decode cX11_init 710 = .ok (.aload_n 0, 1) := by decide +kernel
theorem dX11_init_711 : decode cX11_init 711 = .ok (.bipush 8, 2) := by decide +kernel
theorem dX11_init_713 : decode cX11_init 713 = .ok (.newarray .int, 2) := by decide +kernel
theorem dX11_init_715 : decode cX11_init 715 = .ok (.putfield 105, 3) := by decide +kernel
theorem dX11_init_718 : decode cX11_init 718 = .ok (.aload_n 0, 1) := by decide +kernel
theorem dX11_init_719 : decode cX11_init 719 = .ok (.bipush 8, 2) := by decide +kernel
theorem dX11_init_721 : decode cX11_init 721 = .ok (.newarray .int, 2) := by decide +kernel
theorem dX11_init_723 : decode cX11_init 723 = .ok (.putfield 108, 3) := by decide +kernel
theorem dX11_init_726 : decode cX11_init 726 = .ok (.aload_n 0, 1) := by decide +kernel
theorem dX11_init_727 : decode cX11_init 727 = .ok (.bipush 8, 2) := by decide +kernel
theorem dX11_init_729 : decode cX11_init 729 = .ok (.newarray .int, 2) := by decide +kernel
theorem dX11_init_731 : decode cX11_init 731 = .ok (.putfield 111, 3) := by decide +kernel
theorem dX11_init_734 : decode cX11_init 734 = .ok (.aload_n 0, 1) := by decide +kernel
theorem dX11_init_735 : decode cX11_init 735 = .ok (.bipush 64, 2) := by decide +kernel
theorem dX11_init_737 : decode cX11_init 737 = .ok (.newarray .int, 2) := by decide +kernel
theorem dX11_init_739 : decode cX11_init 739 = .ok (.putfield 114, 3) := by decide +kernel
theorem dX11_init_742 : decode cX11_init 742 = .ok (.aload_n 0, 1) := by decide +kernel
theorem dX11_init_743 : decode cX11_init 743 = .ok (.bipush 6, 2) := by decide +kernel
theorem dX11_init_745 : decode cX11_init 745 = .ok (.newarray .int, 2) := by decide +kernel
theorem dX11_init_747 : decode cX11_init 747 = .ok (.putfield 117, 3) := by decide +kernel
theorem dX11_init_750 : decode cX11_init 750 = .ok (.aload_n 0, 1) := by decide +kernel
theorem dX11_init_751 : decode cX11_init 751 = .ok (.bipush 20, 2) := by decide +kernel
theorem dX11_init_753 : decode cX11_init 753 = .ok (.newarray .int, 2) := by decide +kernel
theorem dX11_init_755 : decode cX11_init 755 = .ok (.putfield 120, 3) := by decide +kernel
theorem dX11_init_758 : decode cX11_init 758 = .ok (.return_, 1) := by decide +kernel
theorem dX11_no_0 : decode cX11_no 0 = .ok (.aload_n 0, 1) := by decide +kernel
theorem dX11_no_1 : decode cX11_no 1 = .ok (.getfield 25, 3) := by decide +kernel
theorem dX11_no_4 : decode cX11_no 4 = .ok (.iload_n 1, 1) := by decide +kernel
theorem dX11_no_5 : decode cX11_no 5 = .ok (.ineg, 1) := by decide +kernel
theorem dX11_no_6 : decode cX11_no 6 = .ok (.dup2, 1) := by decide +kernel
theorem dX11_no_7 : decode cX11_no 7 = .ok (.iaload, 1) := by decide +kernel
theorem dX11_no_8 : decode cX11_no 8 = .ok (.iconst 1, 1) := by decide +kernel
theorem dX11_no_9 : decode cX11_no 9 = .ok (.iadd, 1) := by decide +kernel
theorem dX11_no_10 : decode cX11_no 10 = .ok (.iastore, 1) := by decide +kernel
theorem dX11_no_11 : decode cX11_no 11 = .ok (.iload_n 1, 1) := by decide +kernel
theorem dX11_no_12 : decode cX11_no 12 = .ok (.ireturn, 1) := by decide +kernel
theorem dX11_noTen_0 : decode cX11_noTen 0 = .ok (.aload_n 0, 1) := by decide +kernel
theorem dX11_noTen_1 : decode cX11_noTen 1 = .ok (.getfield 25, 3) := by decide +kernel
theorem dX11_noTen_4 : decode cX11_noTen 4 = .ok (.iload_n 1, 1) := by decide +kernel
theorem dX11_noTen_5 : decode cX11_noTen 5 = .ok (.ineg, 1) := by decide +kernel
theorem dX11_noTen_6 : decode cX11_noTen 6 = .ok (.dup2, 1) := by decide +kernel
theorem dX11_noTen_7 : decode cX11_noTen 7 = .ok (.iaload, 1) := by decide +kernel
theorem dX11_noTen_8 : decode cX11_noTen 8 = .ok (.iconst 1, 1) := by decide +kernel
theorem dX11_noTen_9 : decode cX11_noTen 9 = .ok (.iadd, 1) := by decide +kernel
theorem dX11_noTen_10 : decode cX11_noTen 10 = .ok (.iastore, 1) := by decide +kernel
theorem dX11_noTen_11 : decode cX11_noTen 11 = .ok (.iload_n 1, 1) := by decide +kernel
theorem dX11_noTen_12 : decode cX11_noTen 12 = .ok (.bipush 10, 2) := by decide +kernel
theorem dX11_noTen_14 : decode cX11_noTen 14 = .ok (.isub, 1) := by decide +kernel
theorem dX11_noTen_15 : decode cX11_noTen 15 = .ok (.ireturn, 1) := by decide +kernel
theorem dX11_isShelf_0 : decode cX11_isShelf 0 = .ok (.iload_n 1, 1) := by decide +kernel
theorem dX11_isShelf_1 : decode cX11_isShelf 1 = .ok (.ifCond .lt 13, 3) := by decide +kernel
theorem dX11_isShelf_4 : decode cX11_isShelf 4 = .ok (.iload_n 1, 1) := by decide +kernel
theorem dX11_isShelf_5 : decode cX11_isShelf 5 = .ok (.bipush 8, 2) := by decide +kernel
theorem dX11_isShelf_7 : decode cX11_isShelf 7 = .ok (.if_icmp .ge 7, 3) := by decide +kernel
theorem dX11_isShelf_10 : decode cX11_isShelf 10 = .ok (.iconst 1, 1) := by decide +kernel
theorem dX11_isShelf_11 : decode cX11_isShelf 11 = .ok (.goto 4, 3) := by decide +kernel
theorem dX11_isShelf_14 : decode cX11_isShelf 14 = .ok (.iconst 0, 1) := by decide +kernel
theorem dX11_isShelf_15 : decode cX11_isShelf 15 = .ok (.ireturn, 1) := by decide +kernel
theorem dX11_isThing_0 : decode cX11_isThing 0 = .ok (.iload_n 1, 1) := by decide +kernel
theorem dX11_isThing_1 : decode cX11_isThing 1 = .ok (.ifCond .lt 15, 3) := by decide +kernel
theorem dX11_isThing_4 : decode cX11_isThing 4 = .ok (.iload_n 1, 1) := by decide +kernel
theorem dX11_isThing_5 : decode cX11_isThing 5 = .ok (.aload_n 0, 1) := by decide +kernel
theorem dX11_isThing_6 : decode cX11_isThing 6 = .ok (.getfield 123, 3) := by decide +kernel
theorem dX11_isThing_9 : decode cX11_isThing 9 = .ok (.if_icmp .ge 7, 3) := by decide +kernel
theorem dX11_isThing_12 : decode cX11_isThing 12 = .ok (.iconst 1, 1) := by decide +kernel
theorem dX11_isThing_13 : decode cX11_isThing 13 = .ok (.goto 4, 3) := by decide +kernel
theorem dX11_isThing_16 : decode cX11_isThing 16 = .ok (.iconst 0, 1) := by decide +kernel
theorem dX11_isThing_17 : decode cX11_isThing 17 = .ok (.ireturn, 1) := by decide +kernel
theorem dX11_isCell_0 : decode cX11_isCell 0 = .ok (.iload_n 1, 1) := by decide +kernel
theorem dX11_isCell_1 : decode cX11_isCell 1 = .ok (.ifCond .lt 29, 3) := by decide +kernel
theorem dX11_isCell_4 : decode cX11_isCell 4 = .ok (.iload_n 1, 1) := by decide +kernel
theorem dX11_isCell_5 : decode cX11_isCell 5 = .ok (.bipush 10, 2) := by decide +kernel
theorem dX11_isCell_7 : decode cX11_isCell 7 = .ok (.idiv, 1) := by decide +kernel
theorem dX11_isCell_8 : decode cX11_isCell 8 = .ok (.aload_n 0, 1) := by decide +kernel
theorem dX11_isCell_9 : decode cX11_isCell 9 = .ok (.getfield 7, 3) := by decide +kernel
theorem dX11_isCell_12 : decode cX11_isCell 12 = .ok (.if_icmp .ge 18, 3) := by decide +kernel
theorem dX11_isCell_15 : decode cX11_isCell 15 = .ok (.iload_n 1, 1) := by decide +kernel
theorem dX11_isCell_16 : decode cX11_isCell 16 = .ok (.bipush 10, 2) := by decide +kernel
theorem dX11_isCell_18 : decode cX11_isCell 18 = .ok (.irem, 1) := by decide +kernel
theorem dX11_isCell_19 : decode cX11_isCell 19 = .ok (.aload_n 0, 1) := by decide +kernel
theorem dX11_isCell_20 : decode cX11_isCell 20 = .ok (.getfield 7, 3) := by decide +kernel
theorem dX11_isCell_23 : decode cX11_isCell 23 = .ok (.if_icmp .ge 7, 3) := by decide +kernel
theorem dX11_isCell_26 : decode cX11_isCell 26 = .ok (.iconst 1, 1) := by decide +kernel
theorem dX11_isCell_27 : decode cX11_isCell 27 = .ok (.goto 4, 3) := by decide +kernel
theorem dX11_isCell_30 : decode cX11_isCell 30 = .ok (.iconst 0, 1) := by decide +kernel
theorem dX11_isCell_31 : decode cX11_isCell 31 = .ok (.ireturn, 1) := by decide +kernel
theorem dX11_isFrom_0 : decode cX11_isFrom 0 = .ok (.iload_n 1, 1) := by decide +kernel
theorem dX11_isFrom_1 : decode cX11_isFrom 1 = .ok (.iload_n 2, 1) := by decide +kernel
theorem dX11_isFrom_2 : decode cX11_isFrom 2 = .ok (.if_icmp .lt 12, 3) := by decide +kernel
theorem dX11_isFrom_5 : decode cX11_isFrom 5 = .ok (.iload_n 1, 1) := by decide +kernel
theorem dX11_isFrom_6 : decode cX11_isFrom 6 = .ok (.iload_n 3, 1) := by decide +kernel
theorem dX11_isFrom_7 : decode cX11_isFrom 7 = .ok (.if_icmp .gt 7, 3) := by decide +kernel
theorem dX11_isFrom_10 : decode cX11_isFrom 10 = .ok (.iconst 1, 1) := by decide +kernel
theorem dX11_isFrom_11 : decode cX11_isFrom 11 = .ok (.goto 4, 3) := by decide +kernel
theorem dX11_isFrom_14 : decode cX11_isFrom 14 = .ok (.iconst 0, 1) := by decide +kernel
theorem dX11_isFrom_15 : decode cX11_isFrom 15 = .ok (.ireturn, 1) := by decide +kernel
theorem dX11_row_0 : decode cX11_row 0 = .ok (.aload_n 0, 1) := by decide +kernel
theorem dX11_row_1 : decode cX11_row 1 = .ok (.iload_n 1, 1) := by decide +kernel
theorem dX11_row_2 : decode cX11_row 2 = .ok (.invokevirtual 126, 3) := by decide +kernel
theorem dX11_row_5 : decode cX11_row 5 = .ok (.ifCond .ne 9, 3) := by decide +kernel
theorem dX11_row_8 : decode cX11_row 8 = .ok (.aload_n 0, 1) := by decide +kernel
theorem dX11_row_9 : decode cX11_row 9 = .ok (.iconst (-1), 1) := by decide +kernel
theorem dX11_row_10 : decode cX11_row 10 = .ok (.invokevirtual 130, 3) := by decide +kernel
theorem dX11_row_13 : decode cX11_row 13 = .ok (.ireturn, 1) := by decide +kernel
theorem dX11_row_14 : decode cX11_row 14 = .ok (.iload_n 3, 1) := by decide +kernel
theorem dX11_row_15 : decode cX11_row 15 = .ok (.ifCond .ge 10, 3) := by decide +kernel
theorem dX11_row_18 : decode cX11_row 18 = .ok (.aload_n 0, 1) := by decide +kernel
theorem dX11_row_19 : decode cX11_row 19 = .ok (.bipush (-4), 2) := by decide +kernel
theorem dX11_row_21 : decode cX11_row 21 = .ok (.invokevirtual 130, 3) := by decide +kernel
theorem dX11_row_24 : decode cX11_row 24 = .ok (.ireturn, 1) := by decide +kernel
theorem dX11_row_25 : decode cX11_row 25 = .ok (.iload_n 2, 1) := by decide +kernel
theorem dX11_row_26 : decode cX11_row 26 = .ok (.ifCond .lt 8, 3) := by decide +kernel
theorem dX11_row_29 : decode cX11_row 29 = .ok (.iload_n 2, 1) := by decide +kernel
theorem dX11_row_30 : decode cX11_row 30 = .ok (.iconst 3, 1) := by decide +kernel
theorem dX11_row_31 : decode cX11_row 31 = .ok (.if_icmp .le 10, 3) := by decide +kernel
theorem dX11_row_34 : decode cX11_row 34 = .ok (.aload_n 0, 1) := by decide +kernel
theorem dX11_row_35 : decode cX11_row 35 = .ok (.bipush (-6), 2) := by decide +kernel
theorem dX11_row_37 : decode cX11_row 37 = .ok (.invokevirtual 130, 3) := by decide +kernel
theorem dX11_row_40 : decode cX11_row 40 = .ok (.ireturn, 1) := by decide +kernel
theorem dX11_row_41 : decode cX11_row 41 = .ok (.iload_n 3, 1) := by decide +kernel
theorem dX11_row_42 : decode cX11_row 42 = .ok (.sipush 160, 3) := by decide +kernel
theorem dX11_row_45 : decode cX11_row 45 = .ok (.if_icmp .le 10, 3) := by decide +kernel
theorem dX11_row_48 : decode cX11_row 48 = .ok (.aload_n 0, 1) := by decide +kernel
theorem dX11_row_49 : decode cX11_row 49 = .ok (.bipush (-7), 2) := by decide +kernel
theorem dX11_row_51 : decode cX11_row 51 = .ok (.invokevirtual 130, 3) := by decide +kernel
theorem dX11_row_54 : decode cX11_row 54 = .ok (.ireturn, 1) := by decide +kernel
theorem dX11_row_55 : decode cX11_row 55 = .ok (.aload_n 0, 1) := by decide +kernel
theorem dX11_row_56 : decode cX11_row 56 = .ok (.getfield 62, 3) := by decide +kernel
theorem dX11_row_59 : decode cX11_row 59 = .ok (.iload_n 1, 1) := by decide +kernel
theorem dX11_row_60 : decode cX11_row 60 = .ok (.iconst 1, 1) := by decide +kernel
theorem dX11_row_61 : decode cX11_row 61 = .ok (.iastore, 1) := by decide +kernel
theorem dX11_row_62 : decode cX11_row 62 = .ok (.aload_n 0, 1) := by decide +kernel
theorem dX11_row_63 : decode cX11_row 63 = .ok (.getfield 65, 3) := by decide +kernel
theorem dX11_row_66 : decode cX11_row 66 = .ok (.iload_n 1, 1) := by decide +kernel
theorem dX11_row_67 : decode cX11_row 67 = .ok (.iload_n 2, 1) := by decide +kernel
theorem dX11_row_68 : decode cX11_row 68 = .ok (.iastore, 1) := by decide +kernel
theorem dX11_row_69 : decode cX11_row 69 = .ok (.aload_n 0, 1) := by decide +kernel
theorem dX11_row_70 : decode cX11_row 70 = .ok (.getfield 68, 3) := by decide +kernel
theorem dX11_row_73 : decode cX11_row 73 = .ok (.iload_n 1, 1) := by decide +kernel
theorem dX11_row_74 : decode cX11_row 74 = .ok (.iload_n 3, 1) := by decide +kernel
theorem dX11_row_75 : decode cX11_row 75 = .ok (.iastore, 1) := by decide +kernel
theorem dX11_row_76 : decode cX11_row 76 = .ok (.iconst 0, 1) := by decide +kernel
theorem dX11_row_77 : decode cX11_row 77 = .ok (.istore 4, 2) := by decide +kernel
theorem dX11_row_79 : decode cX11_row 79 = .ok (.iload 4, 2) := by decide +kernel
theorem dX11_row_81 : decode cX11_row 81 = .ok (.sipush 160, 3) := by decide +kernel
theorem dX11_row_84 : decode cX11_row 84 = .ok (.if_icmp .ge 23, 3) := by decide +kernel
theorem dX11_row_87 : decode cX11_row 87 = .ok (.aload_n 0, 1) := by decide +kernel
theorem dX11_row_88 : decode cX11_row 88 = .ok (.getfield 74, 3) := by decide +kernel
theorem dX11_row_91 : decode cX11_row 91 = .ok (.sipush 160, 3) := by decide +kernel
theorem dX11_row_94 : decode cX11_row 94 = .ok (.iload_n 1, 1) := by decide +kernel
theorem dX11_row_95 : decode cX11_row 95 = .ok (.imul, 1) := by decide +kernel
theorem dX11_row_96 : decode cX11_row 96 = .ok (.iload 4, 2) := by decide +kernel
theorem dX11_row_98 : decode cX11_row 98 = .ok (.iadd, 1) := by decide +kernel
theorem dX11_row_99 : decode cX11_row 99 = .ok (.lconst 0, 1) := by decide +kernel
theorem dX11_row_100 : decode cX11_row 100 = .ok (.lastore, 1) := by decide +kernel
theorem dX11_row_101 : decode cX11_row 101 = .ok (.iinc 4 1, 3) := by decide +kernel
theorem dX11_row_104 : decode cX11_row 104 = .ok (.goto (-25), 3) := by decide +kernel
theorem dX11_row_107 : decode cX11_row 107 = .ok (.iconst 1, 1) := by decide +kernel
theorem dX11_row_108 : decode cX11_row 108 = .ok (.ireturn, 1) := by decide +kernel
theorem dX11_set_0 : decode cX11_set 0 = .ok (.aload_n 0, 1) := by decide +kernel
theorem dX11_set_1 : decode cX11_set 1 = .ok (.iload_n 1, 1) := by decide +kernel
theorem dX11_set_2 : decode cX11_set 2 = .ok (.invokevirtual 126, 3) := by decide +kernel
theorem dX11_set_5 : decode cX11_set 5 = .ok (.ifCond .ne 9, 3) := by decide +kernel
theorem dX11_set_8 : decode cX11_set 8 = .ok (.aload_n 0, 1) := by decide +kernel
theorem dX11_set_9 : decode cX11_set 9 = .ok (.iconst (-1), 1) := by decide +kernel
theorem dX11_set_10 : decode cX11_set 10 = .ok (.invokevirtual 130, 3) := by decide +kernel
theorem dX11_set_13 : decode cX11_set 13 = .ok (.ireturn, 1) := by decide +kernel
theorem dX11_set_14 : decode cX11_set 14 = .ok (.aload_n 0, 1) := by decide +kernel
theorem dX11_set_15 : decode cX11_set 15 = .ok (.getfield 62, 3) := by decide +kernel
theorem dX11_set_18 : decode cX11_set 18 = .ok (.iload_n 1, 1) := by decide +kernel
theorem dX11_set_19 : decode cX11_set 19 = .ok (.iaload, 1) := by decide +kernel
theorem dX11_set_20 : decode cX11_set 20 = .ok (.iconst 2, 1) := by decide +kernel
theorem dX11_set_21 : decode cX11_set 21 = .ok (.if_icmp .ne 10, 3) := by decide +kernel
theorem dX11_set_24 : decode cX11_set 24 = .ok (.aload_n 0, 1) := by decide +kernel
theorem dX11_set_25 : decode cX11_set 25 = .ok (.bipush (-2), 2) := by decide +kernel
theorem dX11_set_27 : decode cX11_set 27 = .ok (.invokevirtual 130, 3) := by decide +kernel
theorem dX11_set_30 : decode cX11_set 30 = .ok (.ireturn, 1) := by decide +kernel
theorem dX11_set_31 : decode cX11_set 31 = .ok (.aload_n 0, 1) := by decide +kernel
theorem dX11_set_32 : decode cX11_set 32 = .ok (.getfield 62, 3) := by decide +kernel
theorem dX11_set_35 : decode cX11_set 35 = .ok (.iload_n 1, 1) := by decide +kernel
theorem dX11_set_36 : decode cX11_set 36 = .ok (.iaload, 1) := by decide +kernel
theorem dX11_set_37 : decode cX11_set 37 = .ok (.ifCond .ne 10, 3) := by decide +kernel
theorem dX11_set_40 : decode cX11_set 40 = .ok (.aload_n 0, 1) := by decide +kernel
theorem dX11_set_41 : decode cX11_set 41 = .ok (.bipush (-3), 2) := by decide +kernel
theorem dX11_set_43 : decode cX11_set 43 = .ok (.invokevirtual 130, 3) := by decide +kernel
theorem dX11_set_46 : decode cX11_set 46 = .ok (.ireturn, 1) := by decide +kernel
theorem dX11_set_47 : decode cX11_set 47 = .ok (.iload_n 2, 1) := by decide +kernel
theorem dX11_set_48 : decode cX11_set 48 = .ok (.ifCond .lt 13, 3) := by decide +kernel
theorem dX11_set_51 : decode cX11_set 51 = .ok (.iload_n 2, 1) := by decide +kernel
theorem dX11_set_52 : decode cX11_set 52 = .ok (.aload_n 0, 1) := by decide +kernel
theorem dX11_set_53 : decode cX11_set 53 = .ok (.getfield 68, 3) := by decide +kernel
theorem dX11_set_56 : decode cX11_set 56 = .ok (.iload_n 1, 1) := by decide +kernel
theorem dX11_set_57 : decode cX11_set 57 = .ok (.iaload, 1) := by decide +kernel
theorem dX11_set_58 : decode cX11_set 58 = .ok (.if_icmp .lt 10, 3) := by decide +kernel
theorem dX11_set_61 : decode cX11_set 61 = .ok (.aload_n 0, 1) := by decide +kernel
theorem dX11_set_62 : decode cX11_set 62 = .ok (.bipush (-5), 2) := by decide +kernel
theorem dX11_set_64 : decode cX11_set 64 = .ok (.invokevirtual 130, 3) := by decide +kernel
theorem dX11_set_67 : decode cX11_set 67 = .ok (.ireturn, 1) := by decide +kernel
theorem dX11_set_68 : decode cX11_set 68 = .ok (.aload_n 0, 1) := by decide +kernel
theorem dX11_set_69 : decode cX11_set 69 = .ok (.getfield 74, 3) := by decide +kernel
theorem dX11_set_72 : decode cX11_set 72 = .ok (.sipush 160, 3) := by decide +kernel
theorem dX11_set_75 : decode cX11_set 75 = .ok (.iload_n 1, 1) := by decide +kernel
theorem dX11_set_76 : decode cX11_set 76 = .ok (.imul, 1) := by decide +kernel
theorem dX11_set_77 : decode cX11_set 77 = .ok (.iload_n 2, 1) := by decide +kernel
theorem dX11_set_78 : decode cX11_set 78 = .ok (.iadd, 1) := by decide +kernel
theorem dX11_set_79 : decode cX11_set 79 = .ok (.aload_n 0, 1) := by decide +kernel
theorem dX11_set_80 : decode cX11_set 80 = .ok (.getfield 65, 3) := by decide +kernel
theorem dX11_set_83 : decode cX11_set 83 = .ok (.iload_n 1, 1) := by decide +kernel
theorem dX11_set_84 : decode cX11_set 84 = .ok (.iaload, 1) := by decide +kernel
theorem dX11_set_85 : decode cX11_set 85 = .ok (.ifCond .ne 10, 3) := by decide +kernel
theorem dX11_set_88 : decode cX11_set 88 = .ok (.lload_n 3, 1) := by decide +kernel
theorem dX11_set_89 : decode cX11_set 89 = .ok (.l2i, 1) := by decide +kernel
theorem dX11_set_90 : decode cX11_set 90 = .ok (.i2b, 1) := by decide +kernel
theorem dX11_set_91 : decode cX11_set 91 = .ok (.i2l, 1) := by decide +kernel
theorem dX11_set_92 : decode cX11_set 92 = .ok (.goto 37, 3) := by decide +kernel
theorem dX11_set_95 : decode cX11_set 95 = .ok (.aload_n 0, 1) := by decide +kernel
theorem dX11_set_96 : decode cX11_set 96 = .ok (.getfield 65, 3) := by decide +kernel
theorem dX11_set_99 : decode cX11_set 99 = .ok (.iload_n 1, 1) := by decide +kernel
theorem dX11_set_100 : decode cX11_set 100 = .ok (.iaload, 1) := by decide +kernel
theorem dX11_set_101 : decode cX11_set 101 = .ok (.iconst 1, 1) := by decide +kernel
theorem dX11_set_102 : decode cX11_set 102 = .ok (.if_icmp .ne 10, 3) := by decide +kernel
theorem dX11_set_105 : decode cX11_set 105 = .ok (.lload_n 3, 1) := by decide +kernel
theorem dX11_set_106 : decode cX11_set 106 = .ok (.l2i, 1) := by decide +kernel
theorem dX11_set_107 : decode cX11_set 107 = .ok (.i2s, 1) := by decide +kernel
theorem dX11_set_108 : decode cX11_set 108 = .ok (.i2l, 1) := by decide +kernel
theorem dX11_set_109 : decode cX11_set 109 = .ok (.goto 20, 3) := by decide +kernel
theorem dX11_set_112 : decode cX11_set 112 = .ok (.aload_n 0, 1) := by decide +kernel
theorem dX11_set_113 : decode cX11_set 113 = .ok (.getfield 65, 3) := by decide +kernel
theorem dX11_set_116 : decode cX11_set 116 = .ok (.iload_n 1, 1) := by decide +kernel
theorem dX11_set_117 : decode cX11_set 117 = .ok (.iaload, 1) := by decide +kernel
theorem dX11_set_118 : decode cX11_set 118 = .ok (.iconst 2, 1) := by decide +kernel
theorem dX11_set_119 : decode cX11_set 119 = .ok (.if_icmp .ne 9, 3) := by decide +kernel
theorem dX11_set_122 : decode cX11_set 122 = .ok (.lload_n 3, 1) := by decide +kernel
theorem dX11_set_123 : decode cX11_set 123 = .ok (.l2i, 1) := by decide +kernel
theorem dX11_set_124 : decode cX11_set 124 = .ok (.i2l, 1) := by decide +kernel
theorem dX11_set_125 : decode cX11_set 125 = .ok (.goto 4, 3) := by decide +kernel
theorem dX11_set_128 : decode cX11_set 128 = .ok (.lload_n 3, 1) := by decide +kernel
theorem dX11_set_129 : decode cX11_set 129 = .ok (.lastore, 1) := by decide +kernel
theorem dX11_set_130 : decode cX11_set 130 = .ok (.iconst 1, 1) := by decide +kernel
theorem dX11_set_131 : decode cX11_set 131 = .ok (.ireturn, 1) := by decide +kernel
theorem dX11_copy_0 : decode cX11_copy 0 = .ok (.aload_n 0, 1) := by decide +kernel
theorem dX11_copy_1 : decode cX11_copy 1 = .ok (.iload_n 1, 1) := by decide +kernel
theorem dX11_copy_2 : decode cX11_copy 2 = .ok (.invokevirtual 126, 3) := by decide +kernel
theorem dX11_copy_5 : decode cX11_copy 5 = .ok (.ifCond .eq 11, 3) := by decide +kernel
theorem dX11_copy_8 : decode cX11_copy 8 = .ok (.aload_n 0, 1) := by decide +kernel
theorem dX11_copy_9 : decode cX11_copy 9 = .ok (.iload_n 2, 1) := by decide +kernel
theorem dX11_copy_10 : decode cX11_copy 10 = .ok (.invokevirtual 126, 3) := by decide +kernel
theorem dX11_copy_13 : decode cX11_copy 13 = .ok (.ifCond .ne 9, 3) := by decide +kernel
theorem dX11_copy_16 : decode cX11_copy 16 = .ok (.aload_n 0, 1) := by decide +kernel
theorem dX11_copy_17 : decode cX11_copy 17 = .ok (.iconst (-1), 1) := by decide +kernel
theorem dX11_copy_18 : decode cX11_copy 18 = .ok (.invokevirtual 130, 3) := by decide +kernel
theorem dX11_copy_21 : decode cX11_copy 21 = .ok (.ireturn, 1) := by decide +kernel
theorem dX11_copy_22 : decode cX11_copy 22 = .ok (.aload_n 0, 1) := by decide +kernel
theorem dX11_copy_23 : decode cX11_copy 23 = .ok (.getfield 62, 3) := by decide +kernel
theorem dX11_copy_26 : decode cX11_copy 26 = .ok (.iload_n 1, 1) := by decide +kernel
theorem dX11_copy_27 : decode cX11_copy 27 = .ok (.iaload, 1) := by decide +kernel
theorem dX11_copy_28 : decode cX11_copy 28 = .ok (.iconst 2, 1) := by decide +kernel
theorem dX11_copy_29 : decode cX11_copy 29 = .ok (.if_icmp .eq 48, 3) := by decide +kernel
theorem dX11_copy_32 : decode cX11_copy 32 = .ok (.aload_n 0, 1) := by decide +kernel
theorem dX11_copy_33 : decode cX11_copy 33 = .ok (.getfield 62, 3) := by decide +kernel
theorem dX11_copy_36 : decode cX11_copy 36 = .ok (.iload_n 2, 1) := by decide +kernel
theorem dX11_copy_37 : decode cX11_copy 37 = .ok (.iaload, 1) := by decide +kernel
theorem dX11_copy_38 : decode cX11_copy 38 = .ok (.iconst 2, 1) := by decide +kernel
theorem dX11_copy_39 : decode cX11_copy 39 = .ok (.if_icmp .eq 38, 3) := by decide +kernel
theorem dX11_copy_42 : decode cX11_copy 42 = .ok (.aload_n 0, 1) := by decide +kernel
theorem dX11_copy_43 : decode cX11_copy 43 = .ok (.getfield 62, 3) := by decide +kernel
theorem dX11_copy_46 : decode cX11_copy 46 = .ok (.iload_n 1, 1) := by decide +kernel
theorem dX11_copy_47 : decode cX11_copy 47 = .ok (.iaload, 1) := by decide +kernel
theorem dX11_copy_48 : decode cX11_copy 48 = .ok (.iconst 1, 1) := by decide +kernel
theorem dX11_copy_49 : decode cX11_copy 49 = .ok (.if_icmp .ne 35, 3) := by decide +kernel
theorem dX11_copy_52 : decode cX11_copy 52 = .ok (.aload_n 0, 1) := by decide +kernel
theorem dX11_copy_53 : decode cX11_copy 53 = .ok (.getfield 62, 3) := by decide +kernel
theorem dX11_copy_56 : decode cX11_copy 56 = .ok (.iload_n 2, 1) := by decide +kernel
theorem dX11_copy_57 : decode cX11_copy 57 = .ok (.iaload, 1) := by decide +kernel
theorem dX11_copy_58 : decode cX11_copy 58 = .ok (.iconst 1, 1) := by decide +kernel
theorem dX11_copy_59 : decode cX11_copy 59 = .ok (.if_icmp .ne 25, 3) := by decide +kernel
theorem dX11_copy_62 : decode cX11_copy 62 = .ok (.aload_n 0, 1) := by decide +kernel
theorem dX11_copy_63 : decode cX11_copy 63 = .ok (.getfield 65, 3) := by decide +kernel
theorem dX11_copy_66 : decode cX11_copy 66 = .ok (.iload_n 1, 1) := by decide +kernel
theorem dX11_copy_67 : decode cX11_copy 67 = .ok (.iaload, 1) := by decide +kernel
theorem dX11_copy_68 : decode cX11_copy 68 = .ok (.aload_n 0, 1) := by decide +kernel
theorem dX11_copy_69 : decode cX11_copy 69 = .ok (.getfield 65, 3) := by decide +kernel
theorem dX11_copy_72 : decode cX11_copy 72 = .ok (.iload_n 2, 1) := by decide +kernel
theorem dX11_copy_73 : decode cX11_copy 73 = .ok (.iaload, 1) := by decide +kernel
theorem dX11_copy_74 : decode cX11_copy 74 = .ok (.if_icmp .eq 10, 3) := by decide +kernel
theorem dX11_copy_77 : decode cX11_copy 77 = .ok (.aload_n 0, 1) := by decide +kernel
theorem dX11_copy_78 : decode cX11_copy 78 = .ok (.bipush (-2), 2) := by decide +kernel
theorem dX11_copy_80 : decode cX11_copy 80 = .ok (.invokevirtual 130, 3) := by decide +kernel
theorem dX11_copy_83 : decode cX11_copy 83 = .ok (.ireturn, 1) := by decide +kernel
theorem dX11_copy_84 : decode cX11_copy 84 = .ok (.aload_n 0, 1) := by decide +kernel
theorem dX11_copy_85 : decode cX11_copy 85 = .ok (.getfield 62, 3) := by decide +kernel
theorem dX11_copy_88 : decode cX11_copy 88 = .ok (.iload_n 1, 1) := by decide +kernel
theorem dX11_copy_89 : decode cX11_copy 89 = .ok (.iaload, 1) := by decide +kernel
theorem dX11_copy_90 : decode cX11_copy 90 = .ok (.ifCond .eq 12, 3) := by decide +kernel
theorem dX11_copy_93 : decode cX11_copy 93 = .ok (.aload_n 0, 1) := by decide +kernel
theorem dX11_copy_94 : decode cX11_copy 94 = .ok (.getfield 62, 3) := by decide +kernel
theorem dX11_copy_97 : decode cX11_copy 97 = .ok (.iload_n 2, 1) := by decide +kernel
theorem dX11_copy_98 : decode cX11_copy 98 = .ok (.iaload, 1) := by decide +kernel
theorem dX11_copy_99 : decode cX11_copy 99 = .ok (.ifCond .ne 10, 3) := by decide +kernel
theorem dX11_copy_102 : decode cX11_copy 102 = .ok (.aload_n 0, 1) := by decide +kernel
theorem dX11_copy_103 : decode cX11_copy 103 = .ok (.bipush (-3), 2) := by decide +kernel
theorem dX11_copy_105 : decode cX11_copy 105 = .ok (.invokevirtual 130, 3) := by decide +kernel
theorem dX11_copy_108 : decode cX11_copy 108 = .ok (.ireturn, 1) := by decide +kernel
theorem dX11_copy_109 : decode cX11_copy 109 = .ok (.iload 5, 2) := by decide +kernel
theorem dX11_copy_111 : decode cX11_copy 111 = .ok (.ifCond .ge 10, 3) := by decide +kernel
theorem dX11_copy_114 : decode cX11_copy 114 = .ok (.aload_n 0, 1) := by decide +kernel
theorem dX11_copy_115 : decode cX11_copy 115 = .ok (.bipush (-4), 2) := by decide +kernel
theorem dX11_copy_117 : decode cX11_copy 117 = .ok (.invokevirtual 130, 3) := by decide +kernel
theorem dX11_copy_120 : decode cX11_copy 120 = .ok (.ireturn, 1) := by decide +kernel
theorem dX11_copy_121 : decode cX11_copy 121 = .ok (.iload_n 3, 1) := by decide +kernel
theorem dX11_copy_122 : decode cX11_copy 122 = .ok (.ifCond .lt 35, 3) := by decide +kernel
theorem dX11_copy_125 : decode cX11_copy 125 = .ok (.iload 4, 2) := by decide +kernel
theorem dX11_copy_127 : decode cX11_copy 127 = .ok (.ifCond .lt 30, 3) := by decide +kernel
theorem dX11_copy_130 : decode cX11_copy 130 = .ok (.iload_n 3, 1) := by decide +kernel
theorem dX11_copy_131 : decode cX11_copy 131 = .ok (.aload_n 0, 1) := by decide +kernel
theorem dX11_copy_132 : decode cX11_copy 132 = .ok (.getfield 68, 3) := by decide +kernel
theorem dX11_copy_135 : decode cX11_copy 135 = .ok (.iload_n 1, 1) := by decide +kernel
theorem dX11_copy_136 : decode cX11_copy 136 = .ok (.iaload, 1) := by decide +kernel
theorem dX11_copy_137 : decode cX11_copy 137 = .ok (.iload 5, 2) := by decide +kernel
theorem dX11_copy_139 : decode cX11_copy 139 = .ok (.isub, 1) := by decide +kernel
theorem dX11_copy_140 : decode cX11_copy 140 = .ok (.if_icmp .gt 17, 3) := by decide +kernel
theorem dX11_copy_143 : decode cX11_copy 143 = .ok (.iload 4, 2) := by decide +kernel
theorem dX11_copy_145 : decode cX11_copy 145 = .ok (.aload_n 0, 1) := by decide +kernel
theorem dX11_copy_146 : decode cX11_copy 146 = .ok (.getfield 68, 3) := by decide +kernel
theorem dX11_copy_149 : decode cX11_copy 149 = .ok (.iload_n 2, 1) := by decide +kernel
theorem dX11_copy_150 : decode cX11_copy 150 = .ok (.iaload, 1) := by decide +kernel
theorem dX11_copy_151 : decode cX11_copy 151 = .ok (.iload 5, 2) := by decide +kernel
theorem dX11_copy_153 : decode cX11_copy 153 = .ok (.isub, 1) := by decide +kernel
theorem dX11_copy_154 : decode cX11_copy 154 = .ok (.if_icmp .le 10, 3) := by decide +kernel
theorem dX11_copy_157 : decode cX11_copy 157 = .ok (.aload_n 0, 1) := by decide +kernel
theorem dX11_copy_158 : decode cX11_copy 158 = .ok (.bipush (-5), 2) := by decide +kernel
theorem dX11_copy_160 : decode cX11_copy 160 = .ok (.invokevirtual 130, 3) := by decide +kernel
theorem dX11_copy_163 : decode cX11_copy 163 = .ok (.ireturn, 1) := by decide +kernel
theorem dX11_copy_164 : decode cX11_copy 164 = .ok (.iconst 0, 1) := by decide +kernel
theorem dX11_copy_165 : decode cX11_copy 165 = .ok (.istore 6, 2) := by decide +kernel
