theorem dX8_init_0 : decode cX8_init 0 = .ok (.aload_n 0, 1) := by decide +kernel
theorem dX8_init_1 : decode cX8_init 1 = .ok (.invokespecial 1, 3) := by decide +kernel
theorem dX8_init_4 : decode cX8_init 4 = .ok (.aload_n 0, 1) := by decide +kernel
theorem dX8_init_5 : decode cX8_init 5 = .ok (.iconst 1, 1) := by decide +kernel
theorem dX8_init_6 : decode cX8_init 6 = .ok (.putfield 7, 3) := by decide +kernel
theorem dX8_init_9 : decode cX8_init 9 = .ok (.aload_n 0, 1) := by decide +kernel
theorem dX8_init_10 : decode cX8_init 10 = .ok (.bipush 30, 2) := by decide +kernel
theorem dX8_init_12 : decode cX8_init 12 = .ok (.newarray .int, 2) := by decide +kernel
theorem dX8_init_14 : decode cX8_init 14 = .ok (.putfield 13, 3) := by decide +kernel
theorem dX8_init_17 : decode cX8_init 17 = .ok (.aload_n 0, 1) := by decide +kernel
theorem dX8_init_18 : decode cX8_init 18 = .ok (.bipush 30, 2) := by decide +kernel
theorem dX8_init_20 : decode cX8_init 20 = .ok (.newarray .int, 2) := by decide +kernel
theorem dX8_init_22 : decode cX8_init 22 = .ok (.putfield 17, 3) := by decide +kernel
theorem dX8_init_25 : decode cX8_init 25 = .ok (.aload_n 0, 1) := by decide +kernel
theorem dX8_init_26 : decode cX8_init 26 = .ok (.bipush 30, 2) := by decide +kernel
theorem dX8_init_28 : decode cX8_init 28 = .ok (.newarray .boolean, 2) := by decide +kernel
theorem dX8_init_30 : decode cX8_init 30 = .ok (.putfield 20, 3) := by decide +kernel
theorem dX8_init_33 : decode cX8_init 33 = .ok (.aload_n 0, 1) := by decide +kernel
theorem dX8_init_34 : decode cX8_init 34 = .ok (.bipush 40, 2) := by decide +kernel
theorem dX8_init_36 : decode cX8_init 36 = .ok (.newarray .int, 2) := by decide +kernel
theorem dX8_init_38 : decode cX8_init 38 = .ok (.putfield 24, 3) := by decide +kernel
theorem dX8_init_41 : decode cX8_init 41 = .ok (.aload_n 0, 1) := by decide +kernel
theorem dX8_init_42 : decode cX8_init 42 = .ok (.sipush 2400, 3) := by decide +kernel
theorem dX8_init_45 : decode cX8_init 45 = .ok (.newarray .int, 2) := by decide +kernel
theorem dX8_init_47 : decode cX8_init 47 = .ok (.putfield 27, 3) := by decide +kernel
theorem dX8_init_50 : decode cX8_init 50 = .ok (.aload_n 0, 1) := by decide +kernel
theorem dX8_init_51 : decode cX8_init 51 = .ok (.bipush 40, 2) := by decide +kernel
theorem dX8_init_53 : decode cX8_init 53 = .ok (.newarray .int, 2) := by decide +kernel
theorem dX8_init_55 : decode cX8_init 55 = .ok (.putfield 30, 3) := by decide +kernel
theorem dX8_init_58 : decode cX8_init 58 = .ok (.aload_n 0, 1) := by decide +kernel
theorem dX8_init_59 : decode cX8_init 59 = .ok (.bipush 40, 2) := by decide +kernel
theorem dX8_init_61 : decode cX8_init 61 = .ok (.newarray .int, 2) := by decide +kernel
theorem dX8_init_63 : decode cX8_init 63 = .ok (.putfield 33, 3) := by decide +kernel
theorem dX8_init_66 : decode cX8_init 66 = .ok (.aload_n 0, 1) := by decide +kernel
theorem dX8_init_67 : decode cX8_init 67 = .ok (.bipush 40, 2) := by decide +kernel
theorem dX8_init_69 : decode cX8_init 69 = .ok (.newarray .int, 2) := by decide +kernel
theorem dX8_init_71 : decode cX8_init 71 = .ok (.putfield 36, 3) := by decide +kernel
theorem dX8_init_74 : decode cX8_init 74 = .ok (.aload_n 0, 1) := by decide +kernel
theorem dX8_init_75 : decode cX8_init 75 = .ok (.bipush 100, 2) := by decide +kernel
theorem dX8_init_77 : decode cX8_init 77 = .ok (.newarray .int, 2) := by decide +kernel
theorem dX8_init_79 : decode cX8_init 79 = .ok (.putfield 39, 3) := by decide +kernel
theorem dX8_init_82 : decode cX8_init 82 = .ok (.aload_n 0, 1) := by decide +kernel
theorem dX8_init_83 : decode cX8_init 83 = .ok (.bipush 100, 2) := by decide +kernel
theorem dX8_init_85 : decode cX8_init 85 = .ok (.newarray .int, 2) := by decide +kernel
theorem dX8_init_87 : decode cX8_init 87 = .ok (.putfield 42, 3) := by decide +kernel
theorem dX8_init_90 : decode cX8_init 90 = .ok (.aload_n 0, 1) := by decide +kernel
theorem dX8_init_91 : decode cX8_init 91 = .ok (.bipush 100, 2) := by decide +kernel
theorem dX8_init_93 : decode cX8_init 93 = .ok (.newarray .boolean, 2) := by decide +kernel
theorem dX8_init_95 : decode cX8_init 95 = .ok (.putfield 45, 3) := by decide +kernel
theorem dX8_init_98 : decode cX8_init 98 = .ok (.aload_n 0, 1) := by decide +kernel
theorem dX8_init_99 : decode cX8_init 99 = .ok (.bipush 8, 2) := by decide +kernel
theorem dX8_init_101 : decode cX8_init 101 = .ok (.newarray .boolean, 2) := by decide +kernel
theorem dX8_init_103 : decode cX8_init 103 = .ok (.putfield 48, 3) := by decide +kernel
theorem dX8_init_106 : decode cX8_init 106 = .ok (.aload_n 0, 1) := by decide +kernel
theorem dX8_init_107 : decode cX8_init 107 = .ok (.bipush 8, 2) := by decide +kernel
theorem dX8_init_109 : decode cX8_init 109 = .ok (.newarray .long, 2) := by decide +kernel
theorem dX8_init_111 : decode cX8_init 111 = .ok (.putfield 51, 3) := by decide +kernel
theorem dX8_init_114 : decode cX8_init 114 = .ok (.aload_n 0, 1) := by decide +kernel
theorem dX8_init_115 : decode cX8_init 115 = .ok (.bipush 20, 2) := by decide +kernel
theorem dX8_init_117 : decode cX8_init 117 = .ok (.newarray .int, 2) := by decide +kernel
theorem dX8_init_119 : decode cX8_init 119 = .ok (.putfield 55, 3) := by decide +kernel
theorem dX8_init_122 : decode cX8_init 122 = .ok (.aload_n 0, 1) := by decide +kernel
theorem dX8_init_123 : decode cX8_init 123 = .ok (.sipush 600, 3) := by decide +kernel
theorem dX8_init_126 : decode cX8_init 126 = .ok (.newarray .int, 2) := by decide +kernel
theorem dX8_init_128 : decode cX8_init 128 = .ok (.putfield 58, 3) := by decide +kernel
theorem dX8_init_131 : decode cX8_init 131 = .ok (.aload_n 0, 1) := by decide +kernel
theorem dX8_init_132 : decode cX8_init 132 = .ok (.bipush 60, 2) := by decide +kernel
theorem dX8_init_134 : decode cX8_init 134 = .ok (.putfield 61, 3) := by decide +kernel
theorem dX8_init_137 : decode cX8_init 137 = .ok (.aload_n 0, 1) := by decide +kernel
theorem dX8_init_138 : decode cX8_init 138 = .ok (.bipush 40, 2) := by decide +kernel
theorem dX8_init_140 : decode cX8_init 140 = .ok (.newarray .boolean, 2) := by decide +kernel
theorem dX8_init_142 : decode cX8_init 142 = .ok (.putfield 64, 3) := by decide +kernel
theorem dX8_init_145 : decode cX8_init 145 = .ok (.aload_n 0, 1) := by decide +kernel
theorem dX8_init_146 : decode cX8_init 146 = .ok (.bipush 12, 2) := by decide +kernel
theorem dX8_init_148 : decode cX8_init 148 = .ok (.newarray .int, 2) := by decide +kernel
theorem dX8_init_150 : decode cX8_init 150 = .ok (.putfield 67, 3) := by decide +kernel
theorem dX8_init_153 : decode cX8_init 153 = .ok (.aload_n 0, 1) := by decide +kernel
theorem dX8_init_154 : decode cX8_init 154 = .ok (.bipush 40, 2) := by decide +kernel
theorem dX8_init_156 : decode cX8_init 156 = .ok (.newarray .long, 2) := by decide +kernel
theorem dX8_init_158 : decode cX8_init 158 = .ok (.putfield 70, 3) := by decide +kernel
theorem dX8_init_161 : decode cX8_init 161 = .ok (.aload_n 0, 1) := by decide +kernel
theorem dX8_init_162 : decode cX8_init 162 = .ok (.getfield 13, 3) := by decide +kernel
theorem dX8_init_165 : decode cX8_init 165 = .ok (.iconst 0, 1) := by decide +kernel
theorem dX8_init_166 : decode cX8_init 166 = .ok (.iconst (-1), 1) := by decide +kernel
theorem dX8_init_167 : decode cX8_init 167 = .ok (.iastore, 1) := by decide +kernel
theorem dX8_init_168 : decode cX8_init 168 = .ok (.return_, 1) := by decide +kernel
theorem dX8_in_0 : decode cX8_in 0 = .ok (.iload_n 0, 1) := by decide +kernel
theorem dX8_in_1 : decode cX8_in 1 = .ok (.iload_n 1, 1) := by decide +kernel
theorem dX8_in_2 : decode cX8_in 2 = .ok (.if_icmp .lt 12, 3) := by decide +kernel
theorem dX8_in_5 : decode cX8_in 5 = .ok (.iload_n 0, 1) := by decide +kernel
theorem dX8_in_6 : decode cX8_in 6 = .ok (.iload_n 2, 1) := by decide +kernel
theorem dX8_in_7 : decode cX8_in 7 = .ok (.if_icmp .gt 7, 3) := by decide +kernel
theorem dX8_in_10 : decode cX8_in 10 = .ok (.iconst 1, 1) := by decide +kernel
theorem dX8_in_11 : decode cX8_in 11 = .ok (.goto 4, 3) := by decide +kernel
theorem dX8_in_14 : decode cX8_in 14 = .ok (.iconst 0, 1) := by decide +kernel
theorem dX8_in_15 : decode cX8_in 15 = .ok (.ireturn, 1) := by decide +kernel
theorem dX8_bits_0 : decode cX8_bits 0 = .ok (.iconst 0, 1) := by decide +kernel
theorem dX8_bits_1 : decode cX8_bits 1 = .ok (.istore_n 2, 1) := by decide +kernel
theorem dX8_bits_2 : decode cX8_bits 2 = .ok (.iconst 0, 1) := by decide +kernel
theorem dX8_bits_3 : decode cX8_bits 3 = .ok (.istore_n 3, 1) := by decide +kernel
theorem dX8_bits_4 : decode cX8_bits 4 = .ok (.iload_n 3, 1) := by decide +kernel
theorem dX8_bits_5 : decode cX8_bits 5 = .ok (.bipush 60, 2) := by decide +kernel
theorem dX8_bits_7 : decode cX8_bits 7 = .ok (.if_icmp .ge 18, 3) := by decide +kernel
theorem dX8_bits_10 : decode cX8_bits 10 = .ok (.iload_n 2, 1) := by decide +kernel
theorem dX8_bits_11 : decode cX8_bits 11 = .ok (.lload_n 0, 1) := by decide +kernel
theorem dX8_bits_12 : decode cX8_bits 12 = .ok (.iload_n 3, 1) := by decide +kernel
theorem dX8_bits_13 : decode cX8_bits 13 = .ok (.lshr, 1) := by decide +kernel
theorem dX8_bits_14 : decode cX8_bits 14 = .ok (.lconst 1, 1) := by decide +kernel
theorem dX8_bits_15 : decode cX8_bits 15 = .ok (.land, 1) := by decide +kernel
theorem dX8_bits_16 : decode cX8_bits 16 = .ok (.l2i, 1) := by decide +kernel
theorem dX8_bits_17 : decode cX8_bits 17 = .ok (.iadd, 1) := by decide +kernel
theorem dX8_bits_18 : decode cX8_bits 18 = .ok (.istore_n 2, 1) := by decide +kernel
theorem dX8_bits_19 : decode cX8_bits 19 = .ok (.iinc 3 1, 3) := by decide +kernel
theorem dX8_bits_22 : decode cX8_bits 22 = .ok (.goto (-18), 3) := by decide +kernel
theorem dX8_bits_25 : decode cX8_bits 25 = .ok (.iload_n 2, 1) := by decide +kernel
theorem dX8_bits_26 : decode cX8_bits 26 = .ok (.ireturn, 1) := by decide +kernel
theorem dX8_go_0 : decode cX8_go 0 = .ok (.iload_n 1, 1) := by decide +kernel
theorem dX8_go_1 : decode cX8_go 1 = .ok (.iconst 0, 1) := by decide +kernel
theorem dX8_go_2 : decode cX8_go 2 = .ok (.sipush 500, 3) := by decide +kernel
theorem dX8_go_5 : decode cX8_go 5 = .ok (.invokestatic 73, 3) := by decide +kernel
theorem dX8_go_8 : decode cX8_go 8 = .ok (.ifCond .ne 5, 3) := by decide +kernel
theorem dX8_go_11 : decode cX8_go 11 = .ok (.iconst (-1), 1) := by decide +kernel
theorem dX8_go_12 : decode cX8_go 12 = .ok (.ireturn, 1) := by decide +kernel
theorem dX8_go_13 : decode cX8_go 13 = .ok (.aload_n 0, 1) := by decide +kernel
theorem dX8_go_14 : decode cX8_go 14 = .ok (.aload_n 0, 1) := by decide +kernel
theorem dX8_go_15 : decode cX8_go 15 = .ok (.getfield 77, 3) := by decide +kernel
theorem dX8_go_18 : decode cX8_go 18 = .ok (.iload_n 1, 1) := by decide +kernel
theorem dX8_go_19 : decode cX8_go 19 = .ok (.iadd, 1) := by decide +kernel
theorem dX8_go_20 : decode cX8_go 20 = .ok (.sipush 5000, 3) := by decide +kernel
theorem dX8_go_23 : decode cX8_go 23 = .ok (.if_icmp .le 9, 3) := by decide +kernel
theorem dX8_go_26 : decode cX8_go 26 = .ok (.sipush 5000, 3) := by decide +kernel
theorem dX8_go_29 : decode cX8_go 29 = .ok (.goto 9, 3) := by decide +kernel
theorem dX8_go_32 : decode cX8_go 32 = .ok (.aload_n 0, 1) := by decide +kernel
theorem dX8_go_33 : decode cX8_go 33 = .ok (.getfield 77, 3) := by decide +kernel
theorem dX8_go_36 : decode cX8_go 36 = .ok (.iload_n 1, 1) := by decide +kernel
theorem dX8_go_37 : decode cX8_go 37 = .ok (.iadd, 1) := by decide +kernel
theorem dX8_go_38 : decode cX8_go 38 = .ok (.putfield 77, 3) := by decide +kernel
theorem dX8_go_41 : decode cX8_go 41 = .ok (.aload_n 0, 1) := by decide +kernel
theorem dX8_go_42 : decode cX8_go 42 = .ok (.getfield 77, 3) := by decide +kernel
theorem dX8_go_45 : decode cX8_go 45 = .ok (.ireturn, 1) := by decide +kernel
theorem dX8_isFolder_0 : decode cX8_isFolder 0 = .ok (.iload_n 1, 1) := by decide +kernel
theorem dX8_isFolder_1 : decode cX8_isFolder 1 = .ok (.iconst 0, 1) := by decide +kernel
theorem dX8_isFolder_2 : decode cX8_isFolder 2 = .ok (.aload_n 0, 1) := by decide +kernel
theorem dX8_isFolder_3 : decode cX8_isFolder 3 = .ok (.getfield 7, 3) := by decide +kernel
theorem dX8_isFolder_6 : decode cX8_isFolder 6 = .ok (.iconst 1, 1) := by decide +kernel
theorem dX8_isFolder_7 : decode cX8_isFolder 7 = .ok (.isub, 1) := by decide +kernel
theorem dX8_isFolder_8 : decode cX8_isFolder 8 = .ok (.invokestatic 73, 3) := by decide +kernel
theorem dX8_isFolder_11 : decode cX8_isFolder 11 = .ok (.ireturn, 1) := by decide +kernel
theorem dX8_folder_0 : decode cX8_folder 0 = .ok (.aload_n 0, 1) := by decide +kernel
theorem dX8_folder_1 : decode cX8_folder 1 = .ok (.iload_n 1, 1) := by decide +kernel
theorem dX8_folder_2 : decode cX8_folder 2 = .ok (.invokevirtual 80, 3) := by decide +kernel
theorem dX8_folder_5 : decode cX8_folder 5 = .ok (.ifCond .eq 21, 3) := by decide +kernel
theorem dX8_folder_8 : decode cX8_folder 8 = .ok (.iload_n 2, 1) := by decide +kernel
theorem dX8_folder_9 : decode cX8_folder 9 = .ok (.iconst 0, 1) := by decide +kernel
theorem dX8_folder_10 : decode cX8_folder 10 = .ok (.iconst 5, 1) := by decide +kernel
theorem dX8_folder_11 : decode cX8_folder 11 = .ok (.invokestatic 73, 3) := by decide +kernel
theorem dX8_folder_14 : decode cX8_folder 14 = .ok (.ifCond .eq 12, 3) := by decide +kernel
theorem dX8_folder_17 : decode cX8_folder 17 = .ok (.aload_n 0, 1) := by decide +kernel
theorem dX8_folder_18 : decode cX8_folder 18 = .ok (.getfield 7, 3) := by decide +kernel
theorem dX8_folder_21 : decode cX8_folder 21 = .ok (.bipush 30, 2) := by decide +kernel
theorem dX8_folder_23 : decode cX8_folder 23 = .ok (.if_icmp .ne 5, 3) := by decide +kernel
theorem dX8_folder_26 : decode cX8_folder 26 = .ok (.iconst (-1), 1) := by decide +kernel
theorem dX8_folder_27 : decode cX8_folder 27 = .ok (.ireturn, 1) := by decide +kernel
theorem dX8_folder_28 : decode cX8_folder 28 = .ok (.aload_n 0, 1) := by decide +kernel
theorem dX8_folder_29 : decode cX8_folder 29 = .ok (.getfield 13, 3) := by decide +kernel
theorem dX8_folder_32 : decode cX8_folder 32 = .ok (.aload_n 0, 1) := by decide +kernel
theorem dX8_folder_33 : decode cX8_folder 33 = .ok (.getfield 7, 3) := by decide +kernel
theorem dX8_folder_36 : decode cX8_folder 36 = .ok (.iload_n 1, 1) := by decide +kernel
theorem dX8_folder_37 : decode cX8_folder 37 = .ok (.iastore, 1) := by decide +kernel
theorem dX8_folder_38 : decode cX8_folder 38 = .ok (.aload_n 0, 1) := by decide +kernel
theorem dX8_folder_39 : decode cX8_folder 39 = .ok (.getfield 17, 3) := by decide +kernel
theorem dX8_folder_42 : decode cX8_folder 42 = .ok (.aload_n 0, 1) := by decide +kernel
theorem dX8_folder_43 : decode cX8_folder 43 = .ok (.getfield 7, 3) := by decide +kernel
theorem dX8_folder_46 : decode cX8_folder 46 = .ok (.iload_n 2, 1) := by decide +kernel
theorem dX8_folder_47 : decode cX8_folder 47 = .ok (.iastore, 1) := by decide +kernel
theorem dX8_folder_48 : decode cX8_folder 48 = .ok (.aload_n 0, 1) := by decide +kernel
theorem dX8_folder_49 : decode cX8_folder 49 = .ok (.getfield 20, 3) := by decide +kernel
theorem dX8_folder_52 : decode cX8_folder 52 = .ok (.aload_n 0, 1) := by decide +kernel
theorem dX8_folder_53 : decode cX8_folder 53 = .ok (.getfield 7, 3) := by decide +kernel
theorem dX8_folder_56 : decode cX8_folder 56 = .ok (.iload_n 3, 1) := by decide +kernel
theorem dX8_folder_57 : decode cX8_folder 57 = .ok (.bastore, 1) := by decide +kernel
theorem dX8_folder_58 : decode cX8_folder 58 = .ok (.aload_n 0, 1) := by decide +kernel
theorem dX8_folder_59 : decode cX8_folder 59 = .ok (.dup, 1) := by decide +kernel
theorem dX8_folder_60 : decode cX8_folder 60 = .ok (.getfield 7, 3) := by decide +kernel
theorem dX8_folder_63 : decode cX8_folder 63 = .ok (.iconst 1, 1) := by decide +kernel
theorem dX8_folder_64 : decode cX8_folder 64 = .ok (.iadd, 1) := by decide +kernel
theorem dX8_folder_65 : decode cX8_folder 65 = .ok (.putfield 7, 3) := by decide +kernel
theorem dX8_folder_68 : decode cX8_folder 68 = .ok (.aload_n 0, 1) := by decide +kernel
theorem dX8_folder_69 : decode cX8_folder 69 = .ok (.getfield 7, 3) := by decide +kernel
theorem dX8_folder_72 : decode cX8_folder 72 = .ok (.iconst 1, 1) := by decide +kernel
theorem dX8_folder_73 : decode cX8_folder 73 = .ok (.isub, 1) := by decide +kernel
theorem dX8_folder_74 : decode cX8_folder 74 = .ok (.ireturn, 1) := by decide +kernel
theorem dX8_isOf_0 : decode cX8_isOf 0 = .ok (.iload_n 1, 1) := by decide +kernel
theorem dX8_isOf_1 : decode cX8_isOf 1 = .ok (.istore_n 3, 1) := by decide +kernel
theorem dX8_isOf_2 : decode cX8_isOf 2 = .ok (.iload_n 3, 1) := by decide +kernel
theorem dX8_isOf_3 : decode cX8_isOf 3 = .ok (.iconst (-1), 1) := by decide +kernel
theorem dX8_isOf_4 : decode cX8_isOf 4 = .ok (.if_icmp .eq 18, 3) := by decide +kernel
theorem dX8_isOf_7 : decode cX8_isOf 7 = .ok (.iload_n 3, 1) := by decide +kernel
theorem dX8_isOf_8 : decode cX8_isOf 8 = .ok (.iload_n 2, 1) := by decide +kernel
theorem dX8_isOf_9 : decode cX8_isOf 9 = .ok (.if_icmp .eq 13, 3) := by decide +kernel
theorem dX8_isOf_12 : decode cX8_isOf 12 = .ok (.aload_n 0, 1) := by decide +kernel
theorem dX8_isOf_13 : decode cX8_isOf 13 = .ok (.getfield 13, 3) := by decide +kernel
theorem dX8_isOf_16 : decode cX8_isOf 16 = .ok (.iload_n 3, 1) := by decide +kernel
theorem dX8_isOf_17 : decode cX8_isOf 17 = .ok (.iaload, 1) := by decide +kernel
theorem dX8_isOf_18 : decode cX8_isOf 18 = .ok (.istore_n 3, 1) := by decide +kernel
theorem dX8_isOf_19 : decode cX8_isOf 19 = .ok (.goto (-17), 3) := by decide +kernel
theorem dX8_isOf_22 : decode cX8_isOf 22 = .ok (.iload_n 3, 1) := by decide +kernel
theorem dX8_isOf_23 : decode cX8_isOf 23 = .ok (.iload_n 2, 1) := by decide +kernel
theorem dX8_isOf_24 : decode cX8_isOf 24 = .ok (.if_icmp .ne 7, 3) := by decide +kernel
theorem dX8_isOf_27 : decode cX8_isOf 27 = .ok (.iconst 1, 1) := by decide +kernel
theorem dX8_isOf_28 : decode cX8_isOf 28 = .ok (.goto 4, 3) := by decide +kernel
theorem dX8_isOf_31 : decode cX8_isOf 31 = .ok (.iconst 0, 1) := by decide +kernel
theorem dX8_isOf_32 : decode cX8_isOf 32 = .ok (.ireturn, 1) := by decide +kernel
theorem dX8_move_0 : decode cX8_move 0 = .ok (.aload_n 0, 1) := by decide +kernel
theorem dX8_move_1 : decode cX8_move 1 = .ok (.iload_n 1, 1) := by decide +kernel
theorem dX8_move_2 : decode cX8_move 2 = .ok (.invokevirtual 80, 3) := by decide +kernel
theorem dX8_move_5 : decode cX8_move 5 = .ok (.ifCond .eq 24, 3) := by decide +kernel
theorem dX8_move_8 : decode cX8_move 8 = .ok (.iload_n 1, 1) := by decide +kernel
theorem dX8_move_9 : decode cX8_move 9 = .ok (.ifCond .eq 20, 3) := by decide +kernel
theorem dX8_move_12 : decode cX8_move 12 = .ok (.aload_n 0, 1) := by decide +kernel
theorem dX8_move_13 : decode cX8_move 13 = .ok (.iload_n 2, 1) := by decide +kernel
theorem dX8_move_14 : decode cX8_move 14 = .ok (.invokevirtual 80, 3) := by decide +kernel
theorem dX8_move_17 : decode cX8_move 17 = .ok (.ifCond .eq 12, 3) := by decide +kernel
theorem dX8_move_20 : decode cX8_move 20 = .ok (.aload_n 0, 1) := by decide +kernel
theorem dX8_move_21 : decode cX8_move 21 = .ok (.iload_n 2, 1) := by decide +kernel
theorem dX8_move_22 : decode cX8_move 22 = .ok (.iload_n 1, 1) := by decide +kernel
theorem dX8_move_23 : decode cX8_move 23 = .ok (.invokevirtual 84, 3) := by decide +kernel
theorem dX8_move_26 : decode cX8_move 26 = .ok (.ifCond .eq 5, 3) := by decide +kernel
theorem dX8_move_29 : decode cX8_move 29 = .ok (.iconst 0, 1) := by decide +kernel
theorem dX8_move_30 : decode cX8_move 30 = .ok (.ireturn, 1) := by decide +kernel
theorem dX8_move_31 : decode cX8_move 31 = .ok (.aload_n 0, 1) := by decide +kernel
theorem dX8_move_32 : decode cX8_move 32 = .ok (.getfield 13, 3) := by decide +kernel
theorem dX8_move_35 : decode cX8_move 35 = .ok (.iload_n 1, 1) := by decide +kernel
theorem dX8_move_36 : decode cX8_move 36 = .ok (.iload_n 2, 1) := by decide +kernel
theorem dX8_move_37 : decode cX8_move 37 = .ok (.iastore, 1) := by decide +kernel
theorem dX8_move_38 : decode cX8_move 38 = .ok (.iconst 1, 1) := by decide +kernel
theorem dX8_move_39 : decode cX8_move 39 = .ok (.ireturn, 1) := by decide +kernel
theorem dX8_isSeen_0 : decode cX8_isSeen 0 = .ok (.iload_n 1, 1) := by decide +kernel
theorem dX8_isSeen_1 : decode cX8_isSeen 1 = .ok (.istore_n 3, 1) := by decide +kernel
theorem dX8_isSeen_2 : decode cX8_isSeen 2 = .ok (.iload_n 3, 1) := by decide +kernel
theorem dX8_isSeen_3 : decode cX8_isSeen 3 = .ok (.iconst (-1), 1) := by decide +kernel
theorem dX8_isSeen_4 : decode cX8_isSeen 4 = .ok (.if_icmp .eq 34, 3) := by decide +kernel
theorem dX8_isSeen_7 : decode cX8_isSeen 7 = .ok (.aload_n 0, 1) := by decide +kernel
theorem dX8_isSeen_8 : decode cX8_isSeen 8 = .ok (.getfield 20, 3) := by decide +kernel
theorem dX8_isSeen_11 : decode cX8_isSeen 11 = .ok (.iload_n 3, 1) := by decide +kernel
theorem dX8_isSeen_12 : decode cX8_isSeen 12 = .ok (.baload, 1) := by decide +kernel
theorem dX8_isSeen_13 : decode cX8_isSeen 13 = .ok (.ifCond .eq 15, 3) := by decide +kernel
theorem dX8_isSeen_16 : decode cX8_isSeen 16 = .ok (.aload_n 0, 1) := by decide +kernel
theorem dX8_isSeen_17 : decode cX8_isSeen 17 = .ok (.getfield 17, 3) := by decide +kernel
theorem dX8_isSeen_20 : decode cX8_isSeen 20 = .ok (.iload_n 3, 1) := by decide +kernel
theorem dX8_isSeen_21 : decode cX8_isSeen 21 = .ok (.iaload, 1) := by decide +kernel
theorem dX8_isSeen_22 : decode cX8_isSeen 22 = .ok (.iload_n 2, 1) := by decide +kernel
theorem dX8_isSeen_23 : decode cX8_isSeen 23 = .ok (.if_icmp .eq 5, 3) := by decide +kernel
theorem dX8_isSeen_26 : decode cX8_isSeen 26 = .ok (.iconst 0, 1) := by decide +kernel
theorem dX8_isSeen_27 : decode cX8_isSeen 27 = .ok (.ireturn, 1) := by decide +kernel
theorem dX8_isSeen_28 : decode cX8_isSeen 28 = .ok (.aload_n 0, 1) := by decide +kernel
theorem dX8_isSeen_29 : decode cX8_isSeen 29 = .ok (.getfield 13, 3) := by decide +kernel
theorem dX8_isSeen_32 : decode cX8_isSeen 32 = .ok (.iload_n 3, 1) := by decide +kernel
theorem dX8_isSeen_33 : decode cX8_isSeen 33 = .ok (.iaload, 1) := by decide +kernel
theorem dX8_isSeen_34 : decode cX8_isSeen 34 = .ok (.istore_n 3, 1) := by decide +kernel
theorem dX8_isSeen_35 : decode cX8_isSeen 35 = .ok (.goto (-33), 3) := by decide +kernel
theorem dX8_isSeen_38 : decode cX8_isSeen 38 = .ok (.iconst 1, 1) := by decide +kernel
theorem dX8_isSeen_39 : decode cX8_isSeen 39 = .ok (.ireturn, 1) := by decide +kernel
theorem dX8_namesOf_0 : decode cX8_namesOf 0 = .ok (.iconst 0, 1) := by decide +kernel
theorem dX8_namesOf_1 : decode cX8_namesOf 1 = .ok (.istore_n 2, 1) := by decide +kernel
theorem dX8_namesOf_2 : decode cX8_namesOf 2 = .ok (.iconst 0, 1) := by decide +kernel
theorem dX8_namesOf_3 : decode cX8_namesOf 3 = .ok (.istore_n 3, 1) := by decide +kernel
theorem dX8_namesOf_4 : decode cX8_namesOf 4 = .ok (.iload_n 3, 1) := by decide +kernel
theorem dX8_namesOf_5 : decode cX8_namesOf 5 = .ok (.aload_n 0, 1) := by decide +kernel
theorem dX8_namesOf_6 : decode cX8_namesOf 6 = .ok (.getfield 88, 3) := by decide +kernel
theorem dX8_namesOf_9 : decode cX8_namesOf 9 = .ok (.if_icmp .ge 36, 3) := by decide +kernel
theorem dX8_namesOf_12 : decode cX8_namesOf 12 = .ok (.iload_n 2, 1) := by decide +kernel
theorem dX8_namesOf_13 : decode cX8_namesOf 13 = .ok (.aload_n 0, 1) := by decide +kernel
theorem dX8_namesOf_14 : decode cX8_namesOf 14 = .ok (.getfield 45, 3) := by decide +kernel
theorem dX8_namesOf_17 : decode cX8_namesOf 17 = .ok (.iload_n 3, 1) := by decide +kernel
theorem dX8_namesOf_18 : decode cX8_namesOf 18 = .ok (.baload, 1) := by decide +kernel
theorem dX8_namesOf_19 : decode cX8_namesOf 19 = .ok (.ifCond .eq 17, 3) := by decide +kernel
theorem dX8_namesOf_22 : decode cX8_namesOf 22 = .ok (.aload_n 0, 1) := by decide +kernel
theorem dX8_namesOf_23 : decode cX8_namesOf 23 = .ok (.getfield 39, 3) := by decide +kernel
theorem dX8_namesOf_26 : decode cX8_namesOf 26 = .ok (.iload_n 3, 1) := by decide +kernel
theorem dX8_namesOf_27 : decode cX8_namesOf 27 = .ok (.iaload, 1) := by decide +kernel
theorem dX8_namesOf_28 : decode cX8_namesOf 28 = .ok (.iload_n 1, 1) := by decide +kernel
theorem dX8_namesOf_29 : decode cX8_namesOf 29 = .ok (.if_icmp .ne 7, 3) := by decide +kernel
theorem dX8_namesOf_32 : decode cX8_namesOf 32 = .ok (.iconst 1, 1) := by decide +kernel
theorem dX8_namesOf_33 : decode cX8_namesOf 33 = .ok (.goto 4, 3) := by decide +kernel
theorem dX8_namesOf_36 : decode cX8_namesOf 36 = .ok (.iconst 0, 1) := by decide +kernel
theorem dX8_namesOf_37 : decode cX8_namesOf 37 = .ok (.iadd, 1) := by decide +kernel
theorem dX8_namesOf_38 : decode cX8_namesOf 38 = .ok (.istore_n 2, 1) := by decide +kernel
theorem dX8_namesOf_39 : decode cX8_namesOf 39 = .ok (.iinc 3 1, 3) := by decide +kernel
theorem dX8_namesOf_42 : decode cX8_namesOf 42 = .ok (.goto (-38), 3) := by decide +kernel
theorem dX8_namesOf_45 : decode cX8_namesOf 45 = .ok (.iload_n 2, 1) := by decide +kernel
theorem dX8_namesOf_46 : decode cX8_namesOf 46 = .ok (.ireturn, 1) := by decide +kernel
theorem dX8_isFile_0 : decode cX8_isFile 0 = .ok (.iload_n 1, 1) := by decide +kernel
theorem dX8_isFile_1 : decode cX8_isFile 1 = .ok (.iconst 0, 1) := by decide +kernel
theorem dX8_isFile_2 : decode cX8_isFile 2 = .ok (.aload_n 0, 1) := by decide +kernel
theorem dX8_isFile_3 : decode cX8_isFile 3 = .ok (.getfield 91, 3) := by decide +kernel
theorem dX8_isFile_6 : decode cX8_isFile 6 = .ok (.iconst 1, 1) := by decide +kernel
theorem dX8_isFile_7 : decode cX8_isFile 7 = .ok (.isub, 1) := by decide +kernel
theorem dX8_isFile_8 : decode cX8_isFile 8 = .ok (.invokestatic 73, 3) := by decide +kernel
theorem dX8_isFile_11 : decode cX8_isFile 11 = .ok (.ifCond .eq 15, 3) := by decide +kernel
theorem dX8_isFile_14 : decode cX8_isFile 14 = .ok (.aload_n 0, 1) := by decide +kernel
theorem dX8_isFile_15 : decode cX8_isFile 15 = .ok (.iload_n 1, 1) := by decide +kernel
theorem dX8_isFile_16 : decode cX8_isFile 16 = .ok (.invokevirtual 94, 3) := by decide +kernel
theorem dX8_isFile_19 : decode cX8_isFile 19 = .ok (.ifCond .le 7, 3) := by decide +kernel
theorem dX8_isFile_22 : decode cX8_isFile 22 = .ok (.iconst 1, 1) := by decide +kernel
theorem dX8_isFile_23 : decode cX8_isFile 23 = .ok (.goto 4, 3) := by decide +kernel
theorem dX8_isFile_26 : decode cX8_isFile 26 = .ok (.iconst 0, 1) := by decide +kernel
theorem dX8_isFile_27 : decode cX8_isFile 27 = .ok (.ireturn, 1) := by decide +kernel
theorem dX8_newName_0 : decode cX8_newName 0 = .ok (.aload_n 0, 1) := by decide +kernel
theorem dX8_newName_1 : decode cX8_newName 1 = .ok (.getfield 39, 3) := by decide +kernel
theorem dX8_newName_4 : decode cX8_newName 4 = .ok (.aload_n 0, 1) := by decide +kernel
theorem dX8_newName_5 : decode cX8_newName 5 = .ok (.getfield 88, 3) := by decide +kernel
theorem dX8_newName_8 : decode cX8_newName 8 = .ok (.iload_n 1, 1) := by decide +kernel
theorem dX8_newName_9 : decode cX8_newName 9 = .ok (.iastore, 1) := by decide +kernel
theorem dX8_newName_10 : decode cX8_newName 10 = .ok (.aload_n 0, 1) := by decide +kernel
theorem dX8_newName_11 : decode cX8_newName 11 = .ok (.getfield 42, 3) := by decide +kernel
theorem dX8_newName_14 : decode cX8_newName 14 = .ok (.aload_n 0, 1) := by decide +kernel
theorem dX8_newName_15 : decode cX8_newName 15 = .ok (.getfield 88, 3) := by decide +kernel
theorem dX8_newName_18 : decode cX8_newName 18 = .ok (.iload_n 2, 1) := by decide +kernel
theorem dX8_newName_19 : decode cX8_newName 19 = .ok (.iastore, 1) := by decide +kernel
theorem dX8_newName_20 : decode cX8_newName 20 = .ok (.aload_n 0, 1) := by decide +kernel
theorem dX8_newName_21 : decode cX8_newName 21 = .ok (.getfield 45, 3) := by decide +kernel
theorem dX8_newName_24 : decode cX8_newName 24 = .ok (.aload_n 0, 1) := by decide +kernel
theorem dX8_newName_25 : decode cX8_newName 25 = .ok (.getfield 88, 3) := by decide +kernel
theorem dX8_newName_28 : decode cX8_newName 28 = .ok (.iconst 1, 1) := by decide +kernel
theorem dX8_newName_29 : decode cX8_newName 29 = .ok (.bastore, 1) := by decide +kernel
theorem dX8_newName_30 : decode cX8_newName 30 = .ok (.aload_n 0, 1) := by decide +kernel
theorem dX8_newName_31 : decode cX8_newName 31 = .ok (.dup, 1) := by decide +kernel
theorem dX8_newName_32 : decode cX8_newName 32 = .ok (.getfield 88, 3) := by decide +kernel
theorem dX8_newName_35 : decode cX8_newName 35 = .ok (.iconst 1, 1) := by decide +kernel
theorem dX8_newName_36 : decode cX8_newName 36 = .ok (.iadd, 1) := by decide +kernel
theorem dX8_newName_37 : decode cX8_newName 37 = .ok (.putfield 88, 3) := by decide +kernel
theorem dX8_newName_40 : decode cX8_newName 40 = .ok (.aload_n 0, 1) := by decide +kernel
theorem dX8_newName_41 : decode cX8_newName 41 = .ok (.getfield 88, 3) := by decide +kernel
theorem dX8_newName_44 : decode cX8_newName 44 = .ok (.iconst 1, 1) := by decide +kernel
theorem dX8_newName_45 : decode cX8_newName 45 = .ok (.isub, 1) := by decide +kernel
theorem dX8_newName_46 : decode cX8_newName 46 = .ok (.ireturn, 1) := by decide +kernel
theorem dX8_file_0 : decode cX8_file 0 = .ok (.aload_n 0, 1) := by decide +kernel
theorem dX8_file_1 : decode cX8_file 1 = .ok (.iload_n 1, 1) := by decide +kernel
theorem dX8_file_2 : decode cX8_file 2 = .ok (.invokevirtual 80, 3) := by decide +kernel
theorem dX8_file_5 : decode cX8_file 5 = .ok (.ifCond .eq 41, 3) := by decide +kernel
theorem dX8_file_8 : decode cX8_file 8 = .ok (.iload_n 2, 1) := by decide +kernel
theorem dX8_file_9 : decode cX8_file 9 = .ok (.iconst 0, 1) := by decide +kernel
theorem dX8_file_10 : decode cX8_file 10 = .ok (.iconst 5, 1) := by decide +kernel
theorem dX8_file_11 : decode cX8_file 11 = .ok (.invokestatic 73, 3) := by decide +kernel
theorem dX8_file_14 : decode cX8_file 14 = .ok (.ifCond .eq 32, 3) := by decide +kernel
theorem dX8_file_17 : decode cX8_file 17 = .ok (.iload_n 3, 1) := by decide +kernel
theorem dX8_file_18 : decode cX8_file 18 = .ok (.iconst 0, 1) := by decide +kernel
theorem dX8_file_19 : decode cX8_file 19 = .ok (.sipush 999, 3) := by decide +kernel
theorem dX8_file_22 : decode cX8_file 22 = .ok (.invokestatic 73, 3) := by decide +kernel
theorem dX8_file_25 : decode cX8_file 25 = .ok (.ifCond .eq 21, 3) := by decide +kernel
theorem dX8_file_28 : decode cX8_file 28 = .ok (.aload_n 0, 1) := by decide +kernel
theorem dX8_file_29 : decode cX8_file 29 = .ok (.getfield 91, 3) := by decide +kernel
theorem dX8_file_32 : decode cX8_file 32 = .ok (.bipush 40, 2) := by decide +kernel
theorem dX8_file_34 : decode cX8_file 34 = .ok (.if_icmp .eq 12, 3) := by decide +kernel
theorem dX8_file_37 : decode cX8_file 37 = .ok (.aload_n 0, 1) := by decide +kernel
theorem dX8_file_38 : decode cX8_file 38 = .ok (.getfield 88, 3) := by decide +kernel
theorem dX8_file_41 : decode cX8_file 41 = .ok (.bipush 100, 2) := by decide +kernel
theorem dX8_file_43 : decode cX8_file 43 = .ok (.if_icmp .ne 5, 3) := by decide +kernel
theorem dX8_file_46 : decode cX8_file 46 = .ok (.iconst (-1), 1) := by decide +kernel
theorem dX8_file_47 : decode cX8_file 47 = .ok (.ireturn, 1) := by decide +kernel
theorem dX8_file_48 : decode cX8_file 48 = .ok (.aload_n 0, 1) := by decide +kernel
theorem dX8_file_49 : decode cX8_file 49 = .ok (.getfield 30, 3) := by decide +kernel
theorem dX8_file_52 : decode cX8_file 52 = .ok (.aload_n 0, 1) := by decide +kernel
theorem dX8_file_53 : decode cX8_file 53 = .ok (.getfield 91, 3) := by decide +kernel
theorem dX8_file_56 : decode cX8_file 56 = .ok (.iload_n 2, 1) := by decide +kernel
theorem dX8_file_57 : decode cX8_file 57 = .ok (.iastore, 1) := by decide +kernel
theorem dX8_file_58 : decode cX8_file 58 = .ok (.aload_n 0, 1) := by decide +kernel
theorem dX8_file_59 : decode cX8_file 59 = .ok (.getfield 33, 3) := by decide +kernel
theorem dX8_file_62 : decode cX8_file 62 = .ok (.aload_n 0, 1) := by decide +kernel
theorem dX8_file_63 : decode cX8_file 63 = .ok (.getfield 91, 3) := by decide +kernel
theorem dX8_file_66 : decode cX8_file 66 = .ok (.iload_n 3, 1) := by decide +kernel
theorem dX8_file_67 : decode cX8_file 67 = .ok (.iastore, 1) := by decide +kernel
theorem dX8_file_68 : decode cX8_file 68 = .ok (.aload_n 0, 1) := by decide +kernel
theorem dX8_file_69 : decode cX8_file 69 = .ok (.getfield 36, 3) := by decide +kernel
theorem dX8_file_72 : decode cX8_file 72 = .ok (.aload_n 0, 1) := by decide +kernel
theorem dX8_file_73 : decode cX8_file 73 = .ok (.getfield 91, 3) := by decide +kernel
theorem dX8_file_76 : decode cX8_file 76 = .ok (.aload_n 0, 1) := by decide +kernel
theorem dX8_file_77 : decode cX8_file 77 = .ok (.getfield 77, 3) := by decide +kernel
theorem dX8_file_80 : decode cX8_file 80 = .ok (.iastore, 1) := by decide +kernel
theorem dX8_file_81 : decode cX8_file 81 = .ok (.aload_n 0, 1) := by decide +kernel
theorem dX8_file_82 : decode cX8_file 82 = .ok (.dup, 1) := by decide +kernel
theorem dX8_file_83 : decode cX8_file 83 = .ok (.getfield 91, 3) := by decide +kernel
theorem dX8_file_86 : decode cX8_file 86 = .ok (.iconst 1, 1) := by decide +kernel
theorem dX8_file_87 : decode cX8_file 87 = .ok (.iadd, 1) := by decide +kernel
theorem dX8_file_88 : decode cX8_file 88 = .ok (.putfield 91, 3) := by decide +kernel
theorem dX8_file_91 : decode cX8_file 91 = .ok (.aload_n 0, 1) := by decide +kernel
theorem dX8_file_92 : decode cX8_file 92 = .ok (.aload_n 0, 1) := by decide +kernel
theorem dX8_file_93 : decode cX8_file 93 = .ok (.getfield 91, 3) := by decide +kernel
theorem dX8_file_96 : decode cX8_file 96 = .ok (.iconst 1, 1) := by decide +kernel
theorem dX8_file_97 : decode cX8_file 97 = .ok (.isub, 1) := by decide +kernel
theorem dX8_file_98 : decode cX8_file 98 = .ok (.iload_n 1, 1) := by decide +kernel
theorem dX8_file_99 : decode cX8_file 99 = .ok (.invokevirtual 98, 3) := by decide +kernel
theorem dX8_file_102 : decode cX8_file 102 = .ok (.ireturn, 1) := by decide +kernel
theorem dX8_of_0 : decode cX8_of 0 = .ok (.iload_n 1, 1) := by decide +kernel
theorem dX8_of_1 : decode cX8_of 1 = .ok (.iconst 0, 1) := by decide +kernel
theorem dX8_of_2 : decode cX8_of 2 = .ok (.aload_n 0, 1) := by decide +kernel
theorem dX8_of_3 : decode cX8_of 3 = .ok (.getfield 88, 3) := by decide +kernel
theorem dX8_of_6 : decode cX8_of 6 = .ok (.iconst 1, 1) := by decide +kernel
theorem dX8_of_7 : decode cX8_of 7 = .ok (.isub, 1) := by decide +kernel
theorem dX8_of_8 : decode cX8_of 8 = .ok (.invokestatic 73, 3) := by decide +kernel
theorem dX8_of_11 : decode cX8_of 11 = .ok (.ifCond .eq 21, 3) := by decide +kernel
theorem dX8_of_14 : decode cX8_of 14 = .ok (.aload_n 0, 1) := by decide +kernel
theorem dX8_of_15 : decode cX8_of 15 = .ok (.getfield 45, 3) := by decide +kernel
theorem dX8_of_18 : decode cX8_of 18 = .ok (.iload_n 1, 1) := by decide +kernel
theorem dX8_of_19 : decode cX8_of 19 = .ok (.baload, 1) := by decide +kernel
theorem dX8_of_20 : decode cX8_of 20 = .ok (.ifCond .eq 12, 3) := by decide +kernel
theorem dX8_of_23 : decode cX8_of 23 = .ok (.aload_n 0, 1) := by decide +kernel
theorem dX8_of_24 : decode cX8_of 24 = .ok (.getfield 39, 3) := by decide +kernel
theorem dX8_of_27 : decode cX8_of 27 = .ok (.iload_n 1, 1) := by decide +kernel
theorem dX8_of_28 : decode cX8_of 28 = .ok (.iaload, 1) := by decide +kernel
theorem dX8_of_29 : decode cX8_of 29 = .ok (.goto 4, 3) := by decide +kernel
theorem dX8_of_32 : decode cX8_of 32 = .ok (.iconst (-1), 1) := by decide +kernel
theorem dX8_of_33 : decode cX8_of 33 = .ok (.ireturn, 1) := by decide +kernel
theorem dX8_copy_0 : decode cX8_copy 0 = .ok (.aload_n 0, 1) := by decide +kernel
theorem dX8_copy_1 : decode cX8_copy 1 = .ok (.iload_n 1, 1) := by decide +kernel
theorem dX8_copy_2 : decode cX8_copy 2 = .ok (.invokevirtual 102, 3) := by decide +kernel
theorem dX8_copy_5 : decode cX8_copy 5 = .ok (.istore_n 3, 1) := by decide +kernel
theorem dX8_copy_6 : decode cX8_copy 6 = .ok (.iload_n 3, 1) := by decide +kernel
theorem dX8_copy_7 : decode cX8_copy 7 = .ok (.iconst (-1), 1) := by decide +kernel
theorem dX8_copy_8 : decode cX8_copy 8 = .ok (.if_icmp .eq 29, 3) := by decide +kernel
theorem dX8_copy_11 : decode cX8_copy 11 = .ok (.aload_n 0, 1) := by decide +kernel
theorem dX8_copy_12 : decode cX8_copy 12 = .ok (.iload_n 2, 1) := by decide +kernel
theorem dX8_copy_13 : decode cX8_copy 13 = .ok (.invokevirtual 80, 3) := by decide +kernel
theorem dX8_copy_16 : decode cX8_copy 16 = .ok (.ifCond .eq 21, 3) := by decide +kernel
theorem dX8_copy_19 : decode cX8_copy 19 = .ok (.aload_n 0, 1) := by decide +kernel
theorem dX8_copy_20 : decode cX8_copy 20 = .ok (.getfield 91, 3) := by decide +kernel
theorem dX8_copy_23 : decode cX8_copy 23 = .ok (.bipush 40, 2) := by decide +kernel
theorem dX8_copy_25 : decode cX8_copy 25 = .ok (.if_icmp .eq 12, 3) := by decide +kernel
theorem dX8_copy_28 : decode cX8_copy 28 = .ok (.aload_n 0, 1) := by decide +kernel
theorem dX8_copy_29 : decode cX8_copy 29 = .ok (.getfield 88, 3) := by decide +kernel
theorem dX8_copy_32 : decode cX8_copy 32 = .ok (.bipush 100, 2) := by decide +kernel
theorem dX8_copy_34 : decode cX8_copy 34 = .ok (.if_icmp .ne 5, 3) := by decide +kernel
theorem dX8_copy_37 : decode cX8_copy 37 = .ok (.iconst (-1), 1) := by decide +kernel
theorem dX8_copy_38 : decode cX8_copy 38 = .ok (.ireturn, 1) := by decide +kernel
theorem dX8_copy_39 : decode cX8_copy 39 = .ok (.aload_n 0, 1) := by decide +kernel
theorem dX8_copy_40 : decode cX8_copy 40 = .ok (.iload_n 2, 1) := by decide +kernel
theorem dX8_copy_41 : decode cX8_copy 41 = .ok (.aload_n 0, 1) := by decide +kernel
theorem dX8_copy_42 : decode cX8_copy 42 = .ok (.getfield 30, 3) := by decide +kernel
theorem dX8_copy_45 : decode cX8_copy 45 = .ok (.iload_n 3, 1) := by decide +kernel
theorem dX8_copy_46 : decode cX8_copy 46 = .ok (.iaload, 1) := by decide +kernel
theorem dX8_copy_47 : decode cX8_copy 47 = .ok (.aload_n 0, 1) := by decide +kernel
theorem dX8_copy_48 : decode cX8_copy 48 = .ok (.getfield 33, 3) := by decide +kernel
theorem dX8_copy_51 : decode cX8_copy 51 = .ok (.iload_n 3, 1) := by decide +kernel
theorem dX8_copy_52 : decode cX8_copy 52 = .ok (.iaload, 1) := by decide +kernel
theorem dX8_copy_53 : decode cX8_copy 53 = .ok (.invokevirtual 105, 3) := by decide +kernel
theorem dX8_copy_56 : decode cX8_copy 56 = .ok (.istore 4, 2) := by decide +kernel
theorem dX8_copy_58 : decode cX8_copy 58 = .ok (.aload_n 0, 1) := by decide +kernel
theorem dX8_copy_59 : decode cX8_copy 59 = .ok (.getfield 24, 3) := by decide +kernel
theorem dX8_copy_62 : decode cX8_copy 62 = .ok (.aload_n 0, 1) := by decide +kernel
theorem dX8_copy_63 : decode cX8_copy 63 = .ok (.getfield 91, 3) := by decide +kernel
theorem dX8_copy_66 : decode cX8_copy 66 = .ok (.iconst 1, 1) := by decide +kernel
theorem dX8_copy_67 : decode cX8_copy 67 = .ok (.isub, 1) := by decide +kernel
theorem dX8_copy_68 : decode cX8_copy 68 = .ok (.aload_n 0, 1) := by decide +kernel
theorem dX8_copy_69 : decode cX8_copy 69 = .ok (.getfield 24, 3) := by decide +kernel
theorem dX8_copy_72 : decode cX8_copy 72 = .ok (.iload_n 3, 1) := by decide +kernel
theorem dX8_copy_73 : decode cX8_copy 73 = .ok (.iaload, 1) := by decide +kernel
theorem dX8_copy_74 : decode cX8_copy 74 = .ok (.iastore, 1) := by decide +kernel
theorem dX8_copy_75 : decode cX8_copy 75 = .ok (.iconst 0, 1) := by decide +kernel
theorem dX8_copy_76 : decode cX8_copy 76 = .ok (.istore 5, 2) := by decide +kernel
theorem dX8_copy_78 : decode cX8_copy 78 = .ok (.iload 5, 2) := by decide +kernel
theorem dX8_copy_80 : decode cX8_copy 80 = .ok (.bipush 60, 2) := by decide +kernel
theorem dX8_copy_82 : decode cX8_copy 82 = .ok (.if_icmp .ge 38, 3) := by decide +kernel
theorem dX8_copy_85 : decode cX8_copy 85 = .ok (.aload_n 0, 1) := by decide +kernel
theorem dX8_copy_86 : decode cX8_copy 86 = .ok (.getfield 27, 3) := by decide +kernel
theorem dX8_copy_89 : decode cX8_copy 89 = .ok (.bipush 60, 2) := by decide +kernel
theorem dX8_copy_91 : decode cX8_copy 91 = .ok (.aload_n 0, 1) := by decide +kernel
theorem dX8_copy_92 : decode cX8_copy 92 = .ok (.getfield 91, 3) := by decide +kernel
theorem dX8_copy_95 : decode cX8_copy 95 = .ok (.iconst 1, 1) := by decide +kernel
theorem dX8_copy_96 : decode cX8_copy 96 = .ok (.isub, 1) := by decide +kernel
theorem dX8_copy_97 : decode cX8_copy 97 = .ok (.imul, 1) := by decide +kernel
theorem dX8_copy_98 : decode cX8_copy 98 = .ok (.iload 5, 2) := by decide +kernel
theorem dX8_copy_100 : decode cX8_copy 100 = .ok (.iadd, 1) := by decide +kernel
theorem dX8_copy_101 : decode cX8_copy 101 = .ok (.aload_n 0, 1) := by decide +kernel
theorem dX8_copy_102 : decode cX8_copy 102 = .ok (.getfield 27, 3) := by decide +kernel
theorem dX8_copy_105 : decode cX8_copy 105 = .ok (.bipush 60, 2) := by decide +kernel
theorem dX8_copy_107 : decode cX8_copy 107 = .ok (.iload_n 3, 1) := by decide +kernel
theorem dX8_copy_108 : decode cX8_copy 108 = .ok (.imul, 1) := by decide +kernel
theorem dX8_copy_109 : decode cX8_copy 109 = .ok (.iload 5, 2) := by decide +kernel
theorem dX8_copy_111 : decode cX8_copy 111 = .ok (.iadd, 1) := by decide +kernel
theorem dX8_copy_112 : decode cX8_copy 112 = .ok (.iaload, 1) := by decide +kernel
theorem dX8_copy_113 : decode cX8_copy 113 = .ok (.iastore, 1) := by decide +kernel
theorem dX8_copy_114 : decode cX8_copy 114 = .ok (.iinc 5 1, 3) := by decide +kernel
theorem dX8_copy_117 : decode cX8_copy 117 = .ok (.goto (-39), 3) := by decide +kernel
theorem dX8_copy_120 : decode cX8_copy 120 = .ok (.iload 4, 2) := by decide +kernel
theorem dX8_copy_122 : decode cX8_copy 122 = .ok (.ireturn, 1) := by decide +kernel
theorem dX8_link_0 : decode cX8_link 0 = .ok (.aload_n 0, 1) := by decide +kernel
theorem dX8_link_1 : decode cX8_link 1 = .ok (.iload_n 1, 1) := by decide +kernel
theorem dX8_link_2 : decode cX8_link 2 = .ok (.invokevirtual 109, 3) := by decide +kernel
theorem dX8_link_5 : decode cX8_link 5 = .ok (.ifCond .eq 29, 3) := by decide +kernel
theorem dX8_link_8 : decode cX8_link 8 = .ok (.aload_n 0, 1) := by decide +kernel
theorem dX8_link_9 : decode cX8_link 9 = .ok (.iload_n 2, 1) := by decide +kernel
theorem dX8_link_10 : decode cX8_link 10 = .ok (.invokevirtual 80, 3) := by decide +kernel
theorem dX8_link_13 : decode cX8_link 13 = .ok (.ifCond .eq 21, 3) := by decide +kernel
theorem dX8_link_16 : decode cX8_link 16 = .ok (.aload_n 0, 1) := by decide +kernel
theorem dX8_link_17 : decode cX8_link 17 = .ok (.getfield 88, 3) := by decide +kernel
theorem dX8_link_20 : decode cX8_link 20 = .ok (.bipush 100, 2) := by decide +kernel
theorem dX8_link_22 : decode cX8_link 22 = .ok (.if_icmp .ge 12, 3) := by decide +kernel
theorem dX8_link_25 : decode cX8_link 25 = .ok (.aload_n 0, 1) := by decide +kernel
theorem dX8_link_26 : decode cX8_link 26 = .ok (.iload_n 1, 1) := by decide +kernel
theorem dX8_link_27 : decode cX8_link 27 = .ok (.iload_n 2, 1) := by decide +kernel
theorem dX8_link_28 : decode cX8_link 28 = .ok (.invokevirtual 98, 3) := by decide +kernel
theorem dX8_link_31 : decode cX8_link 31 = .ok (.goto 4, 3) := by decide +kernel
theorem dX8_link_34 : decode cX8_link 34 = .ok (.iconst (-1), 1) := by decide +kernel
theorem dX8_link_35 : decode cX8_link 35 = .ok (.ireturn, 1) := by decide +kernel
theorem dX8_unlink_0 : decode cX8_unlink 0 = .ok (.aload_n 0, 1) := by decide +kernel
theorem dX8_unlink_1 : decode cX8_unlink 1 = .ok (.iload_n 1, 1) := by decide +kernel
theorem dX8_unlink_2 : decode cX8_unlink 2 = .ok (.invokevirtual 102, 3) := by decide +kernel
theorem dX8_unlink_5 : decode cX8_unlink 5 = .ok (.iconst (-1), 1) := by decide +kernel
theorem dX8_unlink_6 : decode cX8_unlink 6 = .ok (.if_icmp .ne 5, 3) := by decide +kernel
theorem dX8_unlink_9 : decode cX8_unlink 9 = .ok (.iconst 0, 1) := by decide +kernel
theorem dX8_unlink_10 : decode cX8_unlink 10 = .ok (.ireturn, 1) := by decide +kernel
theorem dX8_unlink_11 : decode cX8_unlink 11 = .ok (.aload_n 0, 1) := by decide +kernel
theorem dX8_unlink_12 : decode cX8_unlink 12 = .ok (.getfield 45, 3) := by decide +kernel
theorem dX8_unlink_15 : decode cX8_unlink 15 = .ok (.iload_n 1, 1) := by decide +kernel
theorem dX8_unlink_16 : decode cX8_unlink 16 = .ok (.iconst 0, 1) := by decide +kernel
theorem dX8_unlink_17 : decode cX8_unlink 17 = .ok (.bastore, 1) := by decide +kernel
theorem dX8_unlink_18 : decode cX8_unlink 18 = .ok (.iconst 1, 1) := by decide +kernel
theorem dX8_unlink_19 : decode cX8_unlink 19 = .ok (.ireturn, 1) := by decide +kernel
theorem dX8_blocksOf_0 : decode cX8_blocksOf 0 = .ok (.lconst 0, 1) := by decide +kernel
theorem dX8_blocksOf_1 : decode cX8_blocksOf 1 = .ok (.lstore_n 2, 1) := by decide +kernel
theorem dX8_blocksOf_2 : decode cX8_blocksOf 2 = .ok (.iconst 0, 1) := by decide +kernel
theorem dX8_blocksOf_3 : decode cX8_blocksOf 3 = .ok (.istore 4, 2) := by decide +kernel
theorem dX8_blocksOf_5 : decode cX8_blocksOf 5 = .ok (.iload 4, 2) := by decide +kernel
theorem dX8_blocksOf_7 : decode cX8_blocksOf 7 = .ok (.aload_n 0, 1) := by decide +kernel
theorem dX8_blocksOf_8 : decode cX8_blocksOf 8 = .ok (.getfield 24, 3) := by decide +kernel
theorem dX8_blocksOf_11 : decode cX8_blocksOf 11 = .ok (.iload_n 1, 1) := by decide +kernel
theorem dX8_blocksOf_12 : decode cX8_blocksOf 12 = .ok (.iaload, 1) := by decide +kernel
theorem dX8_blocksOf_13 : decode cX8_blocksOf 13 = .ok (.if_icmp .ge 50, 3) := by decide +kernel
theorem dX8_blocksOf_16 : decode cX8_blocksOf 16 = .ok (.aload_n 0, 1) := by decide +kernel
theorem dX8_blocksOf_17 : decode cX8_blocksOf 17 = .ok (.iload_n 1, 1) := by decide +kernel
theorem dX8_blocksOf_18 : decode cX8_blocksOf 18 = .ok (.invokevirtual 94, 3) := by decide +kernel
theorem dX8_blocksOf_21 : decode cX8_blocksOf 21 = .ok (.ifCond .le 42, 3) := by decide +kernel
theorem dX8_blocksOf_24 : decode cX8_blocksOf 24 = .ok (.aload_n 0, 1) := by decide +kernel
theorem dX8_blocksOf_25 : decode cX8_blocksOf 25 = .ok (.getfield 27, 3) := by decide +kernel
theorem dX8_blocksOf_28 : decode cX8_blocksOf 28 = .ok (.bipush 60, 2) := by decide +kernel
theorem dX8_blocksOf_30 : decode cX8_blocksOf 30 = .ok (.iload_n 1, 1) := by decide +kernel
theorem dX8_blocksOf_31 : decode cX8_blocksOf 31 = .ok (.imul, 1) := by decide +kernel
theorem dX8_blocksOf_32 : decode cX8_blocksOf 32 = .ok (.iload 4, 2) := by decide +kernel
theorem dX8_blocksOf_34 : decode cX8_blocksOf 34 = .ok (.iadd, 1) := by decide +kernel
theorem dX8_blocksOf_35 : decode cX8_blocksOf 35 = .ok (.iaload, 1) := by decide +kernel
theorem dX8_blocksOf_36 : decode cX8_blocksOf 36 = .ok (.iconst (-1), 1) := by decide +kernel
theorem dX8_blocksOf_37 : decode cX8_blocksOf 37 = .ok (.if_icmp .eq 20, 3) := by decide +kernel
theorem dX8_blocksOf_40 : decode cX8_blocksOf 40 = .ok (.lload_n 2, 1) := by decide +kernel
theorem dX8_blocksOf_41 : decode cX8_blocksOf 41 = .ok (.lconst 1, 1) := by decide +kernel
theorem dX8_blocksOf_42 : decode cX8_blocksOf 42 = .ok (.aload_n 0, 1) := by decide +kernel
theorem dX8_blocksOf_43 : decode cX8_blocksOf 43 = .ok (.getfield 27, 3) := by decide +kernel
theorem dX8_blocksOf_46 : decode cX8_blocksOf 46 = .ok (.bipush 60, 2) := by decide +kernel
theorem dX8_blocksOf_48 : decode cX8_blocksOf 48 = .ok (.iload_n 1, 1) := by decide +kernel
theorem dX8_blocksOf_49 : decode cX8_blocksOf 49 = .ok (.imul, 1) := by decide +kernel
theorem dX8_blocksOf_50 : decode cX8_blocksOf 50 = .ok (.iload 4, 2) := by decide +kernel
theorem dX8_blocksOf_52 : decode cX8_blocksOf 52 = .ok (.iadd, 1) := by decide +kernel
theorem dX8_blocksOf_53 : decode cX8_blocksOf 53 = .ok (.iaload, 1) := by decide +kernel
theorem dX8_blocksOf_54 : decode cX8_blocksOf 54 = .ok (.lshl, 1) := by decide +kernel
theorem dX8_blocksOf_55 : decode cX8_blocksOf 55 = .ok (.lor, 1) := by decide +kernel
theorem dX8_blocksOf_56 : decode cX8_blocksOf 56 = .ok (.lstore_n 2, 1) := by decide +kernel
theorem dX8_blocksOf_57 : decode cX8_blocksOf 57 = .ok (.iinc 4 1, 3) := by decide +kernel
theorem dX8_blocksOf_60 : decode cX8_blocksOf 60 = .ok (.goto (-55), 3) := by decide +kernel
theorem dX8_blocksOf_63 : decode cX8_blocksOf 63 = .ok (.lload_n 2, 1) := by decide +kernel
theorem dX8_blocksOf_64 : decode cX8_blocksOf 64 = .ok (.lreturn, 1) := by decide +kernel
theorem dX8_shots_0 : decode cX8_shots 0 = .ok (.lconst 0, 1) := by decide +kernel
theorem dX8_shots_1 : decode cX8_shots 1 = .ok (.lstore_n 2, 1) := by decide +kernel
theorem dX8_shots_2 : decode cX8_shots 2 = .ok (.iconst 0, 1) := by decide +kernel
theorem dX8_shots_3 : decode cX8_shots 3 = .ok (.istore 4, 2) := by decide +kernel
theorem dX8_shots_5 : decode cX8_shots 5 = .ok (.iload 4, 2) := by decide +kernel
theorem dX8_shots_7 : decode cX8_shots 7 = .ok (.bipush 8, 2) := by decide +kernel
theorem dX8_shots_9 : decode cX8_shots 9 = .ok (.if_icmp .ge 35, 3) := by decide +kernel
theorem dX8_shots_12 : decode cX8_shots 12 = .ok (.aload_n 0, 1) := by decide +kernel
theorem dX8_shots_13 : decode cX8_shots 13 = .ok (.getfield 48, 3) := by decide +kernel
theorem dX8_shots_16 : decode cX8_shots 16 = .ok (.iload 4, 2) := by decide +kernel
theorem dX8_shots_18 : decode cX8_shots 18 = .ok (.baload, 1) := by decide +kernel
theorem dX8_shots_19 : decode cX8_shots 19 = .ok (.ifCond .eq 19, 3) := by decide +kernel
theorem dX8_shots_22 : decode cX8_shots 22 = .ok (.iload 4, 2) := by decide +kernel
theorem dX8_shots_24 : decode cX8_shots 24 = .ok (.iload_n 1, 1) := by decide +kernel
theorem dX8_shots_25 : decode cX8_shots 25 = .ok (.if_icmp .eq 13, 3) := by decide +kernel
theorem dX8_shots_28 : decode cX8_shots 28 = .ok (.lload_n 2, 1) := by decide +kernel
theorem dX8_shots_29 : decode cX8_shots 29 = .ok (.aload_n 0, 1) := by decide +kernel
theorem dX8_shots_30 : decode cX8_shots 30 = .ok (.getfield 51, 3) := by decide +kernel
theorem dX8_shots_33 : decode cX8_shots 33 = .ok (.iload 4, 2) := by decide +kernel
theorem dX8_shots_35 : decode cX8_shots 35 = .ok (.laload, 1) := by decide +kernel
theorem dX8_shots_36 : decode cX8_shots 36 = .ok (.lor, 1) := by decide +kernel
theorem dX8_shots_37 : decode cX8_shots 37 = .ok (.lstore_n 2, 1) := by decide +kernel
theorem dX8_shots_38 : decode cX8_shots 38 = .ok (.iinc 4 1, 3) := by decide +kernel
theorem dX8_shots_41 : decode cX8_shots 41 = .ok (.goto (-36), 3) := by decide +kernel
theorem dX8_shots_44 : decode cX8_shots 44 = .ok (.lload_n 2, 1) := by decide +kernel
theorem dX8_shots_45 : decode cX8_shots 45 = .ok (.lreturn, 1) := by decide +kernel
theorem dX8_allFiles_0 : decode cX8_allFiles 0 = .ok (.lconst 0, 1) := by decide +kernel
theorem dX8_allFiles_1 : decode cX8_allFiles 1 = .ok (.lstore_n 1, 1) := by decide +kernel
theorem dX8_allFiles_2 : decode cX8_allFiles 2 = .ok (.iconst 0, 1) := by decide +kernel
theorem dX8_allFiles_3 : decode cX8_allFiles 3 = .ok (.istore_n 3, 1) := by decide +kernel
theorem dX8_allFiles_4 : decode cX8_allFiles 4 = .ok (.iload_n 3, 1) := by decide +kernel
theorem dX8_allFiles_5 : decode cX8_allFiles 5 = .ok (.aload_n 0, 1) := by decide +kernel
theorem dX8_allFiles_6 : decode cX8_allFiles 6 = .ok (.getfield 91, 3) := by decide +kernel
theorem dX8_allFiles_9 : decode cX8_allFiles 9 = .ok (.if_icmp .ge 17, 3) := by decide +kernel
theorem dX8_allFiles_12 : decode cX8_allFiles 12 = .ok (.lload_n 1, 1) := by decide +kernel
theorem dX8_allFiles_13 : decode cX8_allFiles 13 = .ok (.aload_n 0, 1) := by decide +kernel
theorem dX8_allFiles_14 : decode cX8_allFiles 14 = .ok (.iload_n 3, 1) := by decide +kernel
theorem dX8_allFiles_15 : decode cX8_allFiles 15 = .ok (.invokevirtual 112, 3) := by decide +kernel
theorem dX8_allFiles_18 : decode cX8_allFiles 18 = .ok (.lor, 1) := by decide +kernel
theorem dX8_allFiles_19 : decode cX8_allFiles 19 = .ok (.lstore_n 1, 1) := by decide +kernel
theorem dX8_allFiles_20 : decode cX8_allFiles 20 = .ok (.iinc 3 1, 3) := by decide +kernel
theorem dX8_allFiles_23 : decode cX8_allFiles 23 = .ok (.goto (-19), 3) := by decide +kernel
theorem dX8_allFiles_26 : decode cX8_allFiles 26 = .ok (.lload_n 1, 1) := by decide +kernel
theorem dX8_allFiles_27 : decode cX8_allFiles 27 = .ok (.lreturn, 1) := by decide +kernel
theorem dX8_isPlace_0 : decode cX8_isPlace 0 = .ok (.aload_n 0, 1) := by decide +kernel
theorem dX8_isPlace_1 : decode cX8_isPlace 1 = .ok (.iload_n 1, 1) := by decide +kernel
theorem dX8_isPlace_2 : decode cX8_isPlace 2 = .ok (.invokevirtual 109, 3) := by decide +kernel
theorem dX8_isPlace_5 : decode cX8_isPlace 5 = .ok (.ifCond .eq 37, 3) := by decide +kernel
theorem dX8_isPlace_8 : decode cX8_isPlace 8 = .ok (.iload_n 2, 1) := by decide +kernel
theorem dX8_isPlace_9 : decode cX8_isPlace 9 = .ok (.iconst 0, 1) := by decide +kernel
theorem dX8_isPlace_10 : decode cX8_isPlace 10 = .ok (.aload_n 0, 1) := by decide +kernel
theorem dX8_isPlace_11 : decode cX8_isPlace 11 = .ok (.getfield 24, 3) := by decide +kernel
theorem dX8_isPlace_14 : decode cX8_isPlace 14 = .ok (.iload_n 1, 1) := by decide +kernel
theorem dX8_isPlace_15 : decode cX8_isPlace 15 = .ok (.iaload, 1) := by decide +kernel
theorem dX8_isPlace_16 : decode cX8_isPlace 16 = .ok (.bipush 60, 2) := by decide +kernel
theorem dX8_isPlace_18 : decode cX8_isPlace 18 = .ok (.if_icmp .ge 12, 3) := by decide +kernel
theorem dX8_isPlace_21 : decode cX8_isPlace 21 = .ok (.aload_n 0, 1) := by decide +kernel
theorem dX8_isPlace_22 : decode cX8_isPlace 22 = .ok (.getfield 24, 3) := by decide +kernel
theorem dX8_isPlace_25 : decode cX8_isPlace 25 = .ok (.iload_n 1, 1) := by decide +kernel
theorem dX8_isPlace_26 : decode cX8_isPlace 26 = .ok (.iaload, 1) := by decide +kernel
theorem dX8_isPlace_27 : decode cX8_isPlace 27 = .ok (.goto 5, 3) := by decide +kernel
theorem dX8_isPlace_30 : decode cX8_isPlace 30 = .ok (.bipush 59, 2) := by decide +kernel
theorem dX8_isPlace_32 : decode cX8_isPlace 32 = .ok (.invokestatic 73, 3) := by decide +kernel
theorem dX8_isPlace_35 : decode cX8_isPlace 35 = .ok (.ifCond .eq 7, 3) := by decide +kernel
theorem dX8_isPlace_38 : decode cX8_isPlace 38 = .ok (.iconst 1, 1) := by decide +kernel
theorem dX8_isPlace_39 : decode cX8_isPlace 39 = .ok (.goto 4, 3) := by decide +kernel
theorem dX8_isPlace_42 : decode cX8_isPlace 42 = .ok (.iconst 0, 1) := by decide +kernel
theorem dX8_isPlace_43 : decode cX8_isPlace 43 = .ok (.ireturn, 1) := by decide +kernel
theorem dX8_puts_0 : decode cX8_puts 0 = .ok (.aload_n 0, 1) := by decide +kernel
theorem dX8_puts_1 : decode cX8_puts 1 = .ok (.getfield 27, 3) := by decide +kernel
theorem dX8_puts_4 : decode cX8_puts 4 = .ok (.bipush 60, 2) := by decide +kernel
theorem dX8_puts_6 : decode cX8_puts 6 = .ok (.iload_n 1, 1) := by decide +kernel
theorem dX8_puts_7 : decode cX8_puts 7 = .ok (.imul, 1) := by decide +kernel
theorem dX8_puts_8 : decode cX8_puts 8 = .ok (.iload_n 2, 1) := by decide +kernel
theorem dX8_puts_9 : decode cX8_puts 9 = .ok (.iadd, 1) := by decide +kernel
theorem dX8_puts_10 : decode cX8_puts 10 = .ok (.iload_n 3, 1) := by decide +kernel
theorem dX8_puts_11 : decode cX8_puts 11 = .ok (.iastore, 1) := by decide +kernel
theorem dX8_puts_12 : decode cX8_puts 12 = .ok (.iload_n 2, 1) := by decide +kernel
theorem dX8_puts_13 : decode cX8_puts 13 = .ok (.aload_n 0, 1) := by decide +kernel
theorem dX8_puts_14 : decode cX8_puts 14 = .ok (.getfield 24, 3) := by decide +kernel
theorem dX8_puts_17 : decode cX8_puts 17 = .ok (.iload_n 1, 1) := by decide +kernel
theorem dX8_puts_18 : decode cX8_puts 18 = .ok (.iaload, 1) := by decide +kernel
theorem dX8_puts_19 : decode cX8_puts 19 = .ok (.if_icmp .ne 13, 3) := by decide +kernel
theorem dX8_puts_22 : decode cX8_puts 22 = .ok (.aload_n 0, 1) := by decide +kernel
theorem dX8_puts_23 : decode cX8_puts 23 = .ok (.getfield 24, 3) := by decide +kernel
theorem dX8_puts_26 : decode cX8_puts 26 = .ok (.iload_n 1, 1) := by decide +kernel
theorem dX8_puts_27 : decode cX8_puts 27 = .ok (.dup2, 1) := by decide +kernel
theorem dX8_puts_28 : decode cX8_puts 28 = .ok (.iaload, 1) := by decide +kernel
theorem dX8_puts_29 : decode cX8_puts 29 = .ok (.iconst 1, 1) := by decide +kernel
theorem dX8_puts_30 : decode cX8_puts 30 = .ok (.iadd, 1) := by decide +kernel
theorem dX8_puts_31 : decode cX8_puts 31 = .ok (.iastore, 1) := by decide +kernel
theorem dX8_puts_32 : decode cX8_puts 32 = .ok (.aload_n 0, 1) := by decide +kernel
theorem dX8_puts_33 : decode cX8_puts 33 = .ok (.getfield 36, 3) := by decide +kernel
theorem dX8_puts_36 : decode cX8_puts 36 = .ok (.iload_n 1, 1) := by decide +kernel
theorem dX8_puts_37 : decode cX8_puts 37 = .ok (.aload_n 0, 1) := by decide +kernel
theorem dX8_puts_38 : decode cX8_puts 38 = .ok (.getfield 77, 3) := by decide +kernel
theorem dX8_puts_41 : decode cX8_puts 41 = .ok (.iastore, 1) := by decide +kernel
theorem dX8_puts_42 : decode cX8_puts 42 = .ok (.return_, 1) := by decide +kernel
theorem dX8_write_0 : decode cX8_write 0 = .ok (.aload_n 0, 1) := by decide +kernel
theorem dX8_write_1 : decode cX8_write 1 = .ok (.iload_n 1, 1) := by decide +kernel
theorem dX8_write_2 : decode cX8_write 2 = .ok (.iload_n 2, 1) := by decide +kernel
theorem dX8_write_3 : decode cX8_write 3 = .ok (.invokevirtual 116, 3) := by decide +kernel
theorem dX8_write_6 : decode cX8_write 6 = .ok (.ifCond .ne 5, 3) := by decide +kernel
theorem dX8_write_9 : decode cX8_write 9 = .ok (.iconst (-1), 1) := by decide +kernel
theorem dX8_write_10 : decode cX8_write 10 = .ok (.ireturn, 1) := by decide +kernel
theorem dX8_write_11 : decode cX8_write 11 = .ok (.aload_n 0, 1) := by decide +kernel
theorem dX8_write_12 : decode cX8_write 12 = .ok (.invokevirtual 119, 3) := by decide +kernel
theorem dX8_write_15 : decode cX8_write 15 = .ok (.aload_n 0, 1) := by decide +kernel
theorem dX8_write_16 : decode cX8_write 16 = .ok (.iconst (-1), 1) := by decide +kernel
theorem dX8_write_17 : decode cX8_write 17 = .ok (.invokevirtual 123, 3) := by decide +kernel
theorem dX8_write_20 : decode cX8_write 20 = .ok (.lor, 1) := by decide +kernel
theorem dX8_write_21 : decode cX8_write 21 = .ok (.lstore_n 3, 1) := by decide +kernel
theorem dX8_write_22 : decode cX8_write 22 = .ok (.lload_n 3, 1) := by decide +kernel
theorem dX8_write_23 : decode cX8_write 23 = .ok (.invokestatic 126, 3) := by decide +kernel
theorem dX8_write_26 : decode cX8_write 26 = .ok (.aload_n 0, 1) := by decide +kernel
theorem dX8_write_27 : decode cX8_write 27 = .ok (.getfield 61, 3) := by decide +kernel
theorem dX8_write_30 : decode cX8_write 30 = .ok (.if_icmp .lt 5, 3) := by decide +kernel
theorem dX8_write_33 : decode cX8_write 33 = .ok (.iconst (-1), 1) := by decide +kernel
theorem dX8_write_34 : decode cX8_write 34 = .ok (.ireturn, 1) := by decide +kernel
theorem dX8_write_35 : decode cX8_write 35 = .ok (.iconst 0, 1) := by decide +kernel
theorem dX8_write_36 : decode cX8_write 36 = .ok (.istore 5, 2) := by decide +kernel
theorem dX8_write_38 : decode cX8_write 38 = .ok (.iload 5, 2) := by decide +kernel
theorem dX8_write_40 : decode cX8_write 40 = .ok (.bipush 60, 2) := by decide +kernel
theorem dX8_write_42 : decode cX8_write 42 = .ok (.if_icmp .ge 34, 3) := by decide +kernel
theorem dX8_write_45 : decode cX8_write 45 = .ok (.lload_n 3, 1) := by decide +kernel
theorem dX8_write_46 : decode cX8_write 46 = .ok (.iload 5, 2) := by decide +kernel
theorem dX8_write_48 : decode cX8_write 48 = .ok (.lshr, 1) := by decide +kernel
theorem dX8_write_49 : decode cX8_write 49 = .ok (.lconst 1, 1) := by decide +kernel
theorem dX8_write_50 : decode cX8_write 50 = .ok (.land, 1) := by decide +kernel
theorem dX8_write_51 : decode cX8_write 51 = .ok (.lconst 1, 1) := by decide +kernel
theorem dX8_write_52 : decode cX8_write 52 = .ok (.lcmp, 1) := by decide +kernel
theorem dX8_write_53 : decode cX8_write 53 = .ok (.ifCond .ne 6, 3) := by decide +kernel
theorem dX8_write_56 : decode cX8_write 56 = .ok (.goto 14, 3) := by decide +kernel
theorem dX8_write_59 : decode cX8_write 59 = .ok (.aload_n 0, 1) := by decide +kernel
theorem dX8_write_60 : decode cX8_write 60 = .ok (.iload_n 1, 1) := by decide +kernel
theorem dX8_write_61 : decode cX8_write 61 = .ok (.iload_n 2, 1) := by decide +kernel
theorem dX8_write_62 : decode cX8_write 62 = .ok (.iload 5, 2) := by decide +kernel
theorem dX8_write_64 : decode cX8_write 64 = .ok (.invokevirtual 130, 3) := by decide +kernel
theorem dX8_write_67 : decode cX8_write 67 = .ok (.iload 5, 2) := by decide +kernel
theorem dX8_write_69 : decode cX8_write 69 = .ok (.ireturn, 1) := by decide +kernel
theorem dX8_write_70 : decode cX8_write 70 = .ok (.iinc 5 1, 3) := by decide +kernel
theorem dX8_write_73 : decode cX8_write 73 = .ok (.goto (-35), 3) := by decide +kernel
theorem dX8_write_76 : decode cX8_write 76 = .ok (.iconst (-1), 1) := by decide +kernel
theorem dX8_write_77 : decode cX8_write 77 = .ok (.ireturn, 1) := by decide +kernel
theorem dX8_hole_0 : decode cX8_hole 0 = .ok (.aload_n 0, 1) := by decide +kernel
theorem dX8_hole_1 : decode cX8_hole 1 = .ok (.iload_n 1, 1) := by decide +kernel
theorem dX8_hole_2 : decode cX8_hole 2 = .ok (.iload_n 2, 1) := by decide +kernel
theorem dX8_hole_3 : decode cX8_hole 3 = .ok (.invokevirtual 116, 3) := by decide +kernel
theorem dX8_hole_6 : decode cX8_hole 6 = .ok (.ifCond .ne 5, 3) := by decide +kernel
theorem dX8_hole_9 : decode cX8_hole 9 = .ok (.iconst 0, 1) := by decide +kernel
theorem dX8_hole_10 : decode cX8_hole 10 = .ok (.ireturn, 1) := by decide +kernel
theorem dX8_hole_11 : decode cX8_hole 11 = .ok (.aload_n 0, 1) := by decide +kernel
theorem dX8_hole_12 : decode cX8_hole 12 = .ok (.iload_n 1, 1) := by decide +kernel
theorem dX8_hole_13 : decode cX8_hole 13 = .ok (.iload_n 2, 1) := by decide +kernel
theorem dX8_hole_14 : decode cX8_hole 14 = .ok (.iconst (-1), 1) := by decide +kernel
theorem dX8_hole_15 : decode cX8_hole 15 = .ok (.invokevirtual 130, 3) := by decide +kernel
theorem dX8_hole_18 : decode cX8_hole 18 = .ok (.iconst 1, 1) := by decide +kernel
theorem dX8_hole_19 : decode cX8_hole 19 = .ok (.ireturn, 1) := by decide +kernel
theorem dX8_block_0 : decode cX8_block 0 = .ok (.aload_n 0, 1) := by decide +kernel
theorem dX8_block_1 : decode cX8_block 1 = .ok (.iload_n 1, 1) := by decide +kernel
theorem dX8_block_2 : decode cX8_block 2 = .ok (.invokevirtual 109, 3) := by decide +kernel
theorem dX8_block_5 : decode cX8_block 5 = .ok (.ifCond .eq 33, 3) := by decide +kernel
theorem dX8_block_8 : decode cX8_block 8 = .ok (.iload_n 2, 1) := by decide +kernel
theorem dX8_block_9 : decode cX8_block 9 = .ok (.iconst 0, 1) := by decide +kernel
theorem dX8_block_10 : decode cX8_block 10 = .ok (.aload_n 0, 1) := by decide +kernel
theorem dX8_block_11 : decode cX8_block 11 = .ok (.getfield 24, 3) := by decide +kernel
theorem dX8_block_14 : decode cX8_block 14 = .ok (.iload_n 1, 1) := by decide +kernel
theorem dX8_block_15 : decode cX8_block 15 = .ok (.iaload, 1) := by decide +kernel
theorem dX8_block_16 : decode cX8_block 16 = .ok (.iconst 1, 1) := by decide +kernel
theorem dX8_block_17 : decode cX8_block 17 = .ok (.isub, 1) := by decide +kernel
theorem dX8_block_18 : decode cX8_block 18 = .ok (.invokestatic 73, 3) := by decide +kernel
theorem dX8_block_21 : decode cX8_block 21 = .ok (.ifCond .eq 17, 3) := by decide +kernel
theorem dX8_block_24 : decode cX8_block 24 = .ok (.aload_n 0, 1) := by decide +kernel
theorem dX8_block_25 : decode cX8_block 25 = .ok (.getfield 27, 3) := by decide +kernel
theorem dX8_block_28 : decode cX8_block 28 = .ok (.bipush 60, 2) := by decide +kernel
theorem dX8_block_30 : decode cX8_block 30 = .ok (.iload_n 1, 1) := by decide +kernel
theorem dX8_block_31 : decode cX8_block 31 = .ok (.imul, 1) := by decide +kernel
theorem dX8_block_32 : decode cX8_block 32 = .ok (.iload_n 2, 1) := by decide +kernel
theorem dX8_block_33 : decode cX8_block 33 = .ok (.iadd, 1) := by decide +kernel
theorem dX8_block_34 : decode cX8_block 34 = .ok (.iaload, 1) := by decide +kernel
theorem dX8_block_35 : decode cX8_block 35 = .ok (.goto 4, 3) := by decide +kernel
theorem dX8_block_38 : decode cX8_block 38 = .ok (.iconst (-1), 1) := by decide +kernel
theorem dX8_block_39 : decode cX8_block 39 = .ok (.ireturn, 1) := by decide +kernel
theorem dX8_share_0 : decode cX8_share 0 = .ok (.aload_n 0, 1) := by decide +kernel
theorem dX8_share_1 : decode cX8_share 1 = .ok (.iload_n 1, 1) := by decide +kernel
theorem dX8_share_2 : decode cX8_share 2 = .ok (.iload_n 2, 1) := by decide +kernel
theorem dX8_share_3 : decode cX8_share 3 = .ok (.invokevirtual 116, 3) := by decide +kernel
theorem dX8_share_6 : decode cX8_share 6 = .ok (.ifCond .eq 14, 3) := by decide +kernel
theorem dX8_share_9 : decode cX8_share 9 = .ok (.aload_n 0, 1) := by decide +kernel
theorem dX8_share_10 : decode cX8_share 10 = .ok (.iload_n 3, 1) := by decide +kernel
theorem dX8_share_11 : decode cX8_share 11 = .ok (.iload 4, 2) := by decide +kernel
theorem dX8_share_13 : decode cX8_share 13 = .ok (.invokevirtual 134, 3) := by decide +kernel
theorem dX8_share_16 : decode cX8_share 16 = .ok (.iconst (-1), 1) := by decide +kernel
theorem dX8_share_17 : decode cX8_share 17 = .ok (.if_icmp .ne 5, 3) := by decide +kernel
theorem dX8_share_20 : decode cX8_share 20 = .ok (.iconst 0, 1) := by decide +kernel
theorem dX8_share_21 : decode cX8_share 21 = .ok (.ireturn, 1) := by decide +kernel
theorem dX8_share_22 : decode cX8_share 22 = .ok (.aload_n 0, 1) := by decide +kernel
theorem dX8_share_23 : decode cX8_share 23 = .ok (.iload_n 1, 1) := by decide +kernel
theorem dX8_share_24 : decode cX8_share 24 = .ok (.iload_n 2, 1) := by decide +kernel
theorem dX8_share_25 : decode cX8_share 25 = .ok (.aload_n 0, 1) := by decide +kernel
theorem dX8_share_26 : decode cX8_share 26 = .ok (.iload_n 3, 1) := by decide +kernel
theorem dX8_share_27 : decode cX8_share 27 = .ok (.iload 4, 2) := by decide +kernel
theorem dX8_share_29 : decode cX8_share 29 = .ok (.invokevirtual 134, 3) := by decide +kernel
theorem dX8_share_32 : decode cX8_share 32 = .ok (.invokevirtual 130, 3) := by decide +kernel
theorem dX8_share_35 : decode cX8_share 35 = .ok (.iconst 1, 1) := by decide +kernel
theorem dX8_share_36 : decode cX8_share 36 = .ok (.ireturn, 1) := by decide +kernel
theorem dX8_cut_0 : decode cX8_cut 0 = .ok (.aload_n 0, 1) := by decide +kernel
theorem dX8_cut_1 : decode cX8_cut 1 = .ok (.iload_n 1, 1) := by decide +kernel
theorem dX8_cut_2 : decode cX8_cut 2 = .ok (.invokevirtual 109, 3) := by decide +kernel
theorem dX8_cut_5 : decode cX8_cut 5 = .ok (.ifCond .eq 17, 3) := by decide +kernel
theorem dX8_cut_8 : decode cX8_cut 8 = .ok (.iload_n 2, 1) := by decide +kernel
theorem dX8_cut_9 : decode cX8_cut 9 = .ok (.iconst 0, 1) := by decide +kernel
theorem dX8_cut_10 : decode cX8_cut 10 = .ok (.aload_n 0, 1) := by decide +kernel
theorem dX8_cut_11 : decode cX8_cut 11 = .ok (.getfield 24, 3) := by decide +kernel
theorem dX8_cut_14 : decode cX8_cut 14 = .ok (.iload_n 1, 1) := by decide +kernel
theorem dX8_cut_15 : decode cX8_cut 15 = .ok (.iaload, 1) := by decide +kernel
theorem dX8_cut_16 : decode cX8_cut 16 = .ok (.invokestatic 73, 3) := by decide +kernel
theorem dX8_cut_19 : decode cX8_cut 19 = .ok (.ifCond .ne 5, 3) := by decide +kernel
theorem dX8_cut_22 : decode cX8_cut 22 = .ok (.iconst 0, 1) := by decide +kernel
theorem dX8_cut_23 : decode cX8_cut 23 = .ok (.ireturn, 1) := by decide +kernel
theorem dX8_cut_24 : decode cX8_cut 24 = .ok (.aload_n 0, 1) := by decide +kernel
theorem dX8_cut_25 : decode cX8_cut 25 = .ok (.getfield 24, 3) := by decide +kernel
theorem dX8_cut_28 : decode cX8_cut 28 = .ok (.iload_n 1, 1) := by decide +kernel
theorem dX8_cut_29 : decode cX8_cut 29 = .ok (.iload_n 2, 1) := by decide +kernel
theorem dX8_cut_30 : decode cX8_cut 30 = .ok (.iastore, 1) := by decide +kernel
theorem dX8_cut_31 : decode cX8_cut 31 = .ok (.aload_n 0, 1) := by decide +kernel
theorem dX8_cut_32 : decode cX8_cut 32 = .ok (.getfield 36, 3) := by decide +kernel
theorem dX8_cut_35 : decode cX8_cut 35 = .ok (.iload_n 1, 1) := by decide +kernel
theorem dX8_cut_36 : decode cX8_cut 36 = .ok (.aload_n 0, 1) := by decide +kernel
theorem dX8_cut_37 : decode cX8_cut 37 = .ok (.getfield 77, 3) := by decide +kernel
theorem dX8_cut_40 : decode cX8_cut 40 = .ok (.iastore, 1) := by decide +kernel
theorem dX8_cut_41 : decode cX8_cut 41 = .ok (.iconst 1, 1) := by decide +kernel
theorem dX8_cut_42 : decode cX8_cut 42 = .ok (.ireturn, 1) := by decide +kernel
theorem dX8_isIn_0 : decode cX8_isIn 0 = .ok (.iconst 0, 1) := by decide +kernel
theorem dX8_isIn_1 : decode cX8_isIn 1 = .ok (.istore_n 3, 1) := by decide +kernel
theorem dX8_isIn_2 : decode cX8_isIn 2 = .ok (.iload_n 3, 1) := by decide +kernel
theorem dX8_isIn_3 : decode cX8_isIn 3 = .ok (.aload_n 0, 1) := by decide +kernel
theorem dX8_isIn_4 : decode cX8_isIn 4 = .ok (.getfield 88, 3) := by decide +kernel
theorem dX8_isIn_7 : decode cX8_isIn 7 = .ok (.if_icmp .ge 44, 3) := by decide +kernel
theorem dX8_isIn_10 : decode cX8_isIn 10 = .ok (.aload_n 0, 1) := by decide +kernel
theorem dX8_isIn_11 : decode cX8_isIn 11 = .ok (.getfield 45, 3) := by decide +kernel
theorem dX8_isIn_14 : decode cX8_isIn 14 = .ok (.iload_n 3, 1) := by decide +kernel
theorem dX8_isIn_15 : decode cX8_isIn 15 = .ok (.baload, 1) := by decide +kernel
theorem dX8_isIn_16 : decode cX8_isIn 16 = .ok (.ifCond .eq 29, 3) := by decide +kernel
theorem dX8_isIn_19 : decode cX8_isIn 19 = .ok (.aload_n 0, 1) := by decide +kernel
theorem dX8_isIn_20 : decode cX8_isIn 20 = .ok (.getfield 39, 3) := by decide +kernel
theorem dX8_isIn_23 : decode cX8_isIn 23 = .ok (.iload_n 3, 1) := by decide +kernel
theorem dX8_isIn_24 : decode cX8_isIn 24 = .ok (.iaload, 1) := by decide +kernel
theorem dX8_isIn_25 : decode cX8_isIn 25 = .ok (.iload_n 1, 1) := by decide +kernel
theorem dX8_isIn_26 : decode cX8_isIn 26 = .ok (.if_icmp .ne 19, 3) := by decide +kernel
theorem dX8_isIn_29 : decode cX8_isIn 29 = .ok (.aload_n 0, 1) := by decide +kernel
theorem dX8_isIn_30 : decode cX8_isIn 30 = .ok (.aload_n 0, 1) := by decide +kernel
theorem dX8_isIn_31 : decode cX8_isIn 31 = .ok (.getfield 42, 3) := by decide +kernel
theorem dX8_isIn_34 : decode cX8_isIn 34 = .ok (.iload_n 3, 1) := by decide +kernel
theorem dX8_isIn_35 : decode cX8_isIn 35 = .ok (.iaload, 1) := by decide +kernel
theorem dX8_isIn_36 : decode cX8_isIn 36 = .ok (.iload_n 2, 1) := by decide +kernel
theorem dX8_isIn_37 : decode cX8_isIn 37 = .ok (.invokevirtual 84, 3) := by decide +kernel
theorem dX8_isIn_40 : decode cX8_isIn 40 = .ok (.ifCond .eq 5, 3) := by decide +kernel
theorem dX8_isIn_43 : decode cX8_isIn 43 = .ok (.iconst 1, 1) := by decide +kernel
theorem dX8_isIn_44 : decode cX8_isIn 44 = .ok (.ireturn, 1) := by decide +kernel
theorem dX8_isIn_45 : decode cX8_isIn 45 = .ok (.iinc 3 1, 3) := by decide +kernel
theorem dX8_isIn_48 : decode cX8_isIn 48 = .ok (.goto (-46), 3) := by decide +kernel
theorem dX8_isIn_51 : decode cX8_isIn 51 = .ok (.iconst 0, 1) := by decide +kernel
theorem dX8_isIn_52 : decode cX8_isIn 52 = .ok (.ireturn, 1) := by decide +kernel
theorem dX8_taken_0 : decode cX8_taken 0 = .ok (.lconst 0, 1) := by decide +kernel
theorem dX8_taken_1 : decode cX8_taken 1 = .ok (.lstore_n 2, 1) := by decide +kernel
theorem dX8_taken_2 : decode cX8_taken 2 = .ok (.iconst 0, 1) := by decide +kernel
theorem dX8_taken_3 : decode cX8_taken 3 = .ok (.istore 4, 2) := by decide +kernel
theorem dX8_taken_5 : decode cX8_taken 5 = .ok (.iload 4, 2) := by decide +kernel
theorem dX8_taken_7 : decode cX8_taken 7 = .ok (.aload_n 0, 1) := by decide +kernel
theorem dX8_taken_8 : decode cX8_taken 8 = .ok (.getfield 91, 3) := by decide +kernel
theorem dX8_taken_11 : decode cX8_taken 11 = .ok (.if_icmp .ge 28, 3) := by decide +kernel
theorem dX8_taken_14 : decode cX8_taken 14 = .ok (.aload_n 0, 1) := by decide +kernel
theorem dX8_taken_15 : decode cX8_taken 15 = .ok (.iload 4, 2) := by decide +kernel
theorem dX8_taken_17 : decode cX8_taken 17 = .ok (.iload_n 1, 1) := by decide +kernel
theorem dX8_taken_18 : decode cX8_taken 18 = .ok (.invokevirtual 137, 3) := by decide +kernel
theorem dX8_taken_21 : decode cX8_taken 21 = .ok (.ifCond .eq 12, 3) := by decide +kernel
theorem dX8_taken_24 : decode cX8_taken 24 = .ok (.lload_n 2, 1) := by decide +kernel
theorem dX8_taken_25 : decode cX8_taken 25 = .ok (.aload_n 0, 1) := by decide +kernel
theorem dX8_taken_26 : decode cX8_taken 26 = .ok (.iload 4, 2) := by decide +kernel
theorem dX8_taken_28 : decode cX8_taken 28 = .ok (.invokevirtual 112, 3) := by decide +kernel
theorem dX8_taken_31 : decode cX8_taken 31 = .ok (.lor, 1) := by decide +kernel
theorem dX8_taken_32 : decode cX8_taken 32 = .ok (.lstore_n 2, 1) := by decide +kernel
theorem dX8_taken_33 : decode cX8_taken 33 = .ok (.iinc 4 1, 3) := by decide +kernel
theorem dX8_taken_36 : decode cX8_taken 36 = .ok (.goto (-31), 3) := by decide +kernel
theorem dX8_taken_39 : decode cX8_taken 39 = .ok (.lload_n 2, 1) := by decide +kernel
theorem dX8_taken_40 : decode cX8_taken 40 = .ok (.invokestatic 126, 3) := by decide +kernel
theorem dX8_taken_43 : decode cX8_taken 43 = .ok (.ireturn, 1) := by decide +kernel
theorem dX8_sum_0 : decode cX8_sum 0 = .ok (.aload_n 0, 1) := by decide +kernel
theorem dX8_sum_1 : decode cX8_sum 1 = .ok (.iload_n 1, 1) := by decide +kernel
theorem dX8_sum_2 : decode cX8_sum 2 = .ok (.invokevirtual 80, 3) := by decide +kernel
theorem dX8_sum_5 : decode cX8_sum 5 = .ok (.ifCond .eq 21, 3) := by decide +kernel
theorem dX8_sum_8 : decode cX8_sum 8 = .ok (.iload_n 2, 1) := by decide +kernel
theorem dX8_sum_9 : decode cX8_sum 9 = .ok (.iconst 0, 1) := by decide +kernel
theorem dX8_sum_10 : decode cX8_sum 10 = .ok (.iconst 5, 1) := by decide +kernel
theorem dX8_sum_11 : decode cX8_sum 11 = .ok (.invokestatic 73, 3) := by decide +kernel
theorem dX8_sum_14 : decode cX8_sum 14 = .ok (.ifCond .eq 12, 3) := by decide +kernel
theorem dX8_sum_17 : decode cX8_sum 17 = .ok (.iload_n 3, 1) := by decide +kernel
theorem dX8_sum_18 : decode cX8_sum 18 = .ok (.iconst 0, 1) := by decide +kernel
theorem dX8_sum_19 : decode cX8_sum 19 = .ok (.iconst 2, 1) := by decide +kernel
theorem dX8_sum_20 : decode cX8_sum 20 = .ok (.invokestatic 73, 3) := by decide +kernel
theorem dX8_sum_23 : decode cX8_sum 23 = .ok (.ifCond .ne 5, 3) := by decide +kernel
theorem dX8_sum_26 : decode cX8_sum 26 = .ok (.iconst (-1), 1) := by decide +kernel
theorem dX8_sum_27 : decode cX8_sum 27 = .ok (.ireturn, 1) := by decide +kernel
theorem dX8_sum_28 : decode cX8_sum 28 = .ok (.aload_n 0, 1) := by decide +kernel
theorem dX8_sum_29 : decode cX8_sum 29 = .ok (.iload_n 1, 1) := by decide +kernel
theorem dX8_sum_30 : decode cX8_sum 30 = .ok (.iload_n 2, 1) := by decide +kernel
theorem dX8_sum_31 : decode cX8_sum 31 = .ok (.invokevirtual 140, 3) := by decide +kernel
theorem dX8_sum_34 : decode cX8_sum 34 = .ok (.ifCond .ne 19, 3) := by decide +kernel
theorem dX8_sum_37 : decode cX8_sum 37 = .ok (.aload_n 0, 1) := by decide +kernel
theorem dX8_sum_38 : decode cX8_sum 38 = .ok (.aload_n 0, 1) := by decide +kernel
theorem dX8_sum_39 : decode cX8_sum 39 = .ok (.getfield 13, 3) := by decide +kernel
theorem dX8_sum_42 : decode cX8_sum 42 = .ok (.iload_n 1, 1) := by decide +kernel
theorem dX8_sum_43 : decode cX8_sum 43 = .ok (.iaload, 1) := by decide +kernel
theorem dX8_sum_44 : decode cX8_sum 44 = .ok (.iload_n 2, 1) := by decide +kernel
theorem dX8_sum_45 : decode cX8_sum 45 = .ok (.invokevirtual 140, 3) := by decide +kernel
theorem dX8_sum_48 : decode cX8_sum 48 = .ok (.ifCond .ne 5, 3) := by decide +kernel
theorem dX8_sum_51 : decode cX8_sum 51 = .ok (.iconst (-1), 1) := by decide +kernel
theorem dX8_sum_52 : decode cX8_sum 52 = .ok (.ireturn, 1) := by decide +kernel
theorem dX8_sum_53 : decode cX8_sum 53 = .ok (.iload_n 3, 1) := by decide +kernel
theorem dX8_sum_54 : decode cX8_sum 54 = .ok (.ifCond .ne 9, 3) := by decide +kernel
theorem dX8_sum_57 : decode cX8_sum 57 = .ok (.aload_n 0, 1) := by decide +kernel
theorem dX8_sum_58 : decode cX8_sum 58 = .ok (.iload_n 1, 1) := by decide +kernel
theorem dX8_sum_59 : decode cX8_sum 59 = .ok (.invokevirtual 143, 3) := by decide +kernel
theorem dX8_sum_62 : decode cX8_sum 62 = .ok (.ireturn, 1) := by decide +kernel
theorem dX8_sum_63 : decode cX8_sum 63 = .ok (.iconst 0, 1) := by decide +kernel
theorem dX8_sum_64 : decode cX8_sum 64 = .ok (.istore 4, 2) := by decide +kernel
theorem dX8_sum_66 : decode cX8_sum 66 = .ok (.iconst 0, 1) := by decide +kernel
theorem dX8_sum_67 : decode cX8_sum 67 = .ok (.istore 5, 2) := by decide +kernel
theorem dX8_sum_69 : decode cX8_sum 69 = .ok (.iload 5, 2) := by decide +kernel
theorem dX8_sum_71 : decode cX8_sum 71 = .ok (.aload_n 0, 1) := by decide +kernel
theorem dX8_sum_72 : decode cX8_sum 72 = .ok (.getfield 91, 3) := by decide +kernel
theorem dX8_sum_75 : decode cX8_sum 75 = .ok (.if_icmp .ge 40, 3) := by decide +kernel
theorem dX8_sum_78 : decode cX8_sum 78 = .ok (.aload_n 0, 1) := by decide +kernel
theorem dX8_sum_79 : decode cX8_sum 79 = .ok (.iload 5, 2) := by decide +kernel
theorem dX8_sum_81 : decode cX8_sum 81 = .ok (.iload_n 1, 1) := by decide +kernel
theorem dX8_sum_82 : decode cX8_sum 82 = .ok (.invokevirtual 137, 3) := by decide +kernel
theorem dX8_sum_85 : decode cX8_sum 85 = .ok (.ifCond .eq 24, 3) := by decide +kernel
theorem dX8_sum_88 : decode cX8_sum 88 = .ok (.iload 4, 2) := by decide +kernel
theorem dX8_sum_90 : decode cX8_sum 90 = .ok (.iload_n 3, 1) := by decide +kernel
theorem dX8_sum_91 : decode cX8_sum 91 = .ok (.iconst 1, 1) := by decide +kernel
theorem dX8_sum_92 : decode cX8_sum 92 = .ok (.if_icmp .ne 13, 3) := by decide +kernel
theorem dX8_sum_95 : decode cX8_sum 95 = .ok (.aload_n 0, 1) := by decide +kernel
theorem dX8_sum_96 : decode cX8_sum 96 = .ok (.getfield 24, 3) := by decide +kernel
theorem dX8_sum_99 : decode cX8_sum 99 = .ok (.iload 5, 2) := by decide +kernel
theorem dX8_sum_101 : decode cX8_sum 101 = .ok (.iaload, 1) := by decide +kernel
theorem dX8_sum_102 : decode cX8_sum 102 = .ok (.goto 4, 3) := by decide +kernel
theorem dX8_sum_105 : decode cX8_sum 105 = .ok (.iconst 1, 1) := by decide +kernel
theorem dX8_sum_106 : decode cX8_sum 106 = .ok (.iadd, 1) := by decide +kernel
theorem dX8_sum_107 : decode cX8_sum 107 = .ok (.istore 4, 2) := by decide +kernel
theorem dX8_sum_109 : decode cX8_sum 109 = .ok (.iinc 5 1, 3) := by decide +kernel
theorem dX8_sum_112 : decode cX8_sum 112 = .ok (.goto (-43), 3) := by decide +kernel
theorem dX8_sum_115 : decode cX8_sum 115 = .ok (.iload 4, 2) := by decide +kernel
theorem dX8_sum_117 : decode cX8_sum 117 = .ok (.ireturn, 1) := by decide +kernel
theorem dX8_named_0 : decode cX8_named 0 = .ok (.aload_n 0, 1) := by decide +kernel
theorem dX8_named_1 : decode cX8_named 1 = .ok (.iload_n 1, 1) := by decide +kernel
theorem dX8_named_2 : decode cX8_named 2 = .ok (.invokevirtual 80, 3) := by decide +kernel
theorem dX8_named_5 : decode cX8_named 5 = .ok (.ifCond .eq 25, 3) := by decide +kernel
theorem dX8_named_8 : decode cX8_named 8 = .ok (.iload_n 2, 1) := by decide +kernel
theorem dX8_named_9 : decode cX8_named 9 = .ok (.iconst 0, 1) := by decide +kernel
theorem dX8_named_10 : decode cX8_named 10 = .ok (.iconst 5, 1) := by decide +kernel
theorem dX8_named_11 : decode cX8_named 11 = .ok (.invokestatic 73, 3) := by decide +kernel
theorem dX8_named_14 : decode cX8_named 14 = .ok (.ifCond .eq 16, 3) := by decide +kernel
theorem dX8_named_17 : decode cX8_named 17 = .ok (.aload_n 0, 1) := by decide +kernel
theorem dX8_named_18 : decode cX8_named 18 = .ok (.iload_n 1, 1) := by decide +kernel
theorem dX8_named_19 : decode cX8_named 19 = .ok (.iload_n 2, 1) := by decide +kernel
theorem dX8_named_20 : decode cX8_named 20 = .ok (.invokevirtual 140, 3) := by decide +kernel
theorem dX8_named_23 : decode cX8_named 23 = .ok (.ifCond .eq 7, 3) := by decide +kernel
theorem dX8_named_26 : decode cX8_named 26 = .ok (.iload_n 3, 1) := by decide +kernel
theorem dX8_named_27 : decode cX8_named 27 = .ok (.ifCond .ge 5, 3) := by decide +kernel
theorem dX8_named_30 : decode cX8_named 30 = .ok (.iconst (-1), 1) := by decide +kernel
theorem dX8_named_31 : decode cX8_named 31 = .ok (.ireturn, 1) := by decide +kernel
theorem dX8_named_32 : decode cX8_named 32 = .ok (.iload_n 3, 1) := by decide +kernel
theorem dX8_named_33 : decode cX8_named 33 = .ok (.istore 4, 2) := by decide +kernel
theorem dX8_named_35 : decode cX8_named 35 = .ok (.iconst 0, 1) := by decide +kernel
theorem dX8_named_36 : decode cX8_named 36 = .ok (.istore 5, 2) := by decide +kernel
theorem dX8_named_38 : decode cX8_named 38 = .ok (.iload 5, 2) := by decide +kernel
theorem dX8_named_40 : decode cX8_named 40 = .ok (.aload_n 0, 1) := by decide +kernel
theorem dX8_named_41 : decode cX8_named 41 = .ok (.getfield 88, 3) := by decide +kernel
theorem dX8_named_44 : decode cX8_named 44 = .ok (.if_icmp .ge 44, 3) := by decide +kernel
theorem dX8_named_47 : decode cX8_named 47 = .ok (.aload_n 0, 1) := by decide +kernel
theorem dX8_named_48 : decode cX8_named 48 = .ok (.getfield 45, 3) := by decide +kernel
theorem dX8_named_51 : decode cX8_named 51 = .ok (.iload 5, 2) := by decide +kernel
theorem dX8_named_53 : decode cX8_named 53 = .ok (.baload, 1) := by decide +kernel
theorem dX8_named_54 : decode cX8_named 54 = .ok (.ifCond .eq 28, 3) := by decide +kernel
theorem dX8_named_57 : decode cX8_named 57 = .ok (.aload_n 0, 1) := by decide +kernel
theorem dX8_named_58 : decode cX8_named 58 = .ok (.getfield 42, 3) := by decide +kernel
theorem dX8_named_61 : decode cX8_named 61 = .ok (.iload 5, 2) := by decide +kernel
theorem dX8_named_63 : decode cX8_named 63 = .ok (.iaload, 1) := by decide +kernel
theorem dX8_named_64 : decode cX8_named 64 = .ok (.iload_n 1, 1) := by decide +kernel
theorem dX8_named_65 : decode cX8_named 65 = .ok (.if_icmp .eq 6, 3) := by decide +kernel
theorem dX8_named_68 : decode cX8_named 68 = .ok (.goto 14, 3) := by decide +kernel
theorem dX8_named_71 : decode cX8_named 71 = .ok (.iload 4, 2) := by decide +kernel
theorem dX8_named_73 : decode cX8_named 73 = .ok (.ifCond .ne 6, 3) := by decide +kernel
theorem dX8_named_76 : decode cX8_named 76 = .ok (.iload 5, 2) := by decide +kernel
theorem dX8_named_78 : decode cX8_named 78 = .ok (.ireturn, 1) := by decide +kernel
theorem dX8_named_79 : decode cX8_named 79 = .ok (.iinc 4 (-1), 3) := by decide +kernel
theorem dX8_named_82 : decode cX8_named 82 = .ok (.iinc 5 1, 3) := by decide +kernel
theorem dX8_named_85 : decode cX8_named 85 = .ok (.goto (-47), 3) := by decide +kernel
theorem dX8_named_88 : decode cX8_named 88 = .ok (.iconst (-1), 1) := by decide +kernel
theorem dX8_named_89 : decode cX8_named 89 = .ok (.ireturn, 1) := by decide +kernel
theorem dX8_snapshot_0 : decode cX8_snapshot 0 = .ok (.iconst 0, 1) := by decide +kernel
theorem dX8_snapshot_1 : decode cX8_snapshot 1 = .ok (.istore_n 1, 1) := by decide +kernel
theorem dX8_snapshot_2 : decode cX8_snapshot 2 = .ok (.iload_n 1, 1) := by decide +kernel
theorem dX8_snapshot_3 : decode cX8_snapshot 3 = .ok (.bipush 8, 2) := by decide +kernel
theorem dX8_snapshot_5 : decode cX8_snapshot 5 = .ok (.if_icmp .ge 40, 3) := by decide +kernel
theorem dX8_snapshot_8 : decode cX8_snapshot 8 = .ok (.aload_n 0, 1) := by decide +kernel
theorem dX8_snapshot_9 : decode cX8_snapshot 9 = .ok (.getfield 48, 3) := by decide +kernel
theorem dX8_snapshot_12 : decode cX8_snapshot 12 = .ok (.iload_n 1, 1) := by decide +kernel
theorem dX8_snapshot_13 : decode cX8_snapshot 13 = .ok (.baload, 1) := by decide +kernel
theorem dX8_snapshot_14 : decode cX8_snapshot 14 = .ok (.ifCond .eq 6, 3) := by decide +kernel
theorem dX8_snapshot_17 : decode cX8_snapshot 17 = .ok (.goto 22, 3) := by decide +kernel
theorem dX8_snapshot_20 : decode cX8_snapshot 20 = .ok (.aload_n 0, 1) := by decide +kernel
theorem dX8_snapshot_21 : decode cX8_snapshot 21 = .ok (.getfield 48, 3) := by decide +kernel
theorem dX8_snapshot_24 : decode cX8_snapshot 24 = .ok (.iload_n 1, 1) := by decide +kernel
theorem dX8_snapshot_25 : decode cX8_snapshot 25 = .ok (.iconst 1, 1) := by decide +kernel
theorem dX8_snapshot_26 : decode cX8_snapshot 26 = .ok (.bastore, 1) := by decide +kernel
theorem dX8_snapshot_27 : decode cX8_snapshot 27 = .ok (.aload_n 0, 1) := by decide +kernel
theorem dX8_snapshot_28 : decode cX8_snapshot 28 = .ok (.getfield 51, 3) := by decide +kernel
theorem dX8_snapshot_31 : decode cX8_snapshot 31 = .ok (.iload_n 1, 1) := by decide +kernel
theorem dX8_snapshot_32 : decode cX8_snapshot 32 = .ok (.aload_n 0, 1) := by decide +kernel
theorem dX8_snapshot_33 : decode cX8_snapshot 33 = .ok (.invokevirtual 119, 3) := by decide +kernel
theorem dX8_snapshot_36 : decode cX8_snapshot 36 = .ok (.lastore, 1) := by decide +kernel
theorem dX8_snapshot_37 : decode cX8_snapshot 37 = .ok (.iload_n 1, 1) := by decide +kernel
theorem dX8_snapshot_38 : decode cX8_snapshot 38 = .ok (.ireturn, 1) := by decide +kernel
theorem dX8_snapshot_39 : decode cX8_snapshot 39 = .ok (.iinc 1 1, 3) := by decide +kernel
theorem dX8_snapshot_42 : decode cX8_snapshot 42 = .ok (.goto (-40), 3) := by decide +kernel
theorem dX8_snapshot_45 : decode cX8_snapshot 45 = .ok (.iconst (-1), 1) := by decide +kernel
theorem dX8_snapshot_46 : decode cX8_snapshot 46 = .ok (.ireturn, 1) := by decide +kernel
theorem dX8_isSnapshot_0 : decode cX8_isSnapshot 0 = .ok (.iload_n 1, 1) := by decide +kernel
theorem dX8_isSnapshot_1 : decode cX8_isSnapshot 1 = .ok (.iconst 0, 1) := by decide +kernel
theorem dX8_isSnapshot_2 : decode cX8_isSnapshot 2 = .ok (.bipush 7, 2) := by decide +kernel
theorem dX8_isSnapshot_4 : decode cX8_isSnapshot 4 = .ok (.invokestatic 73, 3) := by decide +kernel
theorem dX8_isSnapshot_7 : decode cX8_isSnapshot 7 = .ok (.ifCond .eq 16, 3) := by decide +kernel
theorem dX8_isSnapshot_10 : decode cX8_isSnapshot 10 = .ok (.aload_n 0, 1) := by decide +kernel
theorem dX8_isSnapshot_11 : decode cX8_isSnapshot 11 = .ok (.getfield 48, 3) := by decide +kernel
theorem dX8_isSnapshot_14 : decode cX8_isSnapshot 14 = .ok (.iload_n 1, 1) := by decide +kernel
theorem dX8_isSnapshot_15 : decode cX8_isSnapshot 15 = .ok (.baload, 1) := by decide +kernel
theorem dX8_isSnapshot_16 : decode cX8_isSnapshot 16 = .ok (.ifCond .eq 7, 3) := by decide +kernel
theorem dX8_isSnapshot_19 : decode cX8_isSnapshot 19 = .ok (.iconst 1, 1) := by decide +kernel
theorem dX8_isSnapshot_20 : decode cX8_isSnapshot 20 = .ok (.goto 4, 3) := by decide +kernel
theorem dX8_isSnapshot_23 : decode cX8_isSnapshot 23 = .ok (.iconst 0, 1) := by decide +kernel
theorem dX8_isSnapshot_24 : decode cX8_isSnapshot 24 = .ok (.ireturn, 1) := by decide +kernel
theorem dX8_alone_0 : decode cX8_alone 0 = .ok (.aload_n 0, 1) := by decide +kernel
theorem dX8_alone_1 : decode cX8_alone 1 = .ok (.iload_n 1, 1) := by decide +kernel
theorem dX8_alone_2 : decode cX8_alone 2 = .ok (.invokevirtual 146, 3) := by decide +kernel
theorem dX8_alone_5 : decode cX8_alone 5 = .ok (.ifCond .eq 30, 3) := by decide +kernel
theorem dX8_alone_8 : decode cX8_alone 8 = .ok (.aload_n 0, 1) := by decide +kernel
theorem dX8_alone_9 : decode cX8_alone 9 = .ok (.getfield 51, 3) := by decide +kernel
theorem dX8_alone_12 : decode cX8_alone 12 = .ok (.iload_n 1, 1) := by decide +kernel
theorem dX8_alone_13 : decode cX8_alone 13 = .ok (.laload, 1) := by decide +kernel
theorem dX8_alone_14 : decode cX8_alone 14 = .ok (.aload_n 0, 1) := by decide +kernel
theorem dX8_alone_15 : decode cX8_alone 15 = .ok (.invokevirtual 119, 3) := by decide +kernel
theorem dX8_alone_18 : decode cX8_alone 18 = .ok (.aload_n 0, 1) := by decide +kernel
theorem dX8_alone_19 : decode cX8_alone 19 = .ok (.iload_n 1, 1) := by decide +kernel
theorem dX8_alone_20 : decode cX8_alone 20 = .ok (.invokevirtual 123, 3) := by decide +kernel
theorem dX8_alone_23 : decode cX8_alone 23 = .ok (.lor, 1) := by decide +kernel
theorem dX8_alone_24 : decode cX8_alone 24 = .ok (.ldc2_w 149, 3) := by decide +kernel
theorem dX8_alone_27 : decode cX8_alone 27 = .ok (.lxor, 1) := by decide +kernel
theorem dX8_alone_28 : decode cX8_alone 28 = .ok (.land, 1) := by decide +kernel
theorem dX8_alone_29 : decode cX8_alone 29 = .ok (.invokestatic 126, 3) := by decide +kernel
theorem dX8_alone_32 : decode cX8_alone 32 = .ok (.goto 4, 3) := by decide +kernel
theorem dX8_alone_35 : decode cX8_alone 35 = .ok (.iconst (-1), 1) := by decide +kernel
theorem dX8_alone_36 : decode cX8_alone 36 = .ok (.ireturn, 1) := by decide +kernel
theorem dX8_drop_0 : decode cX8_drop 0 = .ok (.aload_n 0, 1) := by decide +kernel
theorem dX8_drop_1 : decode cX8_drop 1 = .ok (.iload_n 1, 1) := by decide +kernel
theorem dX8_drop_2 : decode cX8_drop 2 = .ok (.invokevirtual 151, 3) := by decide +kernel
theorem dX8_drop_5 : decode cX8_drop 5 = .ok (.istore_n 2, 1) := by decide +kernel
theorem dX8_drop_6 : decode cX8_drop 6 = .ok (.iload_n 2, 1) := by decide +kernel
theorem dX8_drop_7 : decode cX8_drop 7 = .ok (.iconst (-1), 1) := by decide +kernel
theorem dX8_drop_8 : decode cX8_drop 8 = .ok (.if_icmp .eq 10, 3) := by decide +kernel
theorem dX8_drop_11 : decode cX8_drop 11 = .ok (.aload_n 0, 1) := by decide +kernel
theorem dX8_drop_12 : decode cX8_drop 12 = .ok (.getfield 48, 3) := by decide +kernel
theorem dX8_drop_15 : decode cX8_drop 15 = .ok (.iload_n 1, 1) := by decide +kernel
theorem dX8_drop_16 : decode cX8_drop 16 = .ok (.iconst 0, 1) := by decide +kernel
theorem dX8_drop_17 : decode cX8_drop 17 = .ok (.bastore, 1) := by decide +kernel
theorem dX8_drop_18 : decode cX8_drop 18 = .ok (.iload_n 2, 1) := by decide +kernel
theorem dX8_drop_19 : decode cX8_drop 19 = .ok (.ireturn, 1) := by decide +kernel
theorem dX8_mark_0 : decode cX8_mark 0 = .ok (.aload_n 0, 1) := by decide +kernel
theorem dX8_mark_1 : decode cX8_mark 1 = .ok (.getfield 154, 3) := by decide +kernel
theorem dX8_mark_4 : decode cX8_mark 4 = .ok (.bipush 20, 2) := by decide +kernel
theorem dX8_mark_6 : decode cX8_mark 6 = .ok (.if_icmp .ne 5, 3) := by decide +kernel
theorem dX8_mark_9 : decode cX8_mark 9 = .ok (.iconst (-1), 1) := by decide +kernel
theorem dX8_mark_10 : decode cX8_mark 10 = .ok (.ireturn, 1) := by decide +kernel
theorem dX8_mark_11 : decode cX8_mark 11 = .ok (.aload_n 0, 1) := by decide +kernel
theorem dX8_mark_12 : decode cX8_mark 12 = .ok (.getfield 55, 3) := by decide +kernel
theorem dX8_mark_15 : decode cX8_mark 15 = .ok (.aload_n 0, 1) := by decide +kernel
theorem dX8_mark_16 : decode cX8_mark 16 = .ok (.getfield 154, 3) := by decide +kernel
theorem dX8_mark_19 : decode cX8_mark 19 = .ok (.aload_n 0, 1) := by decide +kernel
theorem dX8_mark_20 : decode cX8_mark 20 = .ok (.getfield 77, 3) := by decide +kernel
theorem dX8_mark_23 : decode cX8_mark 23 = .ok (.iastore, 1) := by decide +kernel
theorem dX8_mark_24 : decode cX8_mark 24 = .ok (.iconst 0, 1) := by decide +kernel
theorem dX8_mark_25 : decode cX8_mark 25 = .ok (.istore_n 1, 1) := by decide +kernel
theorem dX8_mark_26 : decode cX8_mark 26 = .ok (.iload_n 1, 1) := by decide +kernel
theorem dX8_mark_27 : decode cX8_mark 27 = .ok (.bipush 30, 2) := by decide +kernel
theorem dX8_mark_29 : decode cX8_mark 29 = .ok (.if_icmp .ge 40, 3) := by decide +kernel
theorem dX8_mark_32 : decode cX8_mark 32 = .ok (.aload_n 0, 1) := by decide +kernel
theorem dX8_mark_33 : decode cX8_mark 33 = .ok (.getfield 58, 3) := by decide +kernel
theorem dX8_mark_36 : decode cX8_mark 36 = .ok (.bipush 30, 2) := by decide +kernel
theorem dX8_mark_38 : decode cX8_mark 38 = .ok (.aload_n 0, 1) := by decide +kernel
theorem dX8_mark_39 : decode cX8_mark 39 = .ok (.getfield 154, 3) := by decide +kernel
theorem dX8_mark_42 : decode cX8_mark 42 = .ok (.imul, 1) := by decide +kernel
theorem dX8_mark_43 : decode cX8_mark 43 = .ok (.iload_n 1, 1) := by decide +kernel
theorem dX8_mark_44 : decode cX8_mark 44 = .ok (.iadd, 1) := by decide +kernel
theorem dX8_mark_45 : decode cX8_mark 45 = .ok (.iload_n 1, 1) := by decide +kernel
theorem dX8_mark_46 : decode cX8_mark 46 = .ok (.aload_n 0, 1) := by decide +kernel
theorem dX8_mark_47 : decode cX8_mark 47 = .ok (.getfield 7, 3) := by decide +kernel
theorem dX8_mark_50 : decode cX8_mark 50 = .ok (.if_icmp .ge 11, 3) := by decide +kernel
theorem dX8_mark_53 : decode cX8_mark 53 = .ok (.aload_n 0, 1) := by decide +kernel
theorem dX8_mark_54 : decode cX8_mark 54 = .ok (.iload_n 1, 1) := by decide +kernel
theorem dX8_mark_55 : decode cX8_mark 55 = .ok (.invokevirtual 143, 3) := by decide +kernel
theorem dX8_mark_58 : decode cX8_mark 58 = .ok (.goto 4, 3) := by decide +kernel
theorem dX8_mark_61 : decode cX8_mark 61 = .ok (.iconst 0, 1) := by decide +kernel
theorem dX8_mark_62 : decode cX8_mark 62 = .ok (.iastore, 1) := by decide +kernel
theorem dX8_mark_63 : decode cX8_mark 63 = .ok (.iinc 1 1, 3) := by decide +kernel
theorem dX8_mark_66 : decode cX8_mark 66 = .ok (.goto (-40), 3) := by decide +kernel
theorem dX8_mark_69 : decode cX8_mark 69 = .ok (.aload_n 0, 1) := by decide +kernel
theorem dX8_mark_70 : decode cX8_mark 70 = .ok (.dup, 1) := by decide +kernel
theorem dX8_mark_71 : decode cX8_mark 71 = .ok (.getfield 154, 3) := by decide +kernel
theorem dX8_mark_74 : decode cX8_mark 74 = .ok (.iconst 1, 1) := by decide +kernel
theorem dX8_mark_75 : decode cX8_mark 75 = .ok (.iadd, 1) := by decide +kernel
theorem dX8_mark_76 : decode cX8_mark 76 = .ok (.putfield 154, 3) := by decide +kernel
theorem dX8_mark_79 : decode cX8_mark 79 = .ok (.aload_n 0, 1) := by decide +kernel
theorem dX8_mark_80 : decode cX8_mark 80 = .ok (.getfield 154, 3) := by decide +kernel
theorem dX8_mark_83 : decode cX8_mark 83 = .ok (.iconst 1, 1) := by decide +kernel
theorem dX8_mark_84 : decode cX8_mark 84 = .ok (.isub, 1) := by decide +kernel
theorem dX8_mark_85 : decode cX8_mark 85 = .ok (.ireturn, 1) := by decide +kernel
theorem dX8_grew_0 : decode cX8_grew 0 = .ok (.aload_n 0, 1) := by decide +kernel
theorem dX8_grew_1 : decode cX8_grew 1 = .ok (.iload_n 1, 1) := by decide +kernel
theorem dX8_grew_2 : decode cX8_grew 2 = .ok (.invokevirtual 80, 3) := by decide +kernel
theorem dX8_grew_5 : decode cX8_grew 5 = .ok (.ifCond .eq 31, 3) := by decide +kernel
theorem dX8_grew_8 : decode cX8_grew 8 = .ok (.iload_n 2, 1) := by decide +kernel
theorem dX8_grew_9 : decode cX8_grew 9 = .ok (.iconst 0, 1) := by decide +kernel
theorem dX8_grew_10 : decode cX8_grew 10 = .ok (.aload_n 0, 1) := by decide +kernel
theorem dX8_grew_11 : decode cX8_grew 11 = .ok (.getfield 154, 3) := by decide +kernel
theorem dX8_grew_14 : decode cX8_grew 14 = .ok (.iconst 1, 1) := by decide +kernel
theorem dX8_grew_15 : decode cX8_grew 15 = .ok (.isub, 1) := by decide +kernel
theorem dX8_grew_16 : decode cX8_grew 16 = .ok (.invokestatic 73, 3) := by decide +kernel
theorem dX8_grew_19 : decode cX8_grew 19 = .ok (.ifCond .eq 17, 3) := by decide +kernel
theorem dX8_grew_22 : decode cX8_grew 22 = .ok (.iload_n 3, 1) := by decide +kernel
theorem dX8_grew_23 : decode cX8_grew 23 = .ok (.iconst (-1), 1) := by decide +kernel
theorem dX8_grew_24 : decode cX8_grew 24 = .ok (.aload_n 0, 1) := by decide +kernel
theorem dX8_grew_25 : decode cX8_grew 25 = .ok (.getfield 154, 3) := by decide +kernel
theorem dX8_grew_28 : decode cX8_grew 28 = .ok (.iconst 1, 1) := by decide +kernel
theorem dX8_grew_29 : decode cX8_grew 29 = .ok (.isub, 1) := by decide +kernel
theorem dX8_grew_30 : decode cX8_grew 30 = .ok (.invokestatic 73, 3) := by decide +kernel
theorem dX8_grew_33 : decode cX8_grew 33 = .ok (.ifCond .ne 6, 3) := by decide +kernel
theorem dX8_grew_36 : decode cX8_grew 36 = .ok (.ldc 157, 2) := by decide +kernel
theorem dX8_grew_38 : decode cX8_grew 38 = .ok (.ireturn, 1) := by decide +kernel
theorem dX8_grew_39 : decode cX8_grew 39 = .ok (.iload_n 3, 1) := by decide +kernel
theorem dX8_grew_40 : decode cX8_grew 40 = .ok (.iconst (-1), 1) := by decide +kernel
theorem dX8_grew_41 : decode cX8_grew 41 = .ok (.if_icmp .ne 11, 3) := by decide +kernel
theorem dX8_grew_44 : decode cX8_grew 44 = .ok (.aload_n 0, 1) := by decide +kernel
theorem dX8_grew_45 : decode cX8_grew 45 = .ok (.iload_n 1, 1) := by decide +kernel
theorem dX8_grew_46 : decode cX8_grew 46 = .ok (.invokevirtual 143, 3) := by decide +kernel
theorem dX8_grew_49 : decode cX8_grew 49 = .ok (.goto 14, 3) := by decide +kernel
theorem dX8_grew_52 : decode cX8_grew 52 = .ok (.aload_n 0, 1) := by decide +kernel
theorem dX8_grew_53 : decode cX8_grew 53 = .ok (.getfield 58, 3) := by decide +kernel
theorem dX8_grew_56 : decode cX8_grew 56 = .ok (.bipush 30, 2) := by decide +kernel
theorem dX8_grew_58 : decode cX8_grew 58 = .ok (.iload_n 3, 1) := by decide +kernel
theorem dX8_grew_59 : decode cX8_grew 59 = .ok (.imul, 1) := by decide +kernel
theorem dX8_grew_60 : decode cX8_grew 60 = .ok (.iload_n 1, 1) := by decide +kernel
theorem dX8_grew_61 : decode cX8_grew 61 = .ok (.iadd, 1) := by decide +kernel
theorem dX8_grew_62 : decode cX8_grew 62 = .ok (.iaload, 1) := by decide +kernel
theorem dX8_grew_63 : decode cX8_grew 63 = .ok (.aload_n 0, 1) := by decide +kernel
theorem dX8_grew_64 : decode cX8_grew 64 = .ok (.getfield 58, 3) := by decide +kernel
theorem dX8_grew_67 : decode cX8_grew 67 = .ok (.bipush 30, 2) := by decide +kernel
theorem dX8_grew_69 : decode cX8_grew 69 = .ok (.iload_n 2, 1) := by decide +kernel
theorem dX8_grew_70 : decode cX8_grew 70 = .ok (.imul, 1) := by decide +kernel
theorem dX8_grew_71 : decode cX8_grew 71 = .ok (.iload_n 1, 1) := by decide +kernel
theorem dX8_grew_72 : decode cX8_grew 72 = .ok (.iadd, 1) := by decide +kernel
theorem dX8_grew_73 : decode cX8_grew 73 = .ok (.iaload, 1) := by decide +kernel
theorem dX8_grew_74 : decode cX8_grew 74 = .ok (.isub, 1) := by decide +kernel
theorem dX8_grew_75 : decode cX8_grew 75 = .ok (.ireturn, 1) := by decide +kernel
theorem dX8_freedBy_0 : decode cX8_freedBy 0 = .ok (.lconst 0, 1) := by decide +kernel
theorem dX8_freedBy_1 : decode cX8_freedBy 1 = .ok (.lstore_n 1, 1) := by decide +kernel
theorem dX8_freedBy_2 : decode cX8_freedBy 2 = .ok (.aload_n 0, 1) := by decide +kernel
theorem dX8_freedBy_3 : decode cX8_freedBy 3 = .ok (.iconst (-1), 1) := by decide +kernel
theorem dX8_freedBy_4 : decode cX8_freedBy 4 = .ok (.invokevirtual 123, 3) := by decide +kernel
theorem dX8_freedBy_7 : decode cX8_freedBy 7 = .ok (.lstore_n 3, 1) := by decide +kernel
theorem dX8_freedBy_8 : decode cX8_freedBy 8 = .ok (.iconst 0, 1) := by decide +kernel
theorem dX8_freedBy_9 : decode cX8_freedBy 9 = .ok (.istore 5, 2) := by decide +kernel
theorem dX8_freedBy_11 : decode cX8_freedBy 11 = .ok (.iload 5, 2) := by decide +kernel
theorem dX8_freedBy_13 : decode cX8_freedBy 13 = .ok (.aload_n 0, 1) := by decide +kernel
theorem dX8_freedBy_14 : decode cX8_freedBy 14 = .ok (.getfield 91, 3) := by decide +kernel
theorem dX8_freedBy_17 : decode cX8_freedBy 17 = .ok (.if_icmp .ge 40, 3) := by decide +kernel
theorem dX8_freedBy_20 : decode cX8_freedBy 20 = .ok (.aload_n 0, 1) := by decide +kernel
theorem dX8_freedBy_21 : decode cX8_freedBy 21 = .ok (.getfield 64, 3) := by decide +kernel
theorem dX8_freedBy_24 : decode cX8_freedBy 24 = .ok (.iload 5, 2) := by decide +kernel
theorem dX8_freedBy_26 : decode cX8_freedBy 26 = .ok (.baload, 1) := by decide +kernel
theorem dX8_freedBy_27 : decode cX8_freedBy 27 = .ok (.ifCond .eq 15, 3) := by decide +kernel
theorem dX8_freedBy_30 : decode cX8_freedBy 30 = .ok (.lload_n 1, 1) := by decide +kernel
theorem dX8_freedBy_31 : decode cX8_freedBy 31 = .ok (.aload_n 0, 1) := by decide +kernel
theorem dX8_freedBy_32 : decode cX8_freedBy 32 = .ok (.iload 5, 2) := by decide +kernel
theorem dX8_freedBy_34 : decode cX8_freedBy 34 = .ok (.invokevirtual 112, 3) := by decide +kernel
theorem dX8_freedBy_37 : decode cX8_freedBy 37 = .ok (.lor, 1) := by decide +kernel
theorem dX8_freedBy_38 : decode cX8_freedBy 38 = .ok (.lstore_n 1, 1) := by decide +kernel
theorem dX8_freedBy_39 : decode cX8_freedBy 39 = .ok (.goto 12, 3) := by decide +kernel
theorem dX8_freedBy_42 : decode cX8_freedBy 42 = .ok (.lload_n 3, 1) := by decide +kernel
theorem dX8_freedBy_43 : decode cX8_freedBy 43 = .ok (.aload_n 0, 1) := by decide +kernel
theorem dX8_freedBy_44 : decode cX8_freedBy 44 = .ok (.iload 5, 2) := by decide +kernel
theorem dX8_freedBy_46 : decode cX8_freedBy 46 = .ok (.invokevirtual 112, 3) := by decide +kernel
theorem dX8_freedBy_49 : decode cX8_freedBy 49 = .ok (.lor, 1) := by decide +kernel
theorem dX8_freedBy_50 : decode cX8_freedBy 50 = .ok (.lstore_n 3, 1) := by decide +kernel
theorem dX8_freedBy_51 : decode cX8_freedBy 51 = .ok (.iinc 5 1, 3) := by decide +kernel
theorem dX8_freedBy_54 : decode cX8_freedBy 54 = .ok (.goto (-43), 3) := by decide +kernel
theorem dX8_freedBy_57 : decode cX8_freedBy 57 = .ok (.lload_n 1, 1) := by decide +kernel
theorem dX8_freedBy_58 : decode cX8_freedBy 58 = .ok (.lload_n 3, 1) := by decide +kernel
theorem dX8_freedBy_59 : decode cX8_freedBy 59 = .ok (.ldc2_w 149, 3) := by decide +kernel
theorem dX8_freedBy_62 : decode cX8_freedBy 62 = .ok (.lxor, 1) := by decide +kernel
theorem dX8_freedBy_63 : decode cX8_freedBy 63 = .ok (.land, 1) := by decide +kernel
theorem dX8_freedBy_64 : decode cX8_freedBy 64 = .ok (.invokestatic 126, 3) := by decide +kernel
theorem dX8_freedBy_67 : decode cX8_freedBy 67 = .ok (.ireturn, 1) := by decide +kernel
theorem dX8_hasOutside_0 : decode cX8_hasOutside 0 = .ok (.iconst 0, 1) := by decide +kernel
theorem dX8_hasOutside_1 : decode cX8_hasOutside 1 = .ok (.istore_n 3, 1) := by decide +kernel
theorem dX8_hasOutside_2 : decode cX8_hasOutside 2 = .ok (.iload_n 3, 1) := by decide +kernel
theorem dX8_hasOutside_3 : decode cX8_hasOutside 3 = .ok (.aload_n 0, 1) := by decide +kernel
theorem dX8_hasOutside_4 : decode cX8_hasOutside 4 = .ok (.getfield 88, 3) := by decide +kernel
theorem dX8_hasOutside_7 : decode cX8_hasOutside 7 = .ok (.if_icmp .ge 44, 3) := by decide +kernel
theorem dX8_hasOutside_10 : decode cX8_hasOutside 10 = .ok (.aload_n 0, 1) := by decide +kernel
theorem dX8_hasOutside_11 : decode cX8_hasOutside 11 = .ok (.getfield 45, 3) := by decide +kernel
theorem dX8_hasOutside_14 : decode cX8_hasOutside 14 = .ok (.iload_n 3, 1) := by decide +kernel
theorem dX8_hasOutside_15 : decode cX8_hasOutside 15 = .ok (.baload, 1) := by decide +kernel
theorem dX8_hasOutside_16 : decode cX8_hasOutside 16 = .ok (.ifCond .eq 29, 3) := by decide +kernel
theorem dX8_hasOutside_19 : decode cX8_hasOutside 19 = .ok (.aload_n 0, 1) := by decide +kernel
theorem dX8_hasOutside_20 : decode cX8_hasOutside 20 = .ok (.getfield 39, 3) := by decide +kernel
theorem dX8_hasOutside_23 : decode cX8_hasOutside 23 = .ok (.iload_n 3, 1) := by decide +kernel
theorem dX8_hasOutside_24 : decode cX8_hasOutside 24 = .ok (.iaload, 1) := by decide +kernel
theorem dX8_hasOutside_25 : decode cX8_hasOutside 25 = .ok (.iload_n 1, 1) := by decide +kernel
theorem dX8_hasOutside_26 : decode cX8_hasOutside 26 = .ok (.if_icmp .ne 19, 3) := by decide +kernel
theorem dX8_hasOutside_29 : decode cX8_hasOutside 29 = .ok (.aload_n 0, 1) := by decide +kernel
theorem dX8_hasOutside_30 : decode cX8_hasOutside 30 = .ok (.aload_n 0, 1) := by decide +kernel
theorem dX8_hasOutside_31 : decode cX8_hasOutside 31 = .ok (.getfield 42, 3) := by decide +kernel
theorem dX8_hasOutside_34 : decode cX8_hasOutside 34 = .ok (.iload_n 3, 1) := by decide +kernel
theorem dX8_hasOutside_35 : decode cX8_hasOutside 35 = .ok (.iaload, 1) := by decide +kernel
theorem dX8_hasOutside_36 : decode cX8_hasOutside 36 = .ok (.iload_n 2, 1) := by decide +kernel
theorem dX8_hasOutside_37 : decode cX8_hasOutside 37 = .ok (.invokevirtual 84, 3) := by decide +kernel
theorem dX8_hasOutside_40 : decode cX8_hasOutside 40 = .ok (.ifCond .ne 5, 3) := by decide +kernel
theorem dX8_hasOutside_43 : decode cX8_hasOutside 43 = .ok (.iconst 1, 1) := by decide +kernel
theorem dX8_hasOutside_44 : decode cX8_hasOutside 44 = .ok (.ireturn, 1) := by decide +kernel
theorem dX8_hasOutside_45 : decode cX8_hasOutside 45 = .ok (.iinc 3 1, 3) := by decide +kernel
theorem dX8_hasOutside_48 : decode cX8_hasOutside 48 = .ok (.goto (-46), 3) := by decide +kernel
theorem dX8_hasOutside_51 : decode cX8_hasOutside 51 = .ok (.iconst 0, 1) := by decide +kernel
theorem dX8_hasOutside_52 : decode cX8_hasOutside 52 = .ok (.ireturn, 1) := by decide +kernel
theorem dX8_freed_0 : decode cX8_freed 0 = .ok (.aload_n 0, 1) := by decide +kernel
theorem dX8_freed_1 : decode cX8_freed 1 = .ok (.iload_n 1, 1) := by decide +kernel
theorem dX8_freed_2 : decode cX8_freed 2 = .ok (.invokevirtual 80, 3) := by decide +kernel
theorem dX8_freed_5 : decode cX8_freed 5 = .ok (.ifCond .ne 5, 3) := by decide +kernel
theorem dX8_freed_8 : decode cX8_freed 8 = .ok (.iconst (-1), 1) := by decide +kernel
theorem dX8_freed_9 : decode cX8_freed 9 = .ok (.ireturn, 1) := by decide +kernel
theorem dX8_freed_10 : decode cX8_freed 10 = .ok (.iconst 0, 1) := by decide +kernel
theorem dX8_freed_11 : decode cX8_freed 11 = .ok (.istore_n 2, 1) := by decide +kernel
theorem dX8_freed_12 : decode cX8_freed 12 = .ok (.iload_n 2, 1) := by decide +kernel
theorem dX8_freed_13 : decode cX8_freed 13 = .ok (.aload_n 0, 1) := by decide +kernel
theorem dX8_freed_14 : decode cX8_freed 14 = .ok (.getfield 91, 3) := by decide +kernel
theorem dX8_freed_17 : decode cX8_freed 17 = .ok (.if_icmp .ge 38, 3) := by decide +kernel
theorem dX8_freed_20 : decode cX8_freed 20 = .ok (.aload_n 0, 1) := by decide +kernel
theorem dX8_freed_21 : decode cX8_freed 21 = .ok (.getfield 64, 3) := by decide +kernel
theorem dX8_freed_24 : decode cX8_freed 24 = .ok (.iload_n 2, 1) := by decide +kernel
theorem dX8_freed_25 : decode cX8_freed 25 = .ok (.aload_n 0, 1) := by decide +kernel
theorem dX8_freed_26 : decode cX8_freed 26 = .ok (.iload_n 2, 1) := by decide +kernel
theorem dX8_freed_27 : decode cX8_freed 27 = .ok (.iload_n 1, 1) := by decide +kernel
theorem dX8_freed_28 : decode cX8_freed 28 = .ok (.invokevirtual 137, 3) := by decide +kernel
theorem dX8_freed_31 : decode cX8_freed 31 = .ok (.ifCond .eq 16, 3) := by decide +kernel
theorem dX8_freed_34 : decode cX8_freed 34 = .ok (.aload_n 0, 1) := by decide +kernel
theorem dX8_freed_35 : decode cX8_freed 35 = .ok (.iload_n 2, 1) := by decide +kernel
theorem dX8_freed_36 : decode cX8_freed 36 = .ok (.iload_n 1, 1) := by decide +kernel
theorem dX8_freed_37 : decode cX8_freed 37 = .ok (.invokevirtual 158, 3) := by decide +kernel
theorem dX8_freed_40 : decode cX8_freed 40 = .ok (.ifCond .ne 7, 3) := by decide +kernel
theorem dX8_freed_43 : decode cX8_freed 43 = .ok (.iconst 1, 1) := by decide +kernel
theorem dX8_freed_44 : decode cX8_freed 44 = .ok (.goto 4, 3) := by decide +kernel
theorem dX8_freed_47 : decode cX8_freed 47 = .ok (.iconst 0, 1) := by decide +kernel
theorem dX8_freed_48 : decode cX8_freed 48 = .ok (.bastore, 1) := by decide +kernel
theorem dX8_freed_49 : decode cX8_freed 49 = .ok (.iinc 2 1, 3) := by decide +kernel
theorem dX8_freed_52 : decode cX8_freed 52 = .ok (.goto (-40), 3) := by decide +kernel
theorem dX8_freed_55 : decode cX8_freed 55 = .ok (.aload_n 0, 1) := by decide +kernel
theorem dX8_freed_56 : decode cX8_freed 56 = .ok (.invokevirtual 161, 3) := by decide +kernel
theorem dX8_freed_59 : decode cX8_freed 59 = .ok (.ireturn, 1) := by decide +kernel
theorem dX8_both_0 : decode cX8_both 0 = .ok (.aload_n 0, 1) := by decide +kernel
theorem dX8_both_1 : decode cX8_both 1 = .ok (.iload_n 1, 1) := by decide +kernel
theorem dX8_both_2 : decode cX8_both 2 = .ok (.invokevirtual 109, 3) := by decide +kernel
theorem dX8_both_5 : decode cX8_both 5 = .ok (.ifCond .eq 11, 3) := by decide +kernel
theorem dX8_both_8 : decode cX8_both 8 = .ok (.aload_n 0, 1) := by decide +kernel
theorem dX8_both_9 : decode cX8_both 9 = .ok (.iload_n 2, 1) := by decide +kernel
theorem dX8_both_10 : decode cX8_both 10 = .ok (.invokevirtual 109, 3) := by decide +kernel
theorem dX8_both_13 : decode cX8_both 13 = .ok (.ifCond .ne 5, 3) := by decide +kernel
theorem dX8_both_16 : decode cX8_both 16 = .ok (.iconst (-1), 1) := by decide +kernel
theorem dX8_both_17 : decode cX8_both 17 = .ok (.ireturn, 1) := by decide +kernel
theorem dX8_both_18 : decode cX8_both 18 = .ok (.iconst 0, 1) := by decide +kernel
theorem dX8_both_19 : decode cX8_both 19 = .ok (.istore_n 3, 1) := by decide +kernel
theorem dX8_both_20 : decode cX8_both 20 = .ok (.iload_n 3, 1) := by decide +kernel
theorem dX8_both_21 : decode cX8_both 21 = .ok (.aload_n 0, 1) := by decide +kernel
theorem dX8_both_22 : decode cX8_both 22 = .ok (.getfield 91, 3) := by decide +kernel
theorem dX8_both_25 : decode cX8_both 25 = .ok (.if_icmp .ge 30, 3) := by decide +kernel
theorem dX8_both_28 : decode cX8_both 28 = .ok (.aload_n 0, 1) := by decide +kernel
theorem dX8_both_29 : decode cX8_both 29 = .ok (.getfield 64, 3) := by decide +kernel
theorem dX8_both_32 : decode cX8_both 32 = .ok (.iload_n 3, 1) := by decide +kernel
theorem dX8_both_33 : decode cX8_both 33 = .ok (.iload_n 3, 1) := by decide +kernel
theorem dX8_both_34 : decode cX8_both 34 = .ok (.iload_n 1, 1) := by decide +kernel
theorem dX8_both_35 : decode cX8_both 35 = .ok (.if_icmp .eq 8, 3) := by decide +kernel
theorem dX8_both_38 : decode cX8_both 38 = .ok (.iload_n 3, 1) := by decide +kernel
theorem dX8_both_39 : decode cX8_both 39 = .ok (.iload_n 2, 1) := by decide +kernel
theorem dX8_both_40 : decode cX8_both 40 = .ok (.if_icmp .ne 7, 3) := by decide +kernel
theorem dX8_both_43 : decode cX8_both 43 = .ok (.iconst 1, 1) := by decide +kernel
theorem dX8_both_44 : decode cX8_both 44 = .ok (.goto 4, 3) := by decide +kernel
theorem dX8_both_47 : decode cX8_both 47 = .ok (.iconst 0, 1) := by decide +kernel
theorem dX8_both_48 : decode cX8_both 48 = .ok (.bastore, 1) := by decide +kernel
theorem dX8_both_49 : decode cX8_both 49 = .ok (.iinc 3 1, 3) := by decide +kernel
theorem dX8_both_52 : decode cX8_both 52 = .ok (.goto (-32), 3) := by decide +kernel
theorem dX8_both_55 : decode cX8_both 55 = .ok (.aload_n 0, 1) := by decide +kernel
theorem dX8_both_56 : decode cX8_both 56 = .ok (.invokevirtual 161, 3) := by decide +kernel
theorem dX8_both_59 : decode cX8_both 59 = .ok (.ireturn, 1) := by decide +kernel
theorem dX8_plans_0 : decode cX8_plans 0 = .ok (.aload_n 0, 1) := by decide +kernel
theorem dX8_plans_1 : decode cX8_plans 1 = .ok (.iload_n 1, 1) := by decide +kernel
theorem dX8_plans_2 : decode cX8_plans 2 = .ok (.invokevirtual 80, 3) := by decide +kernel
theorem dX8_plans_5 : decode cX8_plans 5 = .ok (.ifCond .eq 13, 3) := by decide +kernel
theorem dX8_plans_8 : decode cX8_plans 8 = .ok (.iload_n 2, 1) := by decide +kernel
theorem dX8_plans_9 : decode cX8_plans 9 = .ok (.iconst 1, 1) := by decide +kernel
theorem dX8_plans_10 : decode cX8_plans 10 = .ok (.bipush 60, 2) := by decide +kernel
theorem dX8_plans_12 : decode cX8_plans 12 = .ok (.invokestatic 73, 3) := by decide +kernel
theorem dX8_plans_15 : decode cX8_plans 15 = .ok (.ifCond .ne 5, 3) := by decide +kernel
theorem dX8_plans_18 : decode cX8_plans 18 = .ok (.iconst (-1), 1) := by decide +kernel
theorem dX8_plans_19 : decode cX8_plans 19 = .ok (.ireturn, 1) := by decide +kernel
theorem dX8_plans_20 : decode cX8_plans 20 = .ok (.iconst 0, 1) := by decide +kernel
theorem dX8_plans_21 : decode cX8_plans 21 = .ok (.istore_n 3, 1) := by decide +kernel
theorem dX8_plans_22 : decode cX8_plans 22 = .ok (.iconst 0, 1) := by decide +kernel
theorem dX8_plans_23 : decode cX8_plans 23 = .ok (.istore 4, 2) := by decide +kernel
theorem dX8_plans_25 : decode cX8_plans 25 = .ok (.iload 4, 2) := by decide +kernel
theorem dX8_plans_27 : decode cX8_plans 27 = .ok (.aload_n 0, 1) := by decide +kernel
theorem dX8_plans_28 : decode cX8_plans 28 = .ok (.getfield 91, 3) := by decide +kernel
theorem dX8_plans_31 : decode cX8_plans 31 = .ok (.if_icmp .ge 54, 3) := by decide +kernel
theorem dX8_plans_34 : decode cX8_plans 34 = .ok (.aload_n 0, 1) := by decide +kernel
theorem dX8_plans_35 : decode cX8_plans 35 = .ok (.getfield 70, 3) := by decide +kernel
theorem dX8_plans_38 : decode cX8_plans 38 = .ok (.iload 4, 2) := by decide +kernel
theorem dX8_plans_40 : decode cX8_plans 40 = .ok (.aload_n 0, 1) := by decide +kernel
theorem dX8_plans_41 : decode cX8_plans 41 = .ok (.iload 4, 2) := by decide +kernel
theorem dX8_plans_43 : decode cX8_plans 43 = .ok (.invokevirtual 112, 3) := by decide +kernel
theorem dX8_plans_46 : decode cX8_plans 46 = .ok (.lastore, 1) := by decide +kernel
theorem dX8_plans_47 : decode cX8_plans 47 = .ok (.aload_n 0, 1) := by decide +kernel
theorem dX8_plans_48 : decode cX8_plans 48 = .ok (.iload 4, 2) := by decide +kernel
theorem dX8_plans_50 : decode cX8_plans 50 = .ok (.iload_n 1, 1) := by decide +kernel
theorem dX8_plans_51 : decode cX8_plans 51 = .ok (.invokevirtual 137, 3) := by decide +kernel
theorem dX8_plans_54 : decode cX8_plans 54 = .ok (.ifCond .ne 6, 3) := by decide +kernel
theorem dX8_plans_57 : decode cX8_plans 57 = .ok (.goto 22, 3) := by decide +kernel
theorem dX8_plans_60 : decode cX8_plans 60 = .ok (.iload_n 3, 1) := by decide +kernel
theorem dX8_plans_61 : decode cX8_plans 61 = .ok (.bipush 12, 2) := by decide +kernel
theorem dX8_plans_63 : decode cX8_plans 63 = .ok (.if_icmp .ne 5, 3) := by decide +kernel
theorem dX8_plans_66 : decode cX8_plans 66 = .ok (.iconst (-1), 1) := by decide +kernel
theorem dX8_plans_67 : decode cX8_plans 67 = .ok (.ireturn, 1) := by decide +kernel
theorem dX8_plans_68 : decode cX8_plans 68 = .ok (.aload_n 0, 1) := by decide +kernel
theorem dX8_plans_69 : decode cX8_plans 69 = .ok (.getfield 67, 3) := by decide +kernel
theorem dX8_plans_72 : decode cX8_plans 72 = .ok (.iload_n 3, 1) := by decide +kernel
theorem dX8_plans_73 : decode cX8_plans 73 = .ok (.iload 4, 2) := by decide +kernel
theorem dX8_plans_75 : decode cX8_plans 75 = .ok (.iastore, 1) := by decide +kernel
theorem dX8_plans_76 : decode cX8_plans 76 = .ok (.iinc 3 1, 3) := by decide +kernel
theorem dX8_plans_79 : decode cX8_plans 79 = .ok (.iinc 4 1, 3) := by decide +kernel
theorem dX8_plans_82 : decode cX8_plans 82 = .ok (.goto (-57), 3) := by decide +kernel
theorem dX8_plans_85 : decode cX8_plans 85 = .ok (.aload_n 0, 1) := by decide +kernel
theorem dX8_plans_86 : decode cX8_plans 86 = .ok (.iconst (-1), 1) := by decide +kernel
theorem dX8_plans_87 : decode cX8_plans 87 = .ok (.invokevirtual 123, 3) := by decide +kernel
theorem dX8_plans_90 : decode cX8_plans 90 = .ok (.lstore 4, 2) := by decide +kernel
theorem dX8_plans_92 : decode cX8_plans 92 = .ok (.iconst 0, 1) := by decide +kernel
theorem dX8_plans_93 : decode cX8_plans 93 = .ok (.istore 6, 2) := by decide +kernel
theorem dX8_plans_95 : decode cX8_plans 95 = .ok (.iload 6, 2) := by decide +kernel
theorem dX8_plans_97 : decode cX8_plans 97 = .ok (.aload_n 0, 1) := by decide +kernel
theorem dX8_plans_98 : decode cX8_plans 98 = .ok (.getfield 91, 3) := by decide +kernel
theorem dX8_plans_101 : decode cX8_plans 101 = .ok (.if_icmp .ge 31, 3) := by decide +kernel
theorem dX8_plans_104 : decode cX8_plans 104 = .ok (.aload_n 0, 1) := by decide +kernel
theorem dX8_plans_105 : decode cX8_plans 105 = .ok (.iload 6, 2) := by decide +kernel
theorem dX8_plans_107 : decode cX8_plans 107 = .ok (.iload_n 1, 1) := by decide +kernel
theorem dX8_plans_108 : decode cX8_plans 108 = .ok (.invokevirtual 137, 3) := by decide +kernel
theorem dX8_plans_111 : decode cX8_plans 111 = .ok (.ifCond .ne 15, 3) := by decide +kernel
theorem dX8_plans_114 : decode cX8_plans 114 = .ok (.lload 4, 2) := by decide +kernel
theorem dX8_plans_116 : decode cX8_plans 116 = .ok (.aload_n 0, 1) := by decide +kernel
theorem dX8_plans_117 : decode cX8_plans 117 = .ok (.getfield 70, 3) := by decide +kernel
theorem dX8_plans_120 : decode cX8_plans 120 = .ok (.iload 6, 2) := by decide +kernel
theorem dX8_plans_122 : decode cX8_plans 122 = .ok (.laload, 1) := by decide +kernel
theorem dX8_plans_123 : decode cX8_plans 123 = .ok (.lor, 1) := by decide +kernel
theorem dX8_plans_124 : decode cX8_plans 124 = .ok (.lstore 4, 2) := by decide +kernel
theorem dX8_plans_126 : decode cX8_plans 126 = .ok (.iinc 6 1, 3) := by decide +kernel
theorem dX8_plans_129 : decode cX8_plans 129 = .ok (.goto (-34), 3) := by decide +kernel
theorem dX8_plans_132 : decode cX8_plans 132 = .ok (.aload_n 0, 1) := by decide +kernel
theorem dX8_plans_133 : decode cX8_plans 133 = .ok (.iconst (-1), 1) := by decide +kernel
theorem dX8_plans_134 : decode cX8_plans 134 = .ok (.putfield 165, 3) := by decide +kernel
theorem dX8_plans_137 : decode cX8_plans 137 = .ok (.iconst 0, 1) := by decide +kernel
theorem dX8_plans_138 : decode cX8_plans 138 = .ok (.istore 6, 2) := by decide +kernel
theorem dX8_plans_140 : decode cX8_plans 140 = .ok (.iload 6, 2) := by decide +kernel
theorem dX8_plans_142 : decode cX8_plans 142 = .ok (.iconst 1, 1) := by decide +kernel
theorem dX8_plans_143 : decode cX8_plans 143 = .ok (.iload_n 3, 1) := by decide +kernel
theorem dX8_plans_144 : decode cX8_plans 144 = .ok (.ishl, 1) := by decide +kernel
theorem dX8_plans_145 : decode cX8_plans 145 = .ok (.if_icmp .ge 147, 3) := by decide +kernel
theorem dX8_plans_148 : decode cX8_plans 148 = .ok (.lconst 0, 1) := by decide +kernel
theorem dX8_plans_149 : decode cX8_plans 149 = .ok (.lstore 7, 2) := by decide +kernel
theorem dX8_plans_151 : decode cX8_plans 151 = .ok (.lload 4, 2) := by decide +kernel
theorem dX8_plans_153 : decode cX8_plans 153 = .ok (.lstore 9, 2) := by decide +kernel
theorem dX8_plans_155 : decode cX8_plans 155 = .ok (.iconst 0, 1) := by decide +kernel
theorem dX8_plans_156 : decode cX8_plans 156 = .ok (.istore 11, 2) := by decide +kernel
theorem dX8_plans_158 : decode cX8_plans 158 = .ok (.iconst 0, 1) := by decide +kernel
theorem dX8_plans_159 : decode cX8_plans 159 = .ok (.istore 12, 2) := by decide +kernel
theorem dX8_plans_161 : decode cX8_plans 161 = .ok (.iload 12, 2) := by decide +kernel
theorem dX8_plans_163 : decode cX8_plans 163 = .ok (.iload_n 3, 1) := by decide +kernel
theorem dX8_plans_164 : decode cX8_plans 164 = .ok (.if_icmp .ge 74, 3) := by decide +kernel
theorem dX8_plans_167 : decode cX8_plans 167 = .ok (.iload 6, 2) := by decide +kernel
theorem dX8_plans_169 : decode cX8_plans 169 = .ok (.iload 12, 2) := by decide +kernel
theorem dX8_plans_171 : decode cX8_plans 171 = .ok (.ishr, 1) := by decide +kernel
theorem dX8_plans_172 : decode cX8_plans 172 = .ok (.iconst 1, 1) := by decide +kernel
theorem dX8_plans_173 : decode cX8_plans 173 = .ok (.iand, 1) := by decide +kernel
theorem dX8_plans_174 : decode cX8_plans 174 = .ok (.iconst 1, 1) := by decide +kernel
theorem dX8_plans_175 : decode cX8_plans 175 = .ok (.if_icmp .ne 40, 3) := by decide +kernel
theorem dX8_plans_178 : decode cX8_plans 178 = .ok (.lload 7, 2) := by decide +kernel
theorem dX8_plans_180 : decode cX8_plans 180 = .ok (.aload_n 0, 1) := by decide +kernel
theorem dX8_plans_181 : decode cX8_plans 181 = .ok (.getfield 70, 3) := by decide +kernel
theorem dX8_plans_184 : decode cX8_plans 184 = .ok (.aload_n 0, 1) := by decide +kernel
theorem dX8_plans_185 : decode cX8_plans 185 = .ok (.getfield 67, 3) := by decide +kernel
theorem dX8_plans_188 : decode cX8_plans 188 = .ok (.iload 12, 2) := by decide +kernel
theorem dX8_plans_190 : decode cX8_plans 190 = .ok (.iaload, 1) := by decide +kernel
theorem dX8_plans_191 : decode cX8_plans 191 = .ok (.laload, 1) := by decide +kernel
theorem dX8_plans_192 : decode cX8_plans 192 = .ok (.lor, 1) := by decide +kernel
theorem dX8_plans_193 : decode cX8_plans 193 = .ok (.lstore 7, 2) := by decide +kernel
theorem dX8_plans_195 : decode cX8_plans 195 = .ok (.iload 11, 2) := by decide +kernel
theorem dX8_plans_197 : decode cX8_plans 197 = .ok (.aload_n 0, 1) := by decide +kernel
theorem dX8_plans_198 : decode cX8_plans 198 = .ok (.getfield 33, 3) := by decide +kernel
theorem dX8_plans_201 : decode cX8_plans 201 = .ok (.aload_n 0, 1) := by decide +kernel
theorem dX8_plans_202 : decode cX8_plans 202 = .ok (.getfield 67, 3) := by decide +kernel
theorem dX8_plans_205 : decode cX8_plans 205 = .ok (.iload 12, 2) := by decide +kernel
theorem dX8_plans_207 : decode cX8_plans 207 = .ok (.iaload, 1) := by decide +kernel
theorem dX8_plans_208 : decode cX8_plans 208 = .ok (.iaload, 1) := by decide +kernel
theorem dX8_plans_209 : decode cX8_plans 209 = .ok (.iadd, 1) := by decide +kernel
theorem dX8_plans_210 : decode cX8_plans 210 = .ok (.istore 11, 2) := by decide +kernel
theorem dX8_plans_212 : decode cX8_plans 212 = .ok (.goto 20, 3) := by decide +kernel
theorem dX8_plans_215 : decode cX8_plans 215 = .ok (.lload 9, 2) := by decide +kernel
theorem dX8_plans_217 : decode cX8_plans 217 = .ok (.aload_n 0, 1) := by decide +kernel
theorem dX8_plans_218 : decode cX8_plans 218 = .ok (.getfield 70, 3) := by decide +kernel
theorem dX8_plans_221 : decode cX8_plans 221 = .ok (.aload_n 0, 1) := by decide +kernel
theorem dX8_plans_222 : decode cX8_plans 222 = .ok (.getfield 67, 3) := by decide +kernel
theorem dX8_plans_225 : decode cX8_plans 225 = .ok (.iload 12, 2) := by decide +kernel
theorem dX8_plans_227 : decode cX8_plans 227 = .ok (.iaload, 1) := by decide +kernel
theorem dX8_plans_228 : decode cX8_plans 228 = .ok (.laload, 1) := by decide +kernel
theorem dX8_plans_229 : decode cX8_plans 229 = .ok (.lor, 1) := by decide +kernel
theorem dX8_plans_230 : decode cX8_plans 230 = .ok (.lstore 9, 2) := by decide +kernel
theorem dX8_plans_232 : decode cX8_plans 232 = .ok (.iinc 12 1, 3) := by decide +kernel
theorem dX8_plans_235 : decode cX8_plans 235 = .ok (.goto (-74), 3) := by decide +kernel
theorem dX8_plans_238 : decode cX8_plans 238 = .ok (.aload_n 0, 1) := by decide +kernel
theorem dX8_plans_239 : decode cX8_plans 239 = .ok (.getfield 165, 3) := by decide +kernel
theorem dX8_plans_242 : decode cX8_plans 242 = .ok (.iconst (-1), 1) := by decide +kernel
theorem dX8_plans_243 : decode cX8_plans 243 = .ok (.if_icmp .eq 12, 3) := by decide +kernel
theorem dX8_plans_246 : decode cX8_plans 246 = .ok (.iload 11, 2) := by decide +kernel
theorem dX8_plans_248 : decode cX8_plans 248 = .ok (.aload_n 0, 1) := by decide +kernel
theorem dX8_plans_249 : decode cX8_plans 249 = .ok (.getfield 165, 3) := by decide +kernel
theorem dX8_plans_252 : decode cX8_plans 252 = .ok (.if_icmp .ge 34, 3) := by decide +kernel
theorem dX8_plans_255 : decode cX8_plans 255 = .ok (.lload 7, 2) := by decide +kernel
theorem dX8_plans_257 : decode cX8_plans 257 = .ok (.lload 9, 2) := by decide +kernel
theorem dX8_plans_259 : decode cX8_plans 259 = .ok (.ldc2_w 149, 3) := by decide +kernel
theorem dX8_plans_262 : decode cX8_plans 262 = .ok (.lxor, 1) := by decide +kernel
theorem dX8_plans_263 : decode cX8_plans 263 = .ok (.land, 1) := by decide +kernel
theorem dX8_plans_264 : decode cX8_plans 264 = .ok (.invokestatic 126, 3) := by decide +kernel
theorem dX8_plans_267 : decode cX8_plans 267 = .ok (.iload_n 2, 1) := by decide +kernel
theorem dX8_plans_268 : decode cX8_plans 268 = .ok (.if_icmp .ge 6, 3) := by decide +kernel
theorem dX8_plans_271 : decode cX8_plans 271 = .ok (.goto 15, 3) := by decide +kernel
theorem dX8_plans_274 : decode cX8_plans 274 = .ok (.aload_n 0, 1) := by decide +kernel
theorem dX8_plans_275 : decode cX8_plans 275 = .ok (.iload 11, 2) := by decide +kernel
theorem dX8_plans_277 : decode cX8_plans 277 = .ok (.putfield 165, 3) := by decide +kernel
theorem dX8_plans_280 : decode cX8_plans 280 = .ok (.aload_n 0, 1) := by decide +kernel
theorem dX8_plans_281 : decode cX8_plans 281 = .ok (.iload 6, 2) := by decide +kernel
theorem dX8_plans_283 : decode cX8_plans 283 = .ok (.putfield 168, 3) := by decide +kernel
theorem dX8_plans_286 : decode cX8_plans 286 = .ok (.iinc 6 1, 3) := by decide +kernel
theorem dX8_plans_289 : decode cX8_plans 289 = .ok (.goto (-149), 3) := by decide +kernel
theorem dX8_plans_292 : decode cX8_plans 292 = .ok (.aload_n 0, 1) := by decide +kernel
theorem dX8_plans_293 : decode cX8_plans 293 = .ok (.getfield 165, 3) := by decide +kernel
theorem dX8_plans_296 : decode cX8_plans 296 = .ok (.iconst (-1), 1) := by decide +kernel
theorem dX8_plans_297 : decode cX8_plans 297 = .ok (.if_icmp .ne 7, 3) := by decide +kernel
theorem dX8_plans_300 : decode cX8_plans 300 = .ok (.iconst (-1), 1) := by decide +kernel
theorem dX8_plans_301 : decode cX8_plans 301 = .ok (.goto 4, 3) := by decide +kernel
theorem dX8_plans_304 : decode cX8_plans 304 = .ok (.iload_n 3, 1) := by decide +kernel
theorem dX8_plans_305 : decode cX8_plans 305 = .ok (.ireturn, 1) := by decide +kernel
theorem dX8_plan_0 : decode cX8_plan 0 = .ok (.aload_n 0, 1) := by decide +kernel
theorem dX8_plan_1 : decode cX8_plan 1 = .ok (.iload_n 1, 1) := by decide +kernel
theorem dX8_plan_2 : decode cX8_plan 2 = .ok (.iload_n 2, 1) := by decide +kernel
theorem dX8_plan_3 : decode cX8_plan 3 = .ok (.invokevirtual 171, 3) := by decide +kernel
theorem dX8_plan_6 : decode cX8_plan 6 = .ok (.iconst (-1), 1) := by decide +kernel
theorem dX8_plan_7 : decode cX8_plan 7 = .ok (.if_icmp .ne 7, 3) := by decide +kernel
theorem dX8_plan_10 : decode cX8_plan 10 = .ok (.iconst (-1), 1) := by decide +kernel
theorem dX8_plan_11 : decode cX8_plan 11 = .ok (.goto 7, 3) := by decide +kernel
theorem dX8_plan_14 : decode cX8_plan 14 = .ok (.aload_n 0, 1) := by decide +kernel
theorem dX8_plan_15 : decode cX8_plan 15 = .ok (.getfield 165, 3) := by decide +kernel
theorem dX8_plan_18 : decode cX8_plan 18 = .ok (.ireturn, 1) := by decide +kernel
theorem dX8_planned_0 : decode cX8_planned 0 = .ok (.aload_n 0, 1) := by decide +kernel
theorem dX8_planned_1 : decode cX8_planned 1 = .ok (.iload_n 1, 1) := by decide +kernel
theorem dX8_planned_2 : decode cX8_planned 2 = .ok (.iload_n 2, 1) := by decide +kernel
theorem dX8_planned_3 : decode cX8_planned 3 = .ok (.invokevirtual 171, 3) := by decide +kernel
theorem dX8_planned_6 : decode cX8_planned 6 = .ok (.istore 4, 2) := by decide +kernel
theorem dX8_planned_8 : decode cX8_planned 8 = .ok (.iload_n 3, 1) := by decide +kernel
theorem dX8_planned_9 : decode cX8_planned 9 = .ok (.istore 5, 2) := by decide +kernel
theorem dX8_planned_11 : decode cX8_planned 11 = .ok (.iconst 0, 1) := by decide +kernel
theorem dX8_planned_12 : decode cX8_planned 12 = .ok (.istore 6, 2) := by decide +kernel
theorem dX8_planned_14 : decode cX8_planned 14 = .ok (.iload 6, 2) := by decide +kernel
theorem dX8_planned_16 : decode cX8_planned 16 = .ok (.iload 4, 2) := by decide +kernel
theorem dX8_planned_18 : decode cX8_planned 18 = .ok (.if_icmp .ge 44, 3) := by decide +kernel
theorem dX8_planned_21 : decode cX8_planned 21 = .ok (.iload_n 3, 1) := by decide +kernel
theorem dX8_planned_22 : decode cX8_planned 22 = .ok (.ifCond .lt 40, 3) := by decide +kernel
theorem dX8_planned_25 : decode cX8_planned 25 = .ok (.aload_n 0, 1) := by decide +kernel
theorem dX8_planned_26 : decode cX8_planned 26 = .ok (.getfield 168, 3) := by decide +kernel
theorem dX8_planned_29 : decode cX8_planned 29 = .ok (.iload 6, 2) := by decide +kernel
theorem dX8_planned_31 : decode cX8_planned 31 = .ok (.ishr, 1) := by decide +kernel
theorem dX8_planned_32 : decode cX8_planned 32 = .ok (.iconst 1, 1) := by decide +kernel
theorem dX8_planned_33 : decode cX8_planned 33 = .ok (.iand, 1) := by decide +kernel
theorem dX8_planned_34 : decode cX8_planned 34 = .ok (.ifCond .ne 6, 3) := by decide +kernel
theorem dX8_planned_37 : decode cX8_planned 37 = .ok (.goto 19, 3) := by decide +kernel
theorem dX8_planned_40 : decode cX8_planned 40 = .ok (.iload 5, 2) := by decide +kernel
theorem dX8_planned_42 : decode cX8_planned 42 = .ok (.ifCond .ne 11, 3) := by decide +kernel
theorem dX8_planned_45 : decode cX8_planned 45 = .ok (.aload_n 0, 1) := by decide +kernel
theorem dX8_planned_46 : decode cX8_planned 46 = .ok (.getfield 67, 3) := by decide +kernel
theorem dX8_planned_49 : decode cX8_planned 49 = .ok (.iload 6, 2) := by decide +kernel
theorem dX8_planned_51 : decode cX8_planned 51 = .ok (.iaload, 1) := by decide +kernel
theorem dX8_planned_52 : decode cX8_planned 52 = .ok (.ireturn, 1) := by decide +kernel
theorem dX8_planned_53 : decode cX8_planned 53 = .ok (.iinc 5 (-1), 3) := by decide +kernel
theorem dX8_planned_56 : decode cX8_planned 56 = .ok (.iinc 6 1, 3) := by decide +kernel
theorem dX8_planned_59 : decode cX8_planned 59 = .ok (.goto (-45), 3) := by decide +kernel
theorem dX8_planned_62 : decode cX8_planned 62 = .ok (.iconst (-1), 1) := by decide +kernel
theorem dX8_planned_63 : decode cX8_planned 63 = .ok (.ireturn, 1) := by decide +kernel
theorem dX8_largest_0 : decode cX8_largest 0 = .ok (.aload_n 0, 1) := by decide +kernel
theorem dX8_largest_1 : decode cX8_largest 1 = .ok (.iload_n 1, 1) := by decide +kernel
theorem dX8_largest_2 : decode cX8_largest 2 = .ok (.invokevirtual 80, 3) := by decide +kernel
theorem dX8_largest_5 : decode cX8_largest 5 = .ok (.ifCond .eq 7, 3) := by decide +kernel
theorem dX8_largest_8 : decode cX8_largest 8 = .ok (.iload_n 2, 1) := by decide +kernel
theorem dX8_largest_9 : decode cX8_largest 9 = .ok (.ifCond .ge 5, 3) := by decide +kernel
theorem dX8_largest_12 : decode cX8_largest 12 = .ok (.iconst (-1), 1) := by decide +kernel
theorem dX8_largest_13 : decode cX8_largest 13 = .ok (.ireturn, 1) := by decide +kernel
theorem dX8_largest_14 : decode cX8_largest 14 = .ok (.iload_n 2, 1) := by decide +kernel
theorem dX8_largest_15 : decode cX8_largest 15 = .ok (.istore_n 3, 1) := by decide +kernel
theorem dX8_largest_16 : decode cX8_largest 16 = .ok (.bipush 60, 2) := by decide +kernel
theorem dX8_largest_18 : decode cX8_largest 18 = .ok (.istore 4, 2) := by decide +kernel
theorem dX8_largest_20 : decode cX8_largest 20 = .ok (.iload 4, 2) := by decide +kernel
theorem dX8_largest_22 : decode cX8_largest 22 = .ok (.ifCond .lt 64, 3) := by decide +kernel
theorem dX8_largest_25 : decode cX8_largest 25 = .ok (.iconst 0, 1) := by decide +kernel
theorem dX8_largest_26 : decode cX8_largest 26 = .ok (.istore 5, 2) := by decide +kernel
theorem dX8_largest_28 : decode cX8_largest 28 = .ok (.iload 5, 2) := by decide +kernel
theorem dX8_largest_30 : decode cX8_largest 30 = .ok (.aload_n 0, 1) := by decide +kernel
theorem dX8_largest_31 : decode cX8_largest 31 = .ok (.getfield 91, 3) := by decide +kernel
theorem dX8_largest_34 : decode cX8_largest 34 = .ok (.if_icmp .ge 46, 3) := by decide +kernel
theorem dX8_largest_37 : decode cX8_largest 37 = .ok (.aload_n 0, 1) := by decide +kernel
theorem dX8_largest_38 : decode cX8_largest 38 = .ok (.iload 5, 2) := by decide +kernel
theorem dX8_largest_40 : decode cX8_largest 40 = .ok (.iload_n 1, 1) := by decide +kernel
theorem dX8_largest_41 : decode cX8_largest 41 = .ok (.invokevirtual 137, 3) := by decide +kernel
theorem dX8_largest_44 : decode cX8_largest 44 = .ok (.ifCond .eq 30, 3) := by decide +kernel
theorem dX8_largest_47 : decode cX8_largest 47 = .ok (.aload_n 0, 1) := by decide +kernel
theorem dX8_largest_48 : decode cX8_largest 48 = .ok (.iload 5, 2) := by decide +kernel
theorem dX8_largest_50 : decode cX8_largest 50 = .ok (.invokevirtual 112, 3) := by decide +kernel
theorem dX8_largest_53 : decode cX8_largest 53 = .ok (.invokestatic 126, 3) := by decide +kernel
theorem dX8_largest_56 : decode cX8_largest 56 = .ok (.iload 4, 2) := by decide +kernel
theorem dX8_largest_58 : decode cX8_largest 58 = .ok (.if_icmp .eq 6, 3) := by decide +kernel
theorem dX8_largest_61 : decode cX8_largest 61 = .ok (.goto 13, 3) := by decide +kernel
theorem dX8_largest_64 : decode cX8_largest 64 = .ok (.iload_n 3, 1) := by decide +kernel
theorem dX8_largest_65 : decode cX8_largest 65 = .ok (.ifCond .ne 6, 3) := by decide +kernel
theorem dX8_largest_68 : decode cX8_largest 68 = .ok (.iload 5, 2) := by decide +kernel
theorem dX8_largest_70 : decode cX8_largest 70 = .ok (.ireturn, 1) := by decide +kernel
theorem dX8_largest_71 : decode cX8_largest 71 = .ok (.iinc 3 (-1), 3) := by decide +kernel
theorem dX8_largest_74 : decode cX8_largest 74 = .ok (.iinc 5 1, 3) := by decide +kernel
theorem dX8_largest_77 : decode cX8_largest 77 = .ok (.goto (-49), 3) := by decide +kernel
theorem dX8_largest_80 : decode cX8_largest 80 = .ok (.iinc 4 (-1), 3) := by decide +kernel
theorem dX8_largest_83 : decode cX8_largest 83 = .ok (.goto (-63), 3) := by decide +kernel
theorem dX8_largest_86 : decode cX8_largest 86 = .ok (.iconst (-1), 1) := by decide +kernel
theorem dX8_largest_87 : decode cX8_largest 87 = .ok (.ireturn, 1) := by decide +kernel
theorem dX8_holds_0 : decode cX8_holds 0 = .ok (.iload_n 1, 1) := by decide +kernel
theorem dX8_holds_1 : decode cX8_holds 1 = .ok (.iconst 1, 1) := by decide +kernel
theorem dX8_holds_2 : decode cX8_holds 2 = .ok (.bipush 60, 2) := by decide +kernel
theorem dX8_holds_4 : decode cX8_holds 4 = .ok (.invokestatic 73, 3) := by decide +kernel
theorem dX8_holds_7 : decode cX8_holds 7 = .ok (.ifCond .eq 20, 3) := by decide +kernel
theorem dX8_holds_10 : decode cX8_holds 10 = .ok (.aload_n 0, 1) := by decide +kernel
theorem dX8_holds_11 : decode cX8_holds 11 = .ok (.invokevirtual 119, 3) := by decide +kernel
theorem dX8_holds_14 : decode cX8_holds 14 = .ok (.aload_n 0, 1) := by decide +kernel
theorem dX8_holds_15 : decode cX8_holds 15 = .ok (.iconst (-1), 1) := by decide +kernel
theorem dX8_holds_16 : decode cX8_holds 16 = .ok (.invokevirtual 123, 3) := by decide +kernel
theorem dX8_holds_19 : decode cX8_holds 19 = .ok (.lor, 1) := by decide +kernel
theorem dX8_holds_20 : decode cX8_holds 20 = .ok (.invokestatic 126, 3) := by decide +kernel
theorem dX8_holds_23 : decode cX8_holds 23 = .ok (.iload_n 1, 1) := by decide +kernel
theorem dX8_holds_24 : decode cX8_holds 24 = .ok (.if_icmp .le 5, 3) := by decide +kernel
theorem dX8_holds_27 : decode cX8_holds 27 = .ok (.iconst 0, 1) := by decide +kernel
theorem dX8_holds_28 : decode cX8_holds 28 = .ok (.ireturn, 1) := by decide +kernel
theorem dX8_holds_29 : decode cX8_holds 29 = .ok (.aload_n 0, 1) := by decide +kernel
theorem dX8_holds_30 : decode cX8_holds 30 = .ok (.iload_n 1, 1) := by decide +kernel
theorem dX8_holds_31 : decode cX8_holds 31 = .ok (.putfield 61, 3) := by decide +kernel
theorem dX8_holds_34 : decode cX8_holds 34 = .ok (.iconst 1, 1) := by decide +kernel
theorem dX8_holds_35 : decode cX8_holds 35 = .ok (.ireturn, 1) := by decide +kernel
theorem dX8_down_0 : decode cX8_down 0 = .ok (.iload_n 0, 1) := by decide +kernel
theorem dX8_down_1 : decode cX8_down 1 = .ok (.ifCond .lt 9, 3) := by decide +kernel
theorem dX8_down_4 : decode cX8_down 4 = .ok (.iload_n 0, 1) := by decide +kernel
theorem dX8_down_5 : decode cX8_down 5 = .ok (.iload_n 1, 1) := by decide +kernel
theorem dX8_down_6 : decode cX8_down 6 = .ok (.idiv, 1) := by decide +kernel
theorem dX8_down_7 : decode cX8_down 7 = .ok (.goto 12, 3) := by decide +kernel
theorem dX8_down_10 : decode cX8_down 10 = .ok (.iload_n 0, 1) := by decide +kernel
theorem dX8_down_11 : decode cX8_down 11 = .ok (.ineg, 1) := by decide +kernel
theorem dX8_down_12 : decode cX8_down 12 = .ok (.iload_n 1, 1) := by decide +kernel
theorem dX8_down_13 : decode cX8_down 13 = .ok (.iadd, 1) := by decide +kernel
theorem dX8_down_14 : decode cX8_down 14 = .ok (.iconst 1, 1) := by decide +kernel
theorem dX8_down_15 : decode cX8_down 15 = .ok (.isub, 1) := by decide +kernel
theorem dX8_down_16 : decode cX8_down 16 = .ok (.iload_n 1, 1) := by decide +kernel
theorem dX8_down_17 : decode cX8_down 17 = .ok (.idiv, 1) := by decide +kernel
theorem dX8_down_18 : decode cX8_down 18 = .ok (.ineg, 1) := by decide +kernel
theorem dX8_down_19 : decode cX8_down 19 = .ok (.ireturn, 1) := by decide +kernel
theorem dX8_full_0 : decode cX8_full 0 = .ok (.iload_n 1, 1) := by decide +kernel
theorem dX8_full_1 : decode cX8_full 1 = .ok (.iconst 0, 1) := by decide +kernel
theorem dX8_full_2 : decode cX8_full 2 = .ok (.iconst 1, 1) := by decide +kernel
theorem dX8_full_3 : decode cX8_full 3 = .ok (.invokestatic 73, 3) := by decide +kernel
theorem dX8_full_6 : decode cX8_full 6 = .ok (.ifCond .ne 5, 3) := by decide +kernel
theorem dX8_full_9 : decode cX8_full 9 = .ok (.iconst (-1), 1) := by decide +kernel
theorem dX8_full_10 : decode cX8_full 10 = .ok (.ireturn, 1) := by decide +kernel
theorem dX8_full_11 : decode cX8_full 11 = .ok (.iconst 0, 1) := by decide +kernel
theorem dX8_full_12 : decode cX8_full 12 = .ok (.istore_n 2, 1) := by decide +kernel
theorem dX8_full_13 : decode cX8_full 13 = .ok (.iconst 0, 1) := by decide +kernel
theorem dX8_full_14 : decode cX8_full 14 = .ok (.istore_n 3, 1) := by decide +kernel
theorem dX8_full_15 : decode cX8_full 15 = .ok (.iconst 0, 1) := by decide +kernel
theorem dX8_full_16 : decode cX8_full 16 = .ok (.istore 4, 2) := by decide +kernel
theorem dX8_full_18 : decode cX8_full 18 = .ok (.iload 4, 2) := by decide +kernel
theorem dX8_full_20 : decode cX8_full 20 = .ok (.iconst 1, 1) := by decide +kernel
theorem dX8_full_21 : decode cX8_full 21 = .ok (.iadd, 1) := by decide +kernel
theorem dX8_full_22 : decode cX8_full 22 = .ok (.aload_n 0, 1) := by decide +kernel
theorem dX8_full_23 : decode cX8_full 23 = .ok (.getfield 154, 3) := by decide +kernel
theorem dX8_full_26 : decode cX8_full 26 = .ok (.if_icmp .ge 114, 3) := by decide +kernel
theorem dX8_full_29 : decode cX8_full 29 = .ok (.aload_n 0, 1) := by decide +kernel
theorem dX8_full_30 : decode cX8_full 30 = .ok (.getfield 55, 3) := by decide +kernel
theorem dX8_full_33 : decode cX8_full 33 = .ok (.iload 4, 2) := by decide +kernel
theorem dX8_full_35 : decode cX8_full 35 = .ok (.iconst 1, 1) := by decide +kernel
theorem dX8_full_36 : decode cX8_full 36 = .ok (.iadd, 1) := by decide +kernel
theorem dX8_full_37 : decode cX8_full 37 = .ok (.iaload, 1) := by decide +kernel
theorem dX8_full_38 : decode cX8_full 38 = .ok (.aload_n 0, 1) := by decide +kernel
theorem dX8_full_39 : decode cX8_full 39 = .ok (.getfield 55, 3) := by decide +kernel
theorem dX8_full_42 : decode cX8_full 42 = .ok (.iload 4, 2) := by decide +kernel
theorem dX8_full_44 : decode cX8_full 44 = .ok (.iaload, 1) := by decide +kernel
theorem dX8_full_45 : decode cX8_full 45 = .ok (.isub, 1) := by decide +kernel
theorem dX8_full_46 : decode cX8_full 46 = .ok (.istore 5, 2) := by decide +kernel
theorem dX8_full_48 : decode cX8_full 48 = .ok (.iload 5, 2) := by decide +kernel
theorem dX8_full_50 : decode cX8_full 50 = .ok (.ifCond .ne 6, 3) := by decide +kernel
theorem dX8_full_53 : decode cX8_full 53 = .ok (.goto 81, 3) := by decide +kernel
theorem dX8_full_56 : decode cX8_full 56 = .ok (.aload_n 0, 1) := by decide +kernel
theorem dX8_full_57 : decode cX8_full 57 = .ok (.getfield 58, 3) := by decide +kernel
theorem dX8_full_60 : decode cX8_full 60 = .ok (.bipush 30, 2) := by decide +kernel
theorem dX8_full_62 : decode cX8_full 62 = .ok (.iload 4, 2) := by decide +kernel
theorem dX8_full_64 : decode cX8_full 64 = .ok (.iconst 1, 1) := by decide +kernel
theorem dX8_full_65 : decode cX8_full 65 = .ok (.iadd, 1) := by decide +kernel
theorem dX8_full_66 : decode cX8_full 66 = .ok (.imul, 1) := by decide +kernel
theorem dX8_full_67 : decode cX8_full 67 = .ok (.iaload, 1) := by decide +kernel
theorem dX8_full_68 : decode cX8_full 68 = .ok (.aload_n 0, 1) := by decide +kernel
theorem dX8_full_69 : decode cX8_full 69 = .ok (.getfield 58, 3) := by decide +kernel
theorem dX8_full_72 : decode cX8_full 72 = .ok (.bipush 30, 2) := by decide +kernel
theorem dX8_full_74 : decode cX8_full 74 = .ok (.iload 4, 2) := by decide +kernel
theorem dX8_full_76 : decode cX8_full 76 = .ok (.imul, 1) := by decide +kernel
theorem dX8_full_77 : decode cX8_full 77 = .ok (.iaload, 1) := by decide +kernel
theorem dX8_full_78 : decode cX8_full 78 = .ok (.isub, 1) := by decide +kernel
theorem dX8_full_79 : decode cX8_full 79 = .ok (.istore 6, 2) := by decide +kernel
theorem dX8_full_81 : decode cX8_full 81 = .ok (.iload_n 1, 1) := by decide +kernel
theorem dX8_full_82 : decode cX8_full 82 = .ok (.ifCond .ne 15, 3) := by decide +kernel
theorem dX8_full_85 : decode cX8_full 85 = .ok (.iload 6, 2) := by decide +kernel
theorem dX8_full_87 : decode cX8_full 87 = .ok (.ineg, 1) := by decide +kernel
theorem dX8_full_88 : decode cX8_full 88 = .ok (.iload 5, 2) := by decide +kernel
theorem dX8_full_90 : decode cX8_full 90 = .ok (.invokestatic 174, 3) := by decide +kernel
theorem dX8_full_93 : decode cX8_full 93 = .ok (.ineg, 1) := by decide +kernel
theorem dX8_full_94 : decode cX8_full 94 = .ok (.goto 10, 3) := by decide +kernel
theorem dX8_full_97 : decode cX8_full 97 = .ok (.iload 6, 2) := by decide +kernel
theorem dX8_full_99 : decode cX8_full 99 = .ok (.iload 5, 2) := by decide +kernel
theorem dX8_full_101 : decode cX8_full 101 = .ok (.invokestatic 174, 3) := by decide +kernel
theorem dX8_full_104 : decode cX8_full 104 = .ok (.istore 7, 2) := by decide +kernel
theorem dX8_full_106 : decode cX8_full 106 = .ok (.iload_n 2, 1) := by decide +kernel
theorem dX8_full_107 : decode cX8_full 107 = .ok (.ifCond .eq 22, 3) := by decide +kernel
theorem dX8_full_110 : decode cX8_full 110 = .ok (.iload_n 1, 1) := by decide +kernel
theorem dX8_full_111 : decode cX8_full 111 = .ok (.ifCond .ne 12, 3) := by decide +kernel
theorem dX8_full_114 : decode cX8_full 114 = .ok (.iload 7, 2) := by decide +kernel
theorem dX8_full_116 : decode cX8_full 116 = .ok (.iload_n 3, 1) := by decide +kernel
theorem dX8_full_117 : decode cX8_full 117 = .ok (.if_icmp .le 15, 3) := by decide +kernel
theorem dX8_full_120 : decode cX8_full 120 = .ok (.goto 9, 3) := by decide +kernel
theorem dX8_full_123 : decode cX8_full 123 = .ok (.iload 7, 2) := by decide +kernel
theorem dX8_full_125 : decode cX8_full 125 = .ok (.iload_n 3, 1) := by decide +kernel
theorem dX8_full_126 : decode cX8_full 126 = .ok (.if_icmp .ge 6, 3) := by decide +kernel
theorem dX8_full_129 : decode cX8_full 129 = .ok (.iload 7, 2) := by decide +kernel
theorem dX8_full_131 : decode cX8_full 131 = .ok (.istore_n 3, 1) := by decide +kernel
theorem dX8_full_132 : decode cX8_full 132 = .ok (.iconst 1, 1) := by decide +kernel
theorem dX8_full_133 : decode cX8_full 133 = .ok (.istore_n 2, 1) := by decide +kernel
theorem dX8_full_134 : decode cX8_full 134 = .ok (.iinc 4 1, 3) := by decide +kernel
theorem dX8_full_137 : decode cX8_full 137 = .ok (.goto (-119), 3) := by decide +kernel
theorem dX8_full_140 : decode cX8_full 140 = .ok (.iload_n 2, 1) := by decide +kernel
theorem dX8_full_141 : decode cX8_full 141 = .ok (.ifCond .eq 7, 3) := by decide +kernel
theorem dX8_full_144 : decode cX8_full 144 = .ok (.iload_n 3, 1) := by decide +kernel
theorem dX8_full_145 : decode cX8_full 145 = .ok (.ifCond .gt 5, 3) := by decide +kernel
theorem dX8_full_148 : decode cX8_full 148 = .ok (.iconst (-1), 1) := by decide +kernel
theorem dX8_full_149 : decode cX8_full 149 = .ok (.ireturn, 1) := by decide +kernel
theorem dX8_full_150 : decode cX8_full 150 = .ok (.aload_n 0, 1) := by decide +kernel
theorem dX8_full_151 : decode cX8_full 151 = .ok (.getfield 77, 3) := by decide +kernel
theorem dX8_full_154 : decode cX8_full 154 = .ok (.aload_n 0, 1) := by decide +kernel
theorem dX8_full_155 : decode cX8_full 155 = .ok (.getfield 61, 3) := by decide +kernel
theorem dX8_full_158 : decode cX8_full 158 = .ok (.aload_n 0, 1) := by decide +kernel
theorem dX8_full_159 : decode cX8_full 159 = .ok (.iconst 0, 1) := by decide +kernel
theorem dX8_full_160 : decode cX8_full 160 = .ok (.invokevirtual 143, 3) := by decide +kernel
theorem dX8_full_163 : decode cX8_full 163 = .ok (.isub, 1) := by decide +kernel
theorem dX8_full_164 : decode cX8_full 164 = .ok (.iload_n 3, 1) := by decide +kernel
theorem dX8_full_165 : decode cX8_full 165 = .ok (.iadd, 1) := by decide +kernel
theorem dX8_full_166 : decode cX8_full 166 = .ok (.iconst 1, 1) := by decide +kernel
theorem dX8_full_167 : decode cX8_full 167 = .ok (.isub, 1) := by decide +kernel
theorem dX8_full_168 : decode cX8_full 168 = .ok (.iload_n 3, 1) := by decide +kernel
theorem dX8_full_169 : decode cX8_full 169 = .ok (.idiv, 1) := by decide +kernel
theorem dX8_full_170 : decode cX8_full 170 = .ok (.iadd, 1) := by decide +kernel
theorem dX8_full_171 : decode cX8_full 171 = .ok (.ireturn, 1) := by decide +kernel
theorem dX8_told_0 : decode cX8_told 0 = .ok (.aload_n 0, 1) := by decide +kernel
theorem dX8_told_1 : decode cX8_told 1 = .ok (.iload_n 1, 1) := by decide +kernel
theorem dX8_told_2 : decode cX8_told 2 = .ok (.invokevirtual 109, 3) := by decide +kernel
theorem dX8_told_5 : decode cX8_told 5 = .ok (.ifCond .ne 5, 3) := by decide +kernel
theorem dX8_told_8 : decode cX8_told 8 = .ok (.iconst (-1), 1) := by decide +kernel
theorem dX8_told_9 : decode cX8_told 9 = .ok (.ireturn, 1) := by decide +kernel
theorem dX8_told_10 : decode cX8_told 10 = .ok (.iconst 0, 1) := by decide +kernel
theorem dX8_told_11 : decode cX8_told 11 = .ok (.istore_n 3, 1) := by decide +kernel
theorem dX8_told_12 : decode cX8_told 12 = .ok (.iload_n 2, 1) := by decide +kernel
theorem dX8_told_13 : decode cX8_told 13 = .ok (.tableswitch 132 0 6 #[43, 50, 57, 64, 71, 77, 86], 43) := by decide +kernel
theorem dX8_told_56 : decode cX8_told 56 = .ok (.aload_n 0, 1) := by decide +kernel
theorem dX8_told_57 : decode cX8_told 57 = .ok (.getfield 24, 3) := by decide +kernel
theorem dX8_told_60 : decode cX8_told 60 = .ok (.iload_n 1, 1) := by decide +kernel
theorem dX8_told_61 : decode cX8_told 61 = .ok (.iaload, 1) := by decide +kernel
theorem dX8_told_62 : decode cX8_told 62 = .ok (.ireturn, 1) := by decide +kernel
theorem dX8_told_63 : decode cX8_told 63 = .ok (.aload_n 0, 1) := by decide +kernel
theorem dX8_told_64 : decode cX8_told 64 = .ok (.getfield 30, 3) := by decide +kernel
theorem dX8_told_67 : decode cX8_told 67 = .ok (.iload_n 1, 1) := by decide +kernel
theorem dX8_told_68 : decode cX8_told 68 = .ok (.iaload, 1) := by decide +kernel
theorem dX8_told_69 : decode cX8_told 69 = .ok (.ireturn, 1) := by decide +kernel
theorem dX8_told_70 : decode cX8_told 70 = .ok (.aload_n 0, 1) := by decide +kernel
theorem dX8_told_71 : decode cX8_told 71 = .ok (.getfield 33, 3) := by decide +kernel
theorem dX8_told_74 : decode cX8_told 74 = .ok (.iload_n 1, 1) := by decide +kernel
theorem dX8_told_75 : decode cX8_told 75 = .ok (.iaload, 1) := by decide +kernel
theorem dX8_told_76 : decode cX8_told 76 = .ok (.ireturn, 1) := by decide +kernel
theorem dX8_told_77 : decode cX8_told 77 = .ok (.aload_n 0, 1) := by decide +kernel
theorem dX8_told_78 : decode cX8_told 78 = .ok (.getfield 36, 3) := by decide +kernel
theorem dX8_told_81 : decode cX8_told 81 = .ok (.iload_n 1, 1) := by decide +kernel
theorem dX8_told_82 : decode cX8_told 82 = .ok (.iaload, 1) := by decide +kernel
theorem dX8_told_83 : decode cX8_told 83 = .ok (.ireturn, 1) := by decide +kernel
theorem dX8_told_84 : decode cX8_told 84 = .ok (.aload_n 0, 1) := by decide +kernel
theorem dX8_told_85 : decode cX8_told 85 = .ok (.iload_n 1, 1) := by decide +kernel
theorem dX8_told_86 : decode cX8_told 86 = .ok (.invokevirtual 94, 3) := by decide +kernel
theorem dX8_told_89 : decode cX8_told 89 = .ok (.ireturn, 1) := by decide +kernel
theorem dX8_told_90 : decode cX8_told 90 = .ok (.aload_n 0, 1) := by decide +kernel
theorem dX8_told_91 : decode cX8_told 91 = .ok (.iload_n 1, 1) := by decide +kernel
theorem dX8_told_92 : decode cX8_told 92 = .ok (.invokevirtual 112, 3) := by decide +kernel
theorem dX8_told_95 : decode cX8_told 95 = .ok (.invokestatic 126, 3) := by decide +kernel
theorem dX8_told_98 : decode cX8_told 98 = .ok (.ireturn, 1) := by decide +kernel
theorem dX8_told_99 : decode cX8_told 99 = .ok (.iconst 0, 1) := by decide +kernel
theorem dX8_told_100 : decode cX8_told 100 = .ok (.istore 4, 2) := by decide +kernel
theorem dX8_told_102 : decode cX8_told 102 = .ok (.iload 4, 2) := by decide +kernel
theorem dX8_told_104 : decode cX8_told 104 = .ok (.aload_n 0, 1) := by decide +kernel
theorem dX8_told_105 : decode cX8_told 105 = .ok (.getfield 24, 3) := by decide +kernel
theorem dX8_told_108 : decode cX8_told 108 = .ok (.iload_n 1, 1) := by decide +kernel
theorem dX8_told_109 : decode cX8_told 109 = .ok (.iaload, 1) := by decide +kernel
theorem dX8_told_110 : decode cX8_told 110 = .ok (.if_icmp .ge 33, 3) := by decide +kernel
theorem dX8_told_113 : decode cX8_told 113 = .ok (.iload_n 3, 1) := by decide +kernel
theorem dX8_told_114 : decode cX8_told 114 = .ok (.aload_n 0, 1) := by decide +kernel
theorem dX8_told_115 : decode cX8_told 115 = .ok (.getfield 27, 3) := by decide +kernel
theorem dX8_told_118 : decode cX8_told 118 = .ok (.bipush 60, 2) := by decide +kernel
theorem dX8_told_120 : decode cX8_told 120 = .ok (.iload_n 1, 1) := by decide +kernel
theorem dX8_told_121 : decode cX8_told 121 = .ok (.imul, 1) := by decide +kernel
theorem dX8_told_122 : decode cX8_told 122 = .ok (.iload 4, 2) := by decide +kernel
theorem dX8_told_124 : decode cX8_told 124 = .ok (.iadd, 1) := by decide +kernel
theorem dX8_told_125 : decode cX8_told 125 = .ok (.iaload, 1) := by decide +kernel
theorem dX8_told_126 : decode cX8_told 126 = .ok (.iconst (-1), 1) := by decide +kernel
theorem dX8_told_127 : decode cX8_told 127 = .ok (.if_icmp .ne 7, 3) := by decide +kernel
theorem dX8_told_130 : decode cX8_told 130 = .ok (.iconst 1, 1) := by decide +kernel
theorem dX8_told_131 : decode cX8_told 131 = .ok (.goto 4, 3) := by decide +kernel
theorem dX8_told_134 : decode cX8_told 134 = .ok (.iconst 0, 1) := by decide +kernel
theorem dX8_told_135 : decode cX8_told 135 = .ok (.iadd, 1) := by decide +kernel
theorem dX8_told_136 : decode cX8_told 136 = .ok (.istore_n 3, 1) := by decide +kernel
theorem dX8_told_137 : decode cX8_told 137 = .ok (.iinc 4 1, 3) := by decide +kernel
theorem dX8_told_140 : decode cX8_told 140 = .ok (.goto (-38), 3) := by decide +kernel
theorem dX8_told_143 : decode cX8_told 143 = .ok (.iload_n 3, 1) := by decide +kernel
theorem dX8_told_144 : decode cX8_told 144 = .ok (.ireturn, 1) := by decide +kernel
theorem dX8_told_145 : decode cX8_told 145 = .ok (.iconst (-1), 1) := by decide +kernel
theorem dX8_told_146 : decode cX8_told 146 = .ok (.ireturn, 1) := by decide +kernel
theorem dX8_count_0 : decode cX8_count 0 = .ok (.iconst 0, 1) := by decide +kernel
theorem dX8_count_1 : decode cX8_count 1 = .ok (.istore_n 2, 1) := by decide +kernel
theorem dX8_count_2 : decode cX8_count 2 = .ok (.iload_n 1, 1) := by decide +kernel
theorem dX8_count_3 : decode cX8_count 3 = .ok (.tableswitch 181 0 7 #[45, 50, 55, 89, 124, 157, 162, 176], 45) := by decide +kernel
theorem dX8_count_48 : decode cX8_count 48 = .ok (.aload_n 0, 1) := by decide +kernel
theorem dX8_count_49 : decode cX8_count 49 = .ok (.getfield 77, 3) := by decide +kernel
theorem dX8_count_52 : decode cX8_count 52 = .ok (.ireturn, 1) := by decide +kernel
theorem dX8_count_53 : decode cX8_count 53 = .ok (.aload_n 0, 1) := by decide +kernel
theorem dX8_count_54 : decode cX8_count 54 = .ok (.getfield 7, 3) := by decide +kernel
theorem dX8_count_57 : decode cX8_count 57 = .ok (.ireturn, 1) := by decide +kernel
theorem dX8_count_58 : decode cX8_count 58 = .ok (.iconst 0, 1) := by decide +kernel
theorem dX8_count_59 : decode cX8_count 59 = .ok (.istore_n 3, 1) := by decide +kernel
theorem dX8_count_60 : decode cX8_count 60 = .ok (.iload_n 3, 1) := by decide +kernel
theorem dX8_count_61 : decode cX8_count 61 = .ok (.aload_n 0, 1) := by decide +kernel
theorem dX8_count_62 : decode cX8_count 62 = .ok (.getfield 91, 3) := by decide +kernel
theorem dX8_count_65 : decode cX8_count 65 = .ok (.if_icmp .ge 25, 3) := by decide +kernel
theorem dX8_count_68 : decode cX8_count 68 = .ok (.iload_n 2, 1) := by decide +kernel
theorem dX8_count_69 : decode cX8_count 69 = .ok (.aload_n 0, 1) := by decide +kernel
theorem dX8_count_70 : decode cX8_count 70 = .ok (.iload_n 3, 1) := by decide +kernel
theorem dX8_count_71 : decode cX8_count 71 = .ok (.invokevirtual 94, 3) := by decide +kernel
theorem dX8_count_74 : decode cX8_count 74 = .ok (.ifCond .le 7, 3) := by decide +kernel
theorem dX8_count_77 : decode cX8_count 77 = .ok (.iconst 1, 1) := by decide +kernel
theorem dX8_count_78 : decode cX8_count 78 = .ok (.goto 4, 3) := by decide +kernel
theorem dX8_count_81 : decode cX8_count 81 = .ok (.iconst 0, 1) := by decide +kernel
theorem dX8_count_82 : decode cX8_count 82 = .ok (.iadd, 1) := by decide +kernel
theorem dX8_count_83 : decode cX8_count 83 = .ok (.istore_n 2, 1) := by decide +kernel
theorem dX8_count_84 : decode cX8_count 84 = .ok (.iinc 3 1, 3) := by decide +kernel
theorem dX8_count_87 : decode cX8_count 87 = .ok (.goto (-27), 3) := by decide +kernel
theorem dX8_count_90 : decode cX8_count 90 = .ok (.iload_n 2, 1) := by decide +kernel
theorem dX8_count_91 : decode cX8_count 91 = .ok (.ireturn, 1) := by decide +kernel
theorem dX8_count_92 : decode cX8_count 92 = .ok (.iconst 0, 1) := by decide +kernel
theorem dX8_count_93 : decode cX8_count 93 = .ok (.istore_n 3, 1) := by decide +kernel
theorem dX8_count_94 : decode cX8_count 94 = .ok (.iload_n 3, 1) := by decide +kernel
theorem dX8_count_95 : decode cX8_count 95 = .ok (.aload_n 0, 1) := by decide +kernel
theorem dX8_count_96 : decode cX8_count 96 = .ok (.getfield 88, 3) := by decide +kernel
theorem dX8_count_99 : decode cX8_count 99 = .ok (.if_icmp .ge 26, 3) := by decide +kernel
theorem dX8_count_102 : decode cX8_count 102 = .ok (.iload_n 2, 1) := by decide +kernel
theorem dX8_count_103 : decode cX8_count 103 = .ok (.aload_n 0, 1) := by decide +kernel
theorem dX8_count_104 : decode cX8_count 104 = .ok (.getfield 45, 3) := by decide +kernel
theorem dX8_count_107 : decode cX8_count 107 = .ok (.iload_n 3, 1) := by decide +kernel
theorem dX8_count_108 : decode cX8_count 108 = .ok (.baload, 1) := by decide +kernel
theorem dX8_count_109 : decode cX8_count 109 = .ok (.ifCond .eq 7, 3) := by decide +kernel
theorem dX8_count_112 : decode cX8_count 112 = .ok (.iconst 1, 1) := by decide +kernel
theorem dX8_count_113 : decode cX8_count 113 = .ok (.goto 4, 3) := by decide +kernel
theorem dX8_count_116 : decode cX8_count 116 = .ok (.iconst 0, 1) := by decide +kernel
theorem dX8_count_117 : decode cX8_count 117 = .ok (.iadd, 1) := by decide +kernel
theorem dX8_count_118 : decode cX8_count 118 = .ok (.istore_n 2, 1) := by decide +kernel
theorem dX8_count_119 : decode cX8_count 119 = .ok (.iinc 3 1, 3) := by decide +kernel
theorem dX8_count_122 : decode cX8_count 122 = .ok (.goto (-28), 3) := by decide +kernel
theorem dX8_count_125 : decode cX8_count 125 = .ok (.iload_n 2, 1) := by decide +kernel
theorem dX8_count_126 : decode cX8_count 126 = .ok (.ireturn, 1) := by decide +kernel
theorem dX8_count_127 : decode cX8_count 127 = .ok (.iconst 0, 1) := by decide +kernel
theorem dX8_count_128 : decode cX8_count 128 = .ok (.istore_n 3, 1) := by decide +kernel
theorem dX8_count_129 : decode cX8_count 129 = .ok (.iload_n 3, 1) := by decide +kernel
theorem dX8_count_130 : decode cX8_count 130 = .ok (.bipush 8, 2) := by decide +kernel
theorem dX8_count_132 : decode cX8_count 132 = .ok (.if_icmp .ge 26, 3) := by decide +kernel
theorem dX8_count_135 : decode cX8_count 135 = .ok (.iload_n 2, 1) := by decide +kernel
theorem dX8_count_136 : decode cX8_count 136 = .ok (.aload_n 0, 1) := by decide +kernel
theorem dX8_count_137 : decode cX8_count 137 = .ok (.getfield 48, 3) := by decide +kernel
theorem dX8_count_140 : decode cX8_count 140 = .ok (.iload_n 3, 1) := by decide +kernel
theorem dX8_count_141 : decode cX8_count 141 = .ok (.baload, 1) := by decide +kernel
theorem dX8_count_142 : decode cX8_count 142 = .ok (.ifCond .eq 7, 3) := by decide +kernel
theorem dX8_count_145 : decode cX8_count 145 = .ok (.iconst 1, 1) := by decide +kernel
theorem dX8_count_146 : decode cX8_count 146 = .ok (.goto 4, 3) := by decide +kernel
theorem dX8_count_149 : decode cX8_count 149 = .ok (.iconst 0, 1) := by decide +kernel
theorem dX8_count_150 : decode cX8_count 150 = .ok (.iadd, 1) := by decide +kernel
theorem dX8_count_151 : decode cX8_count 151 = .ok (.istore_n 2, 1) := by decide +kernel
theorem dX8_count_152 : decode cX8_count 152 = .ok (.iinc 3 1, 3) := by decide +kernel
theorem dX8_count_155 : decode cX8_count 155 = .ok (.goto (-26), 3) := by decide +kernel
theorem dX8_count_158 : decode cX8_count 158 = .ok (.iload_n 2, 1) := by decide +kernel
theorem dX8_count_159 : decode cX8_count 159 = .ok (.ireturn, 1) := by decide +kernel
theorem dX8_count_160 : decode cX8_count 160 = .ok (.aload_n 0, 1) := by decide +kernel
theorem dX8_count_161 : decode cX8_count 161 = .ok (.getfield 154, 3) := by decide +kernel
theorem dX8_count_164 : decode cX8_count 164 = .ok (.ireturn, 1) := by decide +kernel
theorem dX8_count_165 : decode cX8_count 165 = .ok (.aload_n 0, 1) := by decide +kernel
theorem dX8_count_166 : decode cX8_count 166 = .ok (.invokevirtual 119, 3) := by decide +kernel
theorem dX8_count_169 : decode cX8_count 169 = .ok (.aload_n 0, 1) := by decide +kernel
theorem dX8_count_170 : decode cX8_count 170 = .ok (.iconst (-1), 1) := by decide +kernel
theorem dX8_count_171 : decode cX8_count 171 = .ok (.invokevirtual 123, 3) := by decide +kernel
theorem dX8_count_174 : decode cX8_count 174 = .ok (.lor, 1) := by decide +kernel
theorem dX8_count_175 : decode cX8_count 175 = .ok (.invokestatic 126, 3) := by decide +kernel
theorem dX8_count_178 : decode cX8_count 178 = .ok (.ireturn, 1) := by decide +kernel
theorem dX8_count_179 : decode cX8_count 179 = .ok (.aload_n 0, 1) := by decide +kernel
theorem dX8_count_180 : decode cX8_count 180 = .ok (.getfield 61, 3) := by decide +kernel
theorem dX8_count_183 : decode cX8_count 183 = .ok (.ireturn, 1) := by decide +kernel
theorem dX8_count_184 : decode cX8_count 184 = .ok (.iconst (-1), 1) := by decide +kernel
theorem dX8_count_185 : decode cX8_count 185 = .ok (.ireturn, 1) := by decide +kernel

