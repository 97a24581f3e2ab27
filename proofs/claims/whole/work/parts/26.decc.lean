theorem dX7_init_0 : decode cX7_init 0 = .ok (.aload_n 0, 1) := by decide +kernel
theorem dX7_init_1 : decode cX7_init 1 = .ok (.invokespecial 3, 3) := by decide +kernel
theorem dX7_init_4 : decode cX7_init 4 = .ok (.aload_n 0, 1) := by decide +kernel
theorem dX7_init_5 : decode cX7_init 5 = .ok (.new 9, 3) := by decide +kernel
theorem dX7_init_8 : decode cX7_init 8 = .ok (.dup, 1) := by decide +kernel
theorem dX7_init_9 : decode cX7_init 9 = .ok (.invokespecial 11, 3) := by decide +kernel
theorem dX7_init_12 : decode cX7_init 12 = .ok (.putfield 12, 3) := by decide +kernel
theorem dX7_init_15 : decode cX7_init 15 = .ok (.aload_n 0, 1) := by decide +kernel
theorem dX7_init_16 : decode cX7_init 16 = .ok (.new 16, 3) := by decide +kernel
theorem dX7_init_19 : decode cX7_init 19 = .ok (.dup, 1) := by decide +kernel
theorem dX7_init_20 : decode cX7_init 20 = .ok (.invokespecial 18, 3) := by decide +kernel
theorem dX7_init_23 : decode cX7_init 23 = .ok (.putfield 19, 3) := by decide +kernel
theorem dX7_init_26 : decode cX7_init 26 = .ok (.aload_n 0, 1) := by decide +kernel
theorem dX7_init_27 : decode cX7_init 27 = .ok (.new 23, 3) := by decide +kernel
theorem dX7_init_30 : decode cX7_init 30 = .ok (.dup, 1) := by decide +kernel
theorem dX7_init_31 : decode cX7_init 31 = .ok (.invokespecial 25, 3) := by decide +kernel
theorem dX7_init_34 : decode cX7_init 34 = .ok (.putfield 26, 3) := by decide +kernel
theorem dX7_init_37 : decode cX7_init 37 = .ok (.aload_n 0, 1) := by decide +kernel
theorem dX7_init_38 : decode cX7_init 38 = .ok (.new 30, 3) := by decide +kernel
theorem dX7_init_41 : decode cX7_init 41 = .ok (.dup, 1) := by decide +kernel
theorem dX7_init_42 : decode cX7_init 42 = .ok (.invokespecial 32, 3) := by decide +kernel
theorem dX7_init_45 : decode cX7_init 45 = .ok (.putfield 33, 3) := by decide +kernel
theorem dX7_init_48 : decode cX7_init 48 = .ok (.aload_n 0, 1) := by decide +kernel
theorem dX7_init_49 : decode cX7_init 49 = .ok (.new 37, 3) := by decide +kernel
theorem dX7_init_52 : decode cX7_init 52 = .ok (.dup, 1) := by decide +kernel
theorem dX7_init_53 : decode cX7_init 53 = .ok (.invokespecial 39, 3) := by decide +kernel
theorem dX7_init_56 : decode cX7_init 56 = .ok (.putfield 40, 3) := by decide +kernel
theorem dX7_init_59 : decode cX7_init 59 = .ok (.aload_n 0, 1) := by decide +kernel
theorem dX7_init_60 : decode cX7_init 60 = .ok (.new 44, 3) := by decide +kernel
theorem dX7_init_63 : decode cX7_init 63 = .ok (.dup, 1) := by decide +kernel
theorem dX7_init_64 : decode cX7_init 64 = .ok (.invokespecial 46, 3) := by decide +kernel
theorem dX7_init_67 : decode cX7_init 67 = .ok (.putfield 47, 3) := by decide +kernel
theorem dX7_init_70 : decode cX7_init 70 = .ok (.aload_n 0, 1) := by decide +kernel
theorem dX7_init_71 : decode cX7_init 71 = .ok (.iconst 0, 1) := by decide +kernel
theorem dX7_init_72 : decode cX7_init 72 = .ok (.putfield 51, 3) := by decide +kernel
theorem dX7_init_75 : decode cX7_init 75 = .ok (.aload_n 0, 1) := by decide +kernel
theorem dX7_init_76 : decode cX7_init 76 = .ok (.bipush 60, 2) := by decide +kernel
theorem dX7_init_78 : decode cX7_init 78 = .ok (.putfield 55, 3) := by decide +kernel
theorem dX7_init_81 : decode cX7_init 81 = .ok (.return_, 1) := by decide +kernel
theorem dX7_go_0 : decode cX7_go 0 = .ok (.iload_n 1, 1) := by decide +kernel
theorem dX7_go_1 : decode cX7_go 1 = .ok (.ifCond .lt 10, 3) := by decide +kernel
theorem dX7_go_4 : decode cX7_go 4 = .ok (.iload_n 1, 1) := by decide +kernel
theorem dX7_go_5 : decode cX7_go 5 = .ok (.sipush 500, 3) := by decide +kernel
theorem dX7_go_8 : decode cX7_go 8 = .ok (.if_icmp .le 5, 3) := by decide +kernel
theorem dX7_go_11 : decode cX7_go 11 = .ok (.iconst (-1), 1) := by decide +kernel
theorem dX7_go_12 : decode cX7_go 12 = .ok (.ireturn, 1) := by decide +kernel
theorem dX7_go_13 : decode cX7_go 13 = .ok (.aload_n 0, 1) := by decide +kernel
theorem dX7_go_14 : decode cX7_go 14 = .ok (.aload_n 0, 1) := by decide +kernel
theorem dX7_go_15 : decode cX7_go 15 = .ok (.getfield 51, 3) := by decide +kernel
theorem dX7_go_18 : decode cX7_go 18 = .ok (.iload_n 1, 1) := by decide +kernel
theorem dX7_go_19 : decode cX7_go 19 = .ok (.iadd, 1) := by decide +kernel
theorem dX7_go_20 : decode cX7_go 20 = .ok (.sipush 5000, 3) := by decide +kernel
theorem dX7_go_23 : decode cX7_go 23 = .ok (.invokestatic 58, 3) := by decide +kernel
theorem dX7_go_26 : decode cX7_go 26 = .ok (.putfield 51, 3) := by decide +kernel
theorem dX7_go_29 : decode cX7_go 29 = .ok (.aload_n 0, 1) := by decide +kernel
theorem dX7_go_30 : decode cX7_go 30 = .ok (.getfield 51, 3) := by decide +kernel
theorem dX7_go_33 : decode cX7_go 33 = .ok (.ireturn, 1) := by decide +kernel
theorem dX7_folder_0 : decode cX7_folder 0 = .ok (.aload_n 0, 1) := by decide +kernel
theorem dX7_folder_1 : decode cX7_folder 1 = .ok (.getfield 12, 3) := by decide +kernel
theorem dX7_folder_4 : decode cX7_folder 4 = .ok (.iload_n 1, 1) := by decide +kernel
theorem dX7_folder_5 : decode cX7_folder 5 = .ok (.invokevirtual 64, 3) := by decide +kernel
theorem dX7_folder_8 : decode cX7_folder 8 = .ok (.ifCond .eq 10, 3) := by decide +kernel
theorem dX7_folder_11 : decode cX7_folder 11 = .ok (.iload_n 2, 1) := by decide +kernel
theorem dX7_folder_12 : decode cX7_folder 12 = .ok (.invokestatic 68, 3) := by decide +kernel
theorem dX7_folder_15 : decode cX7_folder 15 = .ok (.ifCond .ne 5, 3) := by decide +kernel
theorem dX7_folder_18 : decode cX7_folder 18 = .ok (.iconst (-1), 1) := by decide +kernel
theorem dX7_folder_19 : decode cX7_folder 19 = .ok (.ireturn, 1) := by decide +kernel
theorem dX7_folder_20 : decode cX7_folder 20 = .ok (.aload_n 0, 1) := by decide +kernel
theorem dX7_folder_21 : decode cX7_folder 21 = .ok (.getfield 12, 3) := by decide +kernel
theorem dX7_folder_24 : decode cX7_folder 24 = .ok (.iload_n 1, 1) := by decide +kernel
theorem dX7_folder_25 : decode cX7_folder 25 = .ok (.iload_n 2, 1) := by decide +kernel
theorem dX7_folder_26 : decode cX7_folder 26 = .ok (.iload_n 3, 1) := by decide +kernel
theorem dX7_folder_27 : decode cX7_folder 27 = .ok (.invokevirtual 71, 3) := by decide +kernel
theorem dX7_folder_30 : decode cX7_folder 30 = .ok (.ireturn, 1) := by decide +kernel
theorem dX7_move_0 : decode cX7_move 0 = .ok (.aload_n 0, 1) := by decide +kernel
theorem dX7_move_1 : decode cX7_move 1 = .ok (.getfield 12, 3) := by decide +kernel
theorem dX7_move_4 : decode cX7_move 4 = .ok (.iload_n 1, 1) := by decide +kernel
theorem dX7_move_5 : decode cX7_move 5 = .ok (.invokevirtual 64, 3) := by decide +kernel
theorem dX7_move_8 : decode cX7_move 8 = .ok (.ifCond .eq 18, 3) := by decide +kernel
theorem dX7_move_11 : decode cX7_move 11 = .ok (.aload_n 0, 1) := by decide +kernel
theorem dX7_move_12 : decode cX7_move 12 = .ok (.getfield 12, 3) := by decide +kernel
theorem dX7_move_15 : decode cX7_move 15 = .ok (.iload_n 2, 1) := by decide +kernel
theorem dX7_move_16 : decode cX7_move 16 = .ok (.invokevirtual 64, 3) := by decide +kernel
theorem dX7_move_19 : decode cX7_move 19 = .ok (.ifCond .eq 7, 3) := by decide +kernel
theorem dX7_move_22 : decode cX7_move 22 = .ok (.iload_n 1, 1) := by decide +kernel
theorem dX7_move_23 : decode cX7_move 23 = .ok (.ifCond .ne 5, 3) := by decide +kernel
theorem dX7_move_26 : decode cX7_move 26 = .ok (.iconst 0, 1) := by decide +kernel
theorem dX7_move_27 : decode cX7_move 27 = .ok (.ireturn, 1) := by decide +kernel
theorem dX7_move_28 : decode cX7_move 28 = .ok (.aload_n 0, 1) := by decide +kernel
theorem dX7_move_29 : decode cX7_move 29 = .ok (.getfield 12, 3) := by decide +kernel
theorem dX7_move_32 : decode cX7_move 32 = .ok (.iload_n 2, 1) := by decide +kernel
theorem dX7_move_33 : decode cX7_move 33 = .ok (.iload_n 1, 1) := by decide +kernel
theorem dX7_move_34 : decode cX7_move 34 = .ok (.invokevirtual 75, 3) := by decide +kernel
theorem dX7_move_37 : decode cX7_move 37 = .ok (.ifCond .eq 5, 3) := by decide +kernel
theorem dX7_move_40 : decode cX7_move 40 = .ok (.iconst 0, 1) := by decide +kernel
theorem dX7_move_41 : decode cX7_move 41 = .ok (.ireturn, 1) := by decide +kernel
theorem dX7_move_42 : decode cX7_move 42 = .ok (.aload_n 0, 1) := by decide +kernel
theorem dX7_move_43 : decode cX7_move 43 = .ok (.getfield 12, 3) := by decide +kernel
theorem dX7_move_46 : decode cX7_move 46 = .ok (.iload_n 1, 1) := by decide +kernel
theorem dX7_move_47 : decode cX7_move 47 = .ok (.iload_n 2, 1) := by decide +kernel
theorem dX7_move_48 : decode cX7_move 48 = .ok (.invokevirtual 79, 3) := by decide +kernel
theorem dX7_move_51 : decode cX7_move 51 = .ok (.iconst 1, 1) := by decide +kernel
theorem dX7_move_52 : decode cX7_move 52 = .ok (.ireturn, 1) := by decide +kernel
theorem dX7_file_0 : decode cX7_file 0 = .ok (.aload_n 0, 1) := by decide +kernel
theorem dX7_file_1 : decode cX7_file 1 = .ok (.getfield 12, 3) := by decide +kernel
theorem dX7_file_4 : decode cX7_file 4 = .ok (.iload_n 1, 1) := by decide +kernel
theorem dX7_file_5 : decode cX7_file 5 = .ok (.invokevirtual 64, 3) := by decide +kernel
theorem dX7_file_8 : decode cX7_file 8 = .ok (.ifCond .eq 21, 3) := by decide +kernel
theorem dX7_file_11 : decode cX7_file 11 = .ok (.iload_n 2, 1) := by decide +kernel
theorem dX7_file_12 : decode cX7_file 12 = .ok (.invokestatic 68, 3) := by decide +kernel
theorem dX7_file_15 : decode cX7_file 15 = .ok (.ifCond .eq 14, 3) := by decide +kernel
theorem dX7_file_18 : decode cX7_file 18 = .ok (.iload_n 3, 1) := by decide +kernel
theorem dX7_file_19 : decode cX7_file 19 = .ok (.ifCond .lt 10, 3) := by decide +kernel
theorem dX7_file_22 : decode cX7_file 22 = .ok (.iload_n 3, 1) := by decide +kernel
theorem dX7_file_23 : decode cX7_file 23 = .ok (.sipush 1000, 3) := by decide +kernel
theorem dX7_file_26 : decode cX7_file 26 = .ok (.if_icmp .lt 5, 3) := by decide +kernel
theorem dX7_file_29 : decode cX7_file 29 = .ok (.iconst (-1), 1) := by decide +kernel
theorem dX7_file_30 : decode cX7_file 30 = .ok (.ireturn, 1) := by decide +kernel
theorem dX7_file_31 : decode cX7_file 31 = .ok (.aload_n 0, 1) := by decide +kernel
theorem dX7_file_32 : decode cX7_file 32 = .ok (.invokevirtual 83, 3) := by decide +kernel
theorem dX7_file_35 : decode cX7_file 35 = .ok (.ifCond .ne 5, 3) := by decide +kernel
theorem dX7_file_38 : decode cX7_file 38 = .ok (.iconst (-1), 1) := by decide +kernel
theorem dX7_file_39 : decode cX7_file 39 = .ok (.ireturn, 1) := by decide +kernel
theorem dX7_file_40 : decode cX7_file 40 = .ok (.aload_n 0, 1) := by decide +kernel
theorem dX7_file_41 : decode cX7_file 41 = .ok (.getfield 26, 3) := by decide +kernel
theorem dX7_file_44 : decode cX7_file 44 = .ok (.aload_n 0, 1) := by decide +kernel
theorem dX7_file_45 : decode cX7_file 45 = .ok (.getfield 19, 3) := by decide +kernel
theorem dX7_file_48 : decode cX7_file 48 = .ok (.new 87, 3) := by decide +kernel
theorem dX7_file_51 : decode cX7_file 51 = .ok (.dup, 1) := by decide +kernel
theorem dX7_file_52 : decode cX7_file 52 = .ok (.iload_n 2, 1) := by decide +kernel
theorem dX7_file_53 : decode cX7_file 53 = .ok (.iload_n 3, 1) := by decide +kernel
theorem dX7_file_54 : decode cX7_file 54 = .ok (.aload_n 0, 1) := by decide +kernel
theorem dX7_file_55 : decode cX7_file 55 = .ok (.getfield 51, 3) := by decide +kernel
theorem dX7_file_58 : decode cX7_file 58 = .ok (.invokespecial 89, 3) := by decide +kernel
theorem dX7_file_61 : decode cX7_file 61 = .ok (.invokevirtual 92, 3) := by decide +kernel
theorem dX7_file_64 : decode cX7_file 64 = .ok (.iload_n 1, 1) := by decide +kernel
theorem dX7_file_65 : decode cX7_file 65 = .ok (.invokevirtual 95, 3) := by decide +kernel
theorem dX7_file_68 : decode cX7_file 68 = .ok (.ireturn, 1) := by decide +kernel
theorem dX7_copy_0 : decode cX7_copy 0 = .ok (.aload_n 0, 1) := by decide +kernel
theorem dX7_copy_1 : decode cX7_copy 1 = .ok (.getfield 19, 3) := by decide +kernel
theorem dX7_copy_4 : decode cX7_copy 4 = .ok (.aload_n 0, 1) := by decide +kernel
theorem dX7_copy_5 : decode cX7_copy 5 = .ok (.getfield 26, 3) := by decide +kernel
theorem dX7_copy_8 : decode cX7_copy 8 = .ok (.iload_n 1, 1) := by decide +kernel
theorem dX7_copy_9 : decode cX7_copy 9 = .ok (.invokevirtual 97, 3) := by decide +kernel
theorem dX7_copy_12 : decode cX7_copy 12 = .ok (.invokevirtual 101, 3) := by decide +kernel
theorem dX7_copy_15 : decode cX7_copy 15 = .ok (.astore_n 3, 1) := by decide +kernel
theorem dX7_copy_16 : decode cX7_copy 16 = .ok (.aload_n 3, 1) := by decide +kernel
theorem dX7_copy_17 : decode cX7_copy 17 = .ok (.ifnull 21, 3) := by decide +kernel
theorem dX7_copy_20 : decode cX7_copy 20 = .ok (.aload_n 0, 1) := by decide +kernel
theorem dX7_copy_21 : decode cX7_copy 21 = .ok (.getfield 12, 3) := by decide +kernel
theorem dX7_copy_24 : decode cX7_copy 24 = .ok (.iload_n 2, 1) := by decide +kernel
theorem dX7_copy_25 : decode cX7_copy 25 = .ok (.invokevirtual 64, 3) := by decide +kernel
theorem dX7_copy_28 : decode cX7_copy 28 = .ok (.ifCond .eq 10, 3) := by decide +kernel
theorem dX7_copy_31 : decode cX7_copy 31 = .ok (.aload_n 0, 1) := by decide +kernel
theorem dX7_copy_32 : decode cX7_copy 32 = .ok (.invokevirtual 83, 3) := by decide +kernel
theorem dX7_copy_35 : decode cX7_copy 35 = .ok (.ifCond .ne 5, 3) := by decide +kernel
theorem dX7_copy_38 : decode cX7_copy 38 = .ok (.iconst (-1), 1) := by decide +kernel
theorem dX7_copy_39 : decode cX7_copy 39 = .ok (.ireturn, 1) := by decide +kernel
theorem dX7_copy_40 : decode cX7_copy 40 = .ok (.aload_n 0, 1) := by decide +kernel
theorem dX7_copy_41 : decode cX7_copy 41 = .ok (.getfield 26, 3) := by decide +kernel
theorem dX7_copy_44 : decode cX7_copy 44 = .ok (.aload_n 0, 1) := by decide +kernel
theorem dX7_copy_45 : decode cX7_copy 45 = .ok (.getfield 19, 3) := by decide +kernel
theorem dX7_copy_48 : decode cX7_copy 48 = .ok (.aload_n 3, 1) := by decide +kernel
theorem dX7_copy_49 : decode cX7_copy 49 = .ok (.aload_n 0, 1) := by decide +kernel
theorem dX7_copy_50 : decode cX7_copy 50 = .ok (.getfield 51, 3) := by decide +kernel
theorem dX7_copy_53 : decode cX7_copy 53 = .ok (.invokevirtual 105, 3) := by decide +kernel
theorem dX7_copy_56 : decode cX7_copy 56 = .ok (.invokevirtual 92, 3) := by decide +kernel
theorem dX7_copy_59 : decode cX7_copy 59 = .ok (.iload_n 2, 1) := by decide +kernel
theorem dX7_copy_60 : decode cX7_copy 60 = .ok (.invokevirtual 95, 3) := by decide +kernel
theorem dX7_copy_63 : decode cX7_copy 63 = .ok (.ireturn, 1) := by decide +kernel
theorem dX7_link_0 : decode cX7_link 0 = .ok (.aload_n 0, 1) := by decide +kernel
theorem dX7_link_1 : decode cX7_link 1 = .ok (.getfield 19, 3) := by decide +kernel
theorem dX7_link_4 : decode cX7_link 4 = .ok (.iload_n 1, 1) := by decide +kernel
theorem dX7_link_5 : decode cX7_link 5 = .ok (.invokevirtual 101, 3) := by decide +kernel
theorem dX7_link_8 : decode cX7_link 8 = .ok (.ifnull 14, 3) := by decide +kernel
theorem dX7_link_11 : decode cX7_link 11 = .ok (.aload_n 0, 1) := by decide +kernel
theorem dX7_link_12 : decode cX7_link 12 = .ok (.getfield 12, 3) := by decide +kernel
theorem dX7_link_15 : decode cX7_link 15 = .ok (.iload_n 2, 1) := by decide +kernel
theorem dX7_link_16 : decode cX7_link 16 = .ok (.invokevirtual 64, 3) := by decide +kernel
theorem dX7_link_19 : decode cX7_link 19 = .ok (.ifCond .ne 5, 3) := by decide +kernel
theorem dX7_link_22 : decode cX7_link 22 = .ok (.iconst (-1), 1) := by decide +kernel
theorem dX7_link_23 : decode cX7_link 23 = .ok (.ireturn, 1) := by decide +kernel
theorem dX7_link_24 : decode cX7_link 24 = .ok (.aload_n 0, 1) := by decide +kernel
theorem dX7_link_25 : decode cX7_link 25 = .ok (.getfield 26, 3) := by decide +kernel
theorem dX7_link_28 : decode cX7_link 28 = .ok (.iload_n 1, 1) := by decide +kernel
theorem dX7_link_29 : decode cX7_link 29 = .ok (.iload_n 2, 1) := by decide +kernel
theorem dX7_link_30 : decode cX7_link 30 = .ok (.invokevirtual 95, 3) := by decide +kernel
theorem dX7_link_33 : decode cX7_link 33 = .ok (.ireturn, 1) := by decide +kernel
theorem dX7_unlink_0 : decode cX7_unlink 0 = .ok (.aload_n 0, 1) := by decide +kernel
theorem dX7_unlink_1 : decode cX7_unlink 1 = .ok (.getfield 26, 3) := by decide +kernel
theorem dX7_unlink_4 : decode cX7_unlink 4 = .ok (.iload_n 1, 1) := by decide +kernel
theorem dX7_unlink_5 : decode cX7_unlink 5 = .ok (.invokevirtual 97, 3) := by decide +kernel
theorem dX7_unlink_8 : decode cX7_unlink 8 = .ok (.istore_n 2, 1) := by decide +kernel
theorem dX7_unlink_9 : decode cX7_unlink 9 = .ok (.iload_n 2, 1) := by decide +kernel
theorem dX7_unlink_10 : decode cX7_unlink 10 = .ok (.iconst (-1), 1) := by decide +kernel
theorem dX7_unlink_11 : decode cX7_unlink 11 = .ok (.if_icmp .ne 5, 3) := by decide +kernel
theorem dX7_unlink_14 : decode cX7_unlink 14 = .ok (.iconst 0, 1) := by decide +kernel
theorem dX7_unlink_15 : decode cX7_unlink 15 = .ok (.ireturn, 1) := by decide +kernel
theorem dX7_unlink_16 : decode cX7_unlink 16 = .ok (.aload_n 0, 1) := by decide +kernel
theorem dX7_unlink_17 : decode cX7_unlink 17 = .ok (.getfield 26, 3) := by decide +kernel
theorem dX7_unlink_20 : decode cX7_unlink 20 = .ok (.iload_n 1, 1) := by decide +kernel
theorem dX7_unlink_21 : decode cX7_unlink 21 = .ok (.invokevirtual 108, 3) := by decide +kernel
theorem dX7_unlink_24 : decode cX7_unlink 24 = .ok (.aload_n 0, 1) := by decide +kernel
theorem dX7_unlink_25 : decode cX7_unlink 25 = .ok (.getfield 26, 3) := by decide +kernel
theorem dX7_unlink_28 : decode cX7_unlink 28 = .ok (.iload_n 2, 1) := by decide +kernel
theorem dX7_unlink_29 : decode cX7_unlink 29 = .ok (.invokevirtual 112, 3) := by decide +kernel
theorem dX7_unlink_32 : decode cX7_unlink 32 = .ok (.ifCond .ne 11, 3) := by decide +kernel
theorem dX7_unlink_35 : decode cX7_unlink 35 = .ok (.aload_n 0, 1) := by decide +kernel
theorem dX7_unlink_36 : decode cX7_unlink 36 = .ok (.getfield 19, 3) := by decide +kernel
theorem dX7_unlink_39 : decode cX7_unlink 39 = .ok (.iload_n 2, 1) := by decide +kernel
theorem dX7_unlink_40 : decode cX7_unlink 40 = .ok (.invokevirtual 115, 3) := by decide +kernel
theorem dX7_unlink_43 : decode cX7_unlink 43 = .ok (.iconst 1, 1) := by decide +kernel
theorem dX7_unlink_44 : decode cX7_unlink 44 = .ok (.ireturn, 1) := by decide +kernel
theorem dX7_of_0 : decode cX7_of 0 = .ok (.aload_n 0, 1) := by decide +kernel
theorem dX7_of_1 : decode cX7_of 1 = .ok (.getfield 26, 3) := by decide +kernel
theorem dX7_of_4 : decode cX7_of 4 = .ok (.iload_n 1, 1) := by decide +kernel
theorem dX7_of_5 : decode cX7_of 5 = .ok (.invokevirtual 97, 3) := by decide +kernel
theorem dX7_of_8 : decode cX7_of 8 = .ok (.ireturn, 1) := by decide +kernel
theorem dX7_write_0 : decode cX7_write 0 = .ok (.aload_n 0, 1) := by decide +kernel
theorem dX7_write_1 : decode cX7_write 1 = .ok (.getfield 19, 3) := by decide +kernel
theorem dX7_write_4 : decode cX7_write 4 = .ok (.iload_n 1, 1) := by decide +kernel
theorem dX7_write_5 : decode cX7_write 5 = .ok (.invokevirtual 101, 3) := by decide +kernel
theorem dX7_write_8 : decode cX7_write 8 = .ok (.astore_n 3, 1) := by decide +kernel
theorem dX7_write_9 : decode cX7_write 9 = .ok (.aload_n 3, 1) := by decide +kernel
theorem dX7_write_10 : decode cX7_write 10 = .ok (.ifnull 11, 3) := by decide +kernel
theorem dX7_write_13 : decode cX7_write 13 = .ok (.aload_n 3, 1) := by decide +kernel
theorem dX7_write_14 : decode cX7_write 14 = .ok (.iload_n 2, 1) := by decide +kernel
theorem dX7_write_15 : decode cX7_write 15 = .ok (.invokevirtual 118, 3) := by decide +kernel
theorem dX7_write_18 : decode cX7_write 18 = .ok (.ifCond .ne 5, 3) := by decide +kernel
theorem dX7_write_21 : decode cX7_write 21 = .ok (.iconst (-1), 1) := by decide +kernel
theorem dX7_write_22 : decode cX7_write 22 = .ok (.ireturn, 1) := by decide +kernel
theorem dX7_write_23 : decode cX7_write 23 = .ok (.aload_n 0, 1) := by decide +kernel
theorem dX7_write_24 : decode cX7_write 24 = .ok (.invokevirtual 121, 3) := by decide +kernel
theorem dX7_write_27 : decode cX7_write 27 = .ok (.lstore 4, 2) := by decide +kernel
theorem dX7_write_29 : decode cX7_write 29 = .ok (.lload 4, 2) := by decide +kernel
theorem dX7_write_31 : decode cX7_write 31 = .ok (.invokestatic 125, 3) := by decide +kernel
theorem dX7_write_34 : decode cX7_write 34 = .ok (.aload_n 0, 1) := by decide +kernel
theorem dX7_write_35 : decode cX7_write 35 = .ok (.getfield 55, 3) := by decide +kernel
theorem dX7_write_38 : decode cX7_write 38 = .ok (.if_icmp .lt 5, 3) := by decide +kernel
theorem dX7_write_41 : decode cX7_write 41 = .ok (.iconst (-1), 1) := by decide +kernel
theorem dX7_write_42 : decode cX7_write 42 = .ok (.ireturn, 1) := by decide +kernel
theorem dX7_write_43 : decode cX7_write 43 = .ok (.lload 4, 2) := by decide +kernel
theorem dX7_write_45 : decode cX7_write 45 = .ok (.ldc2_w 131, 3) := by decide +kernel
theorem dX7_write_48 : decode cX7_write 48 = .ok (.lxor, 1) := by decide +kernel
theorem dX7_write_49 : decode cX7_write 49 = .ok (.iconst 0, 1) := by decide +kernel
theorem dX7_write_50 : decode cX7_write 50 = .ok (.bipush 60, 2) := by decide +kernel
theorem dX7_write_52 : decode cX7_write 52 = .ok (.invokestatic 133, 3) := by decide +kernel
theorem dX7_write_55 : decode cX7_write 55 = .ok (.istore 6, 2) := by decide +kernel
theorem dX7_write_57 : decode cX7_write 57 = .ok (.iload 6, 2) := by decide +kernel
theorem dX7_write_59 : decode cX7_write 59 = .ok (.iconst (-1), 1) := by decide +kernel
theorem dX7_write_60 : decode cX7_write 60 = .ok (.if_icmp .eq 14, 3) := by decide +kernel
theorem dX7_write_63 : decode cX7_write 63 = .ok (.aload_n 3, 1) := by decide +kernel
theorem dX7_write_64 : decode cX7_write 64 = .ok (.iload_n 2, 1) := by decide +kernel
theorem dX7_write_65 : decode cX7_write 65 = .ok (.iload 6, 2) := by decide +kernel
theorem dX7_write_67 : decode cX7_write 67 = .ok (.aload_n 0, 1) := by decide +kernel
theorem dX7_write_68 : decode cX7_write 68 = .ok (.getfield 51, 3) := by decide +kernel
theorem dX7_write_71 : decode cX7_write 71 = .ok (.invokevirtual 137, 3) := by decide +kernel
theorem dX7_write_74 : decode cX7_write 74 = .ok (.iload 6, 2) := by decide +kernel
theorem dX7_write_76 : decode cX7_write 76 = .ok (.ireturn, 1) := by decide +kernel
theorem dX7_hole_0 : decode cX7_hole 0 = .ok (.aload_n 0, 1) := by decide +kernel
theorem dX7_hole_1 : decode cX7_hole 1 = .ok (.getfield 19, 3) := by decide +kernel
theorem dX7_hole_4 : decode cX7_hole 4 = .ok (.iload_n 1, 1) := by decide +kernel
theorem dX7_hole_5 : decode cX7_hole 5 = .ok (.invokevirtual 101, 3) := by decide +kernel
theorem dX7_hole_8 : decode cX7_hole 8 = .ok (.astore_n 3, 1) := by decide +kernel
theorem dX7_hole_9 : decode cX7_hole 9 = .ok (.aload_n 3, 1) := by decide +kernel
theorem dX7_hole_10 : decode cX7_hole 10 = .ok (.ifnull 11, 3) := by decide +kernel
theorem dX7_hole_13 : decode cX7_hole 13 = .ok (.aload_n 3, 1) := by decide +kernel
theorem dX7_hole_14 : decode cX7_hole 14 = .ok (.iload_n 2, 1) := by decide +kernel
theorem dX7_hole_15 : decode cX7_hole 15 = .ok (.invokevirtual 118, 3) := by decide +kernel
theorem dX7_hole_18 : decode cX7_hole 18 = .ok (.ifCond .ne 5, 3) := by decide +kernel
theorem dX7_hole_21 : decode cX7_hole 21 = .ok (.iconst 0, 1) := by decide +kernel
theorem dX7_hole_22 : decode cX7_hole 22 = .ok (.ireturn, 1) := by decide +kernel
theorem dX7_hole_23 : decode cX7_hole 23 = .ok (.aload_n 3, 1) := by decide +kernel
theorem dX7_hole_24 : decode cX7_hole 24 = .ok (.iload_n 2, 1) := by decide +kernel
theorem dX7_hole_25 : decode cX7_hole 25 = .ok (.iconst (-1), 1) := by decide +kernel
theorem dX7_hole_26 : decode cX7_hole 26 = .ok (.aload_n 0, 1) := by decide +kernel
theorem dX7_hole_27 : decode cX7_hole 27 = .ok (.getfield 51, 3) := by decide +kernel
theorem dX7_hole_30 : decode cX7_hole 30 = .ok (.invokevirtual 137, 3) := by decide +kernel
theorem dX7_hole_33 : decode cX7_hole 33 = .ok (.iconst 1, 1) := by decide +kernel
theorem dX7_hole_34 : decode cX7_hole 34 = .ok (.ireturn, 1) := by decide +kernel
theorem dX7_share_0 : decode cX7_share 0 = .ok (.aload_n 0, 1) := by decide +kernel
theorem dX7_share_1 : decode cX7_share 1 = .ok (.getfield 19, 3) := by decide +kernel
theorem dX7_share_4 : decode cX7_share 4 = .ok (.iload_n 1, 1) := by decide +kernel
theorem dX7_share_5 : decode cX7_share 5 = .ok (.invokevirtual 101, 3) := by decide +kernel
theorem dX7_share_8 : decode cX7_share 8 = .ok (.astore 5, 2) := by decide +kernel
theorem dX7_share_10 : decode cX7_share 10 = .ok (.aload_n 0, 1) := by decide +kernel
theorem dX7_share_11 : decode cX7_share 11 = .ok (.getfield 19, 3) := by decide +kernel
theorem dX7_share_14 : decode cX7_share 14 = .ok (.iload_n 3, 1) := by decide +kernel
theorem dX7_share_15 : decode cX7_share 15 = .ok (.invokevirtual 101, 3) := by decide +kernel
theorem dX7_share_18 : decode cX7_share 18 = .ok (.astore 6, 2) := by decide +kernel
theorem dX7_share_20 : decode cX7_share 20 = .ok (.aload 5, 2) := by decide +kernel
theorem dX7_share_22 : decode cX7_share 22 = .ok (.ifnull 17, 3) := by decide +kernel
theorem dX7_share_25 : decode cX7_share 25 = .ok (.aload 6, 2) := by decide +kernel
theorem dX7_share_27 : decode cX7_share 27 = .ok (.ifnull 12, 3) := by decide +kernel
theorem dX7_share_30 : decode cX7_share 30 = .ok (.aload 5, 2) := by decide +kernel
theorem dX7_share_32 : decode cX7_share 32 = .ok (.iload_n 2, 1) := by decide +kernel
theorem dX7_share_33 : decode cX7_share 33 = .ok (.invokevirtual 118, 3) := by decide +kernel
theorem dX7_share_36 : decode cX7_share 36 = .ok (.ifCond .ne 5, 3) := by decide +kernel
theorem dX7_share_39 : decode cX7_share 39 = .ok (.iconst 0, 1) := by decide +kernel
theorem dX7_share_40 : decode cX7_share 40 = .ok (.ireturn, 1) := by decide +kernel
theorem dX7_share_41 : decode cX7_share 41 = .ok (.aload 6, 2) := by decide +kernel
theorem dX7_share_43 : decode cX7_share 43 = .ok (.iload 4, 2) := by decide +kernel
theorem dX7_share_45 : decode cX7_share 45 = .ok (.invokevirtual 140, 3) := by decide +kernel
theorem dX7_share_48 : decode cX7_share 48 = .ok (.istore 7, 2) := by decide +kernel
theorem dX7_share_50 : decode cX7_share 50 = .ok (.iload 7, 2) := by decide +kernel
theorem dX7_share_52 : decode cX7_share 52 = .ok (.iconst (-1), 1) := by decide +kernel
theorem dX7_share_53 : decode cX7_share 53 = .ok (.if_icmp .ne 5, 3) := by decide +kernel
theorem dX7_share_56 : decode cX7_share 56 = .ok (.iconst 0, 1) := by decide +kernel
theorem dX7_share_57 : decode cX7_share 57 = .ok (.ireturn, 1) := by decide +kernel
theorem dX7_share_58 : decode cX7_share 58 = .ok (.aload 5, 2) := by decide +kernel
theorem dX7_share_60 : decode cX7_share 60 = .ok (.iload_n 2, 1) := by decide +kernel
theorem dX7_share_61 : decode cX7_share 61 = .ok (.iload 7, 2) := by decide +kernel
theorem dX7_share_63 : decode cX7_share 63 = .ok (.aload_n 0, 1) := by decide +kernel
theorem dX7_share_64 : decode cX7_share 64 = .ok (.getfield 51, 3) := by decide +kernel
theorem dX7_share_67 : decode cX7_share 67 = .ok (.invokevirtual 137, 3) := by decide +kernel
theorem dX7_share_70 : decode cX7_share 70 = .ok (.iconst 1, 1) := by decide +kernel
theorem dX7_share_71 : decode cX7_share 71 = .ok (.ireturn, 1) := by decide +kernel
theorem dX7_cut_0 : decode cX7_cut 0 = .ok (.aload_n 0, 1) := by decide +kernel
theorem dX7_cut_1 : decode cX7_cut 1 = .ok (.getfield 19, 3) := by decide +kernel
theorem dX7_cut_4 : decode cX7_cut 4 = .ok (.iload_n 1, 1) := by decide +kernel
theorem dX7_cut_5 : decode cX7_cut 5 = .ok (.invokevirtual 101, 3) := by decide +kernel
theorem dX7_cut_8 : decode cX7_cut 8 = .ok (.astore_n 3, 1) := by decide +kernel
theorem dX7_cut_9 : decode cX7_cut 9 = .ok (.aload_n 3, 1) := by decide +kernel
theorem dX7_cut_10 : decode cX7_cut 10 = .ok (.ifnull 15, 3) := by decide +kernel
theorem dX7_cut_13 : decode cX7_cut 13 = .ok (.iload_n 2, 1) := by decide +kernel
theorem dX7_cut_14 : decode cX7_cut 14 = .ok (.ifCond .lt 11, 3) := by decide +kernel
theorem dX7_cut_17 : decode cX7_cut 17 = .ok (.iload_n 2, 1) := by decide +kernel
theorem dX7_cut_18 : decode cX7_cut 18 = .ok (.aload_n 3, 1) := by decide +kernel
theorem dX7_cut_19 : decode cX7_cut 19 = .ok (.getfield 143, 3) := by decide +kernel
theorem dX7_cut_22 : decode cX7_cut 22 = .ok (.if_icmp .le 5, 3) := by decide +kernel
theorem dX7_cut_25 : decode cX7_cut 25 = .ok (.iconst 0, 1) := by decide +kernel
theorem dX7_cut_26 : decode cX7_cut 26 = .ok (.ireturn, 1) := by decide +kernel
theorem dX7_cut_27 : decode cX7_cut 27 = .ok (.aload_n 3, 1) := by decide +kernel
theorem dX7_cut_28 : decode cX7_cut 28 = .ok (.iload_n 2, 1) := by decide +kernel
theorem dX7_cut_29 : decode cX7_cut 29 = .ok (.aload_n 0, 1) := by decide +kernel
theorem dX7_cut_30 : decode cX7_cut 30 = .ok (.getfield 51, 3) := by decide +kernel
theorem dX7_cut_33 : decode cX7_cut 33 = .ok (.invokevirtual 146, 3) := by decide +kernel
theorem dX7_cut_36 : decode cX7_cut 36 = .ok (.iconst 1, 1) := by decide +kernel
theorem dX7_cut_37 : decode cX7_cut 37 = .ok (.ireturn, 1) := by decide +kernel
theorem dX7_block_0 : decode cX7_block 0 = .ok (.aload_n 0, 1) := by decide +kernel
theorem dX7_block_1 : decode cX7_block 1 = .ok (.getfield 19, 3) := by decide +kernel
theorem dX7_block_4 : decode cX7_block 4 = .ok (.iload_n 1, 1) := by decide +kernel
theorem dX7_block_5 : decode cX7_block 5 = .ok (.invokevirtual 101, 3) := by decide +kernel
theorem dX7_block_8 : decode cX7_block 8 = .ok (.astore_n 3, 1) := by decide +kernel
theorem dX7_block_9 : decode cX7_block 9 = .ok (.aload_n 3, 1) := by decide +kernel
theorem dX7_block_10 : decode cX7_block 10 = .ok (.ifnonnull 7, 3) := by decide +kernel
theorem dX7_block_13 : decode cX7_block 13 = .ok (.iconst (-1), 1) := by decide +kernel
theorem dX7_block_14 : decode cX7_block 14 = .ok (.goto 8, 3) := by decide +kernel
theorem dX7_block_17 : decode cX7_block 17 = .ok (.aload_n 3, 1) := by decide +kernel
theorem dX7_block_18 : decode cX7_block 18 = .ok (.iload_n 2, 1) := by decide +kernel
theorem dX7_block_19 : decode cX7_block 19 = .ok (.invokevirtual 140, 3) := by decide +kernel
theorem dX7_block_22 : decode cX7_block 22 = .ok (.ireturn, 1) := by decide +kernel
theorem dX7_sum_0 : decode cX7_sum 0 = .ok (.aload_n 0, 1) := by decide +kernel
theorem dX7_sum_1 : decode cX7_sum 1 = .ok (.getfield 12, 3) := by decide +kernel
theorem dX7_sum_4 : decode cX7_sum 4 = .ok (.iload_n 1, 1) := by decide +kernel
theorem dX7_sum_5 : decode cX7_sum 5 = .ok (.invokevirtual 64, 3) := by decide +kernel
theorem dX7_sum_8 : decode cX7_sum 8 = .ok (.ifCond .eq 22, 3) := by decide +kernel
theorem dX7_sum_11 : decode cX7_sum 11 = .ok (.iload_n 2, 1) := by decide +kernel
theorem dX7_sum_12 : decode cX7_sum 12 = .ok (.invokestatic 68, 3) := by decide +kernel
theorem dX7_sum_15 : decode cX7_sum 15 = .ok (.ifCond .eq 15, 3) := by decide +kernel
theorem dX7_sum_18 : decode cX7_sum 18 = .ok (.aload_n 0, 1) := by decide +kernel
theorem dX7_sum_19 : decode cX7_sum 19 = .ok (.getfield 12, 3) := by decide +kernel
theorem dX7_sum_22 : decode cX7_sum 22 = .ok (.iload_n 1, 1) := by decide +kernel
theorem dX7_sum_23 : decode cX7_sum 23 = .ok (.iload_n 2, 1) := by decide +kernel
theorem dX7_sum_24 : decode cX7_sum 24 = .ok (.invokevirtual 149, 3) := by decide +kernel
theorem dX7_sum_27 : decode cX7_sum 27 = .ok (.ifCond .ne 5, 3) := by decide +kernel
theorem dX7_sum_30 : decode cX7_sum 30 = .ok (.iconst (-1), 1) := by decide +kernel
theorem dX7_sum_31 : decode cX7_sum 31 = .ok (.ireturn, 1) := by decide +kernel
theorem dX7_sum_32 : decode cX7_sum 32 = .ok (.aload_n 0, 1) := by decide +kernel
theorem dX7_sum_33 : decode cX7_sum 33 = .ok (.iload_n 1, 1) := by decide +kernel
theorem dX7_sum_34 : decode cX7_sum 34 = .ok (.invokevirtual 152, 3) := by decide +kernel
theorem dX7_sum_37 : decode cX7_sum 37 = .ok (.lstore 4, 2) := by decide +kernel
theorem dX7_sum_39 : decode cX7_sum 39 = .ok (.iload_n 3, 1) := by decide +kernel
theorem dX7_sum_40 : decode cX7_sum 40 = .ok (.tableswitch 57 0 2 #[28, 41, 51], 28) := by decide +kernel
theorem dX7_sum_68 : decode cX7_sum 68 = .ok (.aload_n 0, 1) := by decide +kernel
theorem dX7_sum_69 : decode cX7_sum 69 = .ok (.getfield 19, 3) := by decide +kernel
theorem dX7_sum_72 : decode cX7_sum 72 = .ok (.lload 4, 2) := by decide +kernel
theorem dX7_sum_74 : decode cX7_sum 74 = .ok (.invokevirtual 156, 3) := by decide +kernel
theorem dX7_sum_77 : decode cX7_sum 77 = .ok (.invokestatic 125, 3) := by decide +kernel
theorem dX7_sum_80 : decode cX7_sum 80 = .ok (.ireturn, 1) := by decide +kernel
theorem dX7_sum_81 : decode cX7_sum 81 = .ok (.aload_n 0, 1) := by decide +kernel
theorem dX7_sum_82 : decode cX7_sum 82 = .ok (.getfield 19, 3) := by decide +kernel
theorem dX7_sum_85 : decode cX7_sum 85 = .ok (.lload 4, 2) := by decide +kernel
theorem dX7_sum_87 : decode cX7_sum 87 = .ok (.invokevirtual 160, 3) := by decide +kernel
theorem dX7_sum_90 : decode cX7_sum 90 = .ok (.ireturn, 1) := by decide +kernel
theorem dX7_sum_91 : decode cX7_sum 91 = .ok (.lload 4, 2) := by decide +kernel
theorem dX7_sum_93 : decode cX7_sum 93 = .ok (.invokestatic 125, 3) := by decide +kernel
theorem dX7_sum_96 : decode cX7_sum 96 = .ok (.ireturn, 1) := by decide +kernel
theorem dX7_sum_97 : decode cX7_sum 97 = .ok (.iconst (-1), 1) := by decide +kernel
theorem dX7_sum_98 : decode cX7_sum 98 = .ok (.ireturn, 1) := by decide +kernel
theorem dX7_named_0 : decode cX7_named 0 = .ok (.aload_n 0, 1) := by decide +kernel
theorem dX7_named_1 : decode cX7_named 1 = .ok (.getfield 12, 3) := by decide +kernel
theorem dX7_named_4 : decode cX7_named 4 = .ok (.iload_n 1, 1) := by decide +kernel
theorem dX7_named_5 : decode cX7_named 5 = .ok (.invokevirtual 64, 3) := by decide +kernel
theorem dX7_named_8 : decode cX7_named 8 = .ok (.ifCond .eq 22, 3) := by decide +kernel
theorem dX7_named_11 : decode cX7_named 11 = .ok (.iload_n 2, 1) := by decide +kernel
theorem dX7_named_12 : decode cX7_named 12 = .ok (.invokestatic 68, 3) := by decide +kernel
theorem dX7_named_15 : decode cX7_named 15 = .ok (.ifCond .eq 15, 3) := by decide +kernel
theorem dX7_named_18 : decode cX7_named 18 = .ok (.aload_n 0, 1) := by decide +kernel
theorem dX7_named_19 : decode cX7_named 19 = .ok (.getfield 12, 3) := by decide +kernel
theorem dX7_named_22 : decode cX7_named 22 = .ok (.iload_n 1, 1) := by decide +kernel
theorem dX7_named_23 : decode cX7_named 23 = .ok (.iload_n 2, 1) := by decide +kernel
theorem dX7_named_24 : decode cX7_named 24 = .ok (.invokevirtual 163, 3) := by decide +kernel
theorem dX7_named_27 : decode cX7_named 27 = .ok (.ifCond .ne 5, 3) := by decide +kernel
theorem dX7_named_30 : decode cX7_named 30 = .ok (.iconst (-1), 1) := by decide +kernel
theorem dX7_named_31 : decode cX7_named 31 = .ok (.ireturn, 1) := by decide +kernel
theorem dX7_named_32 : decode cX7_named 32 = .ok (.aload_n 0, 1) := by decide +kernel
theorem dX7_named_33 : decode cX7_named 33 = .ok (.getfield 26, 3) := by decide +kernel
theorem dX7_named_36 : decode cX7_named 36 = .ok (.iload_n 1, 1) := by decide +kernel
theorem dX7_named_37 : decode cX7_named 37 = .ok (.iload_n 3, 1) := by decide +kernel
theorem dX7_named_38 : decode cX7_named 38 = .ok (.invokevirtual 166, 3) := by decide +kernel
theorem dX7_named_41 : decode cX7_named 41 = .ok (.ireturn, 1) := by decide +kernel
theorem dX7_snapshot_0 : decode cX7_snapshot 0 = .ok (.aload_n 0, 1) := by decide +kernel
theorem dX7_snapshot_1 : decode cX7_snapshot 1 = .ok (.getfield 33, 3) := by decide +kernel
theorem dX7_snapshot_4 : decode cX7_snapshot 4 = .ok (.aload_n 0, 1) := by decide +kernel
theorem dX7_snapshot_5 : decode cX7_snapshot 5 = .ok (.getfield 19, 3) := by decide +kernel
theorem dX7_snapshot_8 : decode cX7_snapshot 8 = .ok (.ldc2_w 131, 3) := by decide +kernel
theorem dX7_snapshot_11 : decode cX7_snapshot 11 = .ok (.invokevirtual 156, 3) := by decide +kernel
theorem dX7_snapshot_14 : decode cX7_snapshot 14 = .ok (.invokevirtual 169, 3) := by decide +kernel
theorem dX7_snapshot_17 : decode cX7_snapshot 17 = .ok (.ireturn, 1) := by decide +kernel
theorem dX7_drop_0 : decode cX7_drop 0 = .ok (.aload_n 0, 1) := by decide +kernel
theorem dX7_drop_1 : decode cX7_drop 1 = .ok (.iload_n 1, 1) := by decide +kernel
theorem dX7_drop_2 : decode cX7_drop 2 = .ok (.invokevirtual 171, 3) := by decide +kernel
theorem dX7_drop_5 : decode cX7_drop 5 = .ok (.istore_n 2, 1) := by decide +kernel
theorem dX7_drop_6 : decode cX7_drop 6 = .ok (.aload_n 0, 1) := by decide +kernel
theorem dX7_drop_7 : decode cX7_drop 7 = .ok (.getfield 33, 3) := by decide +kernel
theorem dX7_drop_10 : decode cX7_drop 10 = .ok (.iload_n 1, 1) := by decide +kernel
theorem dX7_drop_11 : decode cX7_drop 11 = .ok (.invokevirtual 174, 3) := by decide +kernel
theorem dX7_drop_14 : decode cX7_drop 14 = .ok (.iload_n 2, 1) := by decide +kernel
theorem dX7_drop_15 : decode cX7_drop 15 = .ok (.ireturn, 1) := by decide +kernel
theorem dX7_alone_0 : decode cX7_alone 0 = .ok (.aload_n 0, 1) := by decide +kernel
theorem dX7_alone_1 : decode cX7_alone 1 = .ok (.iload_n 1, 1) := by decide +kernel
theorem dX7_alone_2 : decode cX7_alone 2 = .ok (.invokevirtual 171, 3) := by decide +kernel
theorem dX7_alone_5 : decode cX7_alone 5 = .ok (.ireturn, 1) := by decide +kernel
theorem dX7_mark_0 : decode cX7_mark 0 = .ok (.aload_n 0, 1) := by decide +kernel
theorem dX7_mark_1 : decode cX7_mark 1 = .ok (.getfield 40, 3) := by decide +kernel
theorem dX7_mark_4 : decode cX7_mark 4 = .ok (.aload_n 0, 1) := by decide +kernel
theorem dX7_mark_5 : decode cX7_mark 5 = .ok (.getfield 51, 3) := by decide +kernel
theorem dX7_mark_8 : decode cX7_mark 8 = .ok (.invokevirtual 175, 3) := by decide +kernel
theorem dX7_mark_11 : decode cX7_mark 11 = .ok (.istore_n 1, 1) := by decide +kernel
theorem dX7_mark_12 : decode cX7_mark 12 = .ok (.iload_n 1, 1) := by decide +kernel
theorem dX7_mark_13 : decode cX7_mark 13 = .ok (.iconst (-1), 1) := by decide +kernel
theorem dX7_mark_14 : decode cX7_mark 14 = .ok (.if_icmp .eq 36, 3) := by decide +kernel
theorem dX7_mark_17 : decode cX7_mark 17 = .ok (.iconst 0, 1) := by decide +kernel
theorem dX7_mark_18 : decode cX7_mark 18 = .ok (.istore_n 2, 1) := by decide +kernel
theorem dX7_mark_19 : decode cX7_mark 19 = .ok (.iload_n 2, 1) := by decide +kernel
theorem dX7_mark_20 : decode cX7_mark 20 = .ok (.aload_n 0, 1) := by decide +kernel
theorem dX7_mark_21 : decode cX7_mark 21 = .ok (.getfield 12, 3) := by decide +kernel
theorem dX7_mark_24 : decode cX7_mark 24 = .ok (.getfield 177, 3) := by decide +kernel
theorem dX7_mark_27 : decode cX7_mark 27 = .ok (.if_icmp .ge 23, 3) := by decide +kernel
theorem dX7_mark_30 : decode cX7_mark 30 = .ok (.aload_n 0, 1) := by decide +kernel
theorem dX7_mark_31 : decode cX7_mark 31 = .ok (.getfield 40, 3) := by decide +kernel
theorem dX7_mark_34 : decode cX7_mark 34 = .ok (.iload_n 1, 1) := by decide +kernel
theorem dX7_mark_35 : decode cX7_mark 35 = .ok (.iload_n 2, 1) := by decide +kernel
theorem dX7_mark_36 : decode cX7_mark 36 = .ok (.aload_n 0, 1) := by decide +kernel
theorem dX7_mark_37 : decode cX7_mark 37 = .ok (.iload_n 2, 1) := by decide +kernel
theorem dX7_mark_38 : decode cX7_mark 38 = .ok (.invokevirtual 180, 3) := by decide +kernel
theorem dX7_mark_41 : decode cX7_mark 41 = .ok (.invokevirtual 183, 3) := by decide +kernel
theorem dX7_mark_44 : decode cX7_mark 44 = .ok (.iinc 2 1, 3) := by decide +kernel
theorem dX7_mark_47 : decode cX7_mark 47 = .ok (.goto (-28), 3) := by decide +kernel
theorem dX7_mark_50 : decode cX7_mark 50 = .ok (.iload_n 1, 1) := by decide +kernel
theorem dX7_mark_51 : decode cX7_mark 51 = .ok (.ireturn, 1) := by decide +kernel
theorem dX7_grew_0 : decode cX7_grew 0 = .ok (.aload_n 0, 1) := by decide +kernel
theorem dX7_grew_1 : decode cX7_grew 1 = .ok (.getfield 12, 3) := by decide +kernel
theorem dX7_grew_4 : decode cX7_grew 4 = .ok (.iload_n 1, 1) := by decide +kernel
theorem dX7_grew_5 : decode cX7_grew 5 = .ok (.invokevirtual 64, 3) := by decide +kernel
theorem dX7_grew_8 : decode cX7_grew 8 = .ok (.ifCond .eq 14, 3) := by decide +kernel
theorem dX7_grew_11 : decode cX7_grew 11 = .ok (.aload_n 0, 1) := by decide +kernel
theorem dX7_grew_12 : decode cX7_grew 12 = .ok (.getfield 40, 3) := by decide +kernel
theorem dX7_grew_15 : decode cX7_grew 15 = .ok (.iload_n 2, 1) := by decide +kernel
theorem dX7_grew_16 : decode cX7_grew 16 = .ok (.invokevirtual 186, 3) := by decide +kernel
theorem dX7_grew_19 : decode cX7_grew 19 = .ok (.ifCond .ne 6, 3) := by decide +kernel
theorem dX7_grew_22 : decode cX7_grew 22 = .ok (.ldc 187, 2) := by decide +kernel
theorem dX7_grew_24 : decode cX7_grew 24 = .ok (.ireturn, 1) := by decide +kernel
theorem dX7_grew_25 : decode cX7_grew 25 = .ok (.iload_n 3, 1) := by decide +kernel
theorem dX7_grew_26 : decode cX7_grew 26 = .ok (.iconst (-1), 1) := by decide +kernel
theorem dX7_grew_27 : decode cX7_grew 27 = .ok (.if_icmp .ne 19, 3) := by decide +kernel
theorem dX7_grew_30 : decode cX7_grew 30 = .ok (.aload_n 0, 1) := by decide +kernel
theorem dX7_grew_31 : decode cX7_grew 31 = .ok (.iload_n 1, 1) := by decide +kernel
theorem dX7_grew_32 : decode cX7_grew 32 = .ok (.invokevirtual 180, 3) := by decide +kernel
theorem dX7_grew_35 : decode cX7_grew 35 = .ok (.aload_n 0, 1) := by decide +kernel
theorem dX7_grew_36 : decode cX7_grew 36 = .ok (.getfield 40, 3) := by decide +kernel
theorem dX7_grew_39 : decode cX7_grew 39 = .ok (.iload_n 2, 1) := by decide +kernel
theorem dX7_grew_40 : decode cX7_grew 40 = .ok (.iload_n 1, 1) := by decide +kernel
theorem dX7_grew_41 : decode cX7_grew 41 = .ok (.invokevirtual 188, 3) := by decide +kernel
theorem dX7_grew_44 : decode cX7_grew 44 = .ok (.isub, 1) := by decide +kernel
theorem dX7_grew_45 : decode cX7_grew 45 = .ok (.ireturn, 1) := by decide +kernel
theorem dX7_grew_46 : decode cX7_grew 46 = .ok (.aload_n 0, 1) := by decide +kernel
theorem dX7_grew_47 : decode cX7_grew 47 = .ok (.getfield 40, 3) := by decide +kernel
theorem dX7_grew_50 : decode cX7_grew 50 = .ok (.iload_n 3, 1) := by decide +kernel
theorem dX7_grew_51 : decode cX7_grew 51 = .ok (.invokevirtual 186, 3) := by decide +kernel
theorem dX7_grew_54 : decode cX7_grew 54 = .ok (.ifCond .ne 6, 3) := by decide +kernel
theorem dX7_grew_57 : decode cX7_grew 57 = .ok (.ldc 187, 2) := by decide +kernel
theorem dX7_grew_59 : decode cX7_grew 59 = .ok (.ireturn, 1) := by decide +kernel
theorem dX7_grew_60 : decode cX7_grew 60 = .ok (.aload_n 0, 1) := by decide +kernel
theorem dX7_grew_61 : decode cX7_grew 61 = .ok (.getfield 40, 3) := by decide +kernel
theorem dX7_grew_64 : decode cX7_grew 64 = .ok (.iload_n 3, 1) := by decide +kernel
theorem dX7_grew_65 : decode cX7_grew 65 = .ok (.iload_n 1, 1) := by decide +kernel
theorem dX7_grew_66 : decode cX7_grew 66 = .ok (.invokevirtual 188, 3) := by decide +kernel
theorem dX7_grew_69 : decode cX7_grew 69 = .ok (.aload_n 0, 1) := by decide +kernel
theorem dX7_grew_70 : decode cX7_grew 70 = .ok (.getfield 40, 3) := by decide +kernel
theorem dX7_grew_73 : decode cX7_grew 73 = .ok (.iload_n 2, 1) := by decide +kernel
theorem dX7_grew_74 : decode cX7_grew 74 = .ok (.iload_n 1, 1) := by decide +kernel
theorem dX7_grew_75 : decode cX7_grew 75 = .ok (.invokevirtual 188, 3) := by decide +kernel
theorem dX7_grew_78 : decode cX7_grew 78 = .ok (.isub, 1) := by decide +kernel
theorem dX7_grew_79 : decode cX7_grew 79 = .ok (.ireturn, 1) := by decide +kernel
theorem dX7_freed_0 : decode cX7_freed 0 = .ok (.aload_n 0, 1) := by decide +kernel
theorem dX7_freed_1 : decode cX7_freed 1 = .ok (.getfield 12, 3) := by decide +kernel
theorem dX7_freed_4 : decode cX7_freed 4 = .ok (.iload_n 1, 1) := by decide +kernel
theorem dX7_freed_5 : decode cX7_freed 5 = .ok (.invokevirtual 64, 3) := by decide +kernel
theorem dX7_freed_8 : decode cX7_freed 8 = .ok (.ifCond .ne 5, 3) := by decide +kernel
theorem dX7_freed_11 : decode cX7_freed 11 = .ok (.iconst (-1), 1) := by decide +kernel
theorem dX7_freed_12 : decode cX7_freed 12 = .ok (.ireturn, 1) := by decide +kernel
theorem dX7_freed_13 : decode cX7_freed 13 = .ok (.aload_n 0, 1) := by decide +kernel
theorem dX7_freed_14 : decode cX7_freed 14 = .ok (.getfield 12, 3) := by decide +kernel
theorem dX7_freed_17 : decode cX7_freed 17 = .ok (.iload_n 1, 1) := by decide +kernel
theorem dX7_freed_18 : decode cX7_freed 18 = .ok (.invokevirtual 191, 3) := by decide +kernel
theorem dX7_freed_21 : decode cX7_freed 21 = .ok (.istore_n 2, 1) := by decide +kernel
theorem dX7_freed_22 : decode cX7_freed 22 = .ok (.aload_n 0, 1) := by decide +kernel
theorem dX7_freed_23 : decode cX7_freed 23 = .ok (.getfield 26, 3) := by decide +kernel
theorem dX7_freed_26 : decode cX7_freed 26 = .ok (.iload_n 2, 1) := by decide +kernel
theorem dX7_freed_27 : decode cX7_freed 27 = .ok (.invokevirtual 194, 3) := by decide +kernel
theorem dX7_freed_30 : decode cX7_freed 30 = .ok (.aload_n 0, 1) := by decide +kernel
theorem dX7_freed_31 : decode cX7_freed 31 = .ok (.getfield 26, 3) := by decide +kernel
theorem dX7_freed_34 : decode cX7_freed 34 = .ok (.iload_n 2, 1) := by decide +kernel
theorem dX7_freed_35 : decode cX7_freed 35 = .ok (.iconst (-1), 1) := by decide +kernel
theorem dX7_freed_36 : decode cX7_freed 36 = .ok (.ixor, 1) := by decide +kernel
theorem dX7_freed_37 : decode cX7_freed 37 = .ok (.invokevirtual 194, 3) := by decide +kernel
theorem dX7_freed_40 : decode cX7_freed 40 = .ok (.ldc2_w 131, 3) := by decide +kernel
theorem dX7_freed_43 : decode cX7_freed 43 = .ok (.lxor, 1) := by decide +kernel
theorem dX7_freed_44 : decode cX7_freed 44 = .ok (.land, 1) := by decide +kernel
theorem dX7_freed_45 : decode cX7_freed 45 = .ok (.lstore_n 3, 1) := by decide +kernel
theorem dX7_freed_46 : decode cX7_freed 46 = .ok (.aload_n 0, 1) := by decide +kernel
theorem dX7_freed_47 : decode cX7_freed 47 = .ok (.lload_n 3, 1) := by decide +kernel
theorem dX7_freed_48 : decode cX7_freed 48 = .ok (.invokevirtual 197, 3) := by decide +kernel
theorem dX7_freed_51 : decode cX7_freed 51 = .ok (.invokestatic 125, 3) := by decide +kernel
theorem dX7_freed_54 : decode cX7_freed 54 = .ok (.ireturn, 1) := by decide +kernel
theorem dX7_both_0 : decode cX7_both 0 = .ok (.aload_n 0, 1) := by decide +kernel
theorem dX7_both_1 : decode cX7_both 1 = .ok (.getfield 19, 3) := by decide +kernel
theorem dX7_both_4 : decode cX7_both 4 = .ok (.iload_n 1, 1) := by decide +kernel
theorem dX7_both_5 : decode cX7_both 5 = .ok (.invokevirtual 101, 3) := by decide +kernel
theorem dX7_both_8 : decode cX7_both 8 = .ok (.ifnull 14, 3) := by decide +kernel
theorem dX7_both_11 : decode cX7_both 11 = .ok (.aload_n 0, 1) := by decide +kernel
theorem dX7_both_12 : decode cX7_both 12 = .ok (.getfield 19, 3) := by decide +kernel
theorem dX7_both_15 : decode cX7_both 15 = .ok (.iload_n 2, 1) := by decide +kernel
theorem dX7_both_16 : decode cX7_both 16 = .ok (.invokevirtual 101, 3) := by decide +kernel
theorem dX7_both_19 : decode cX7_both 19 = .ok (.ifnonnull 5, 3) := by decide +kernel
theorem dX7_both_22 : decode cX7_both 22 = .ok (.iconst (-1), 1) := by decide +kernel
theorem dX7_both_23 : decode cX7_both 23 = .ok (.ireturn, 1) := by decide +kernel
theorem dX7_both_24 : decode cX7_both 24 = .ok (.aload_n 0, 1) := by decide +kernel
theorem dX7_both_25 : decode cX7_both 25 = .ok (.lconst 1, 1) := by decide +kernel
theorem dX7_both_26 : decode cX7_both 26 = .ok (.iload_n 1, 1) := by decide +kernel
theorem dX7_both_27 : decode cX7_both 27 = .ok (.lshl, 1) := by decide +kernel
theorem dX7_both_28 : decode cX7_both 28 = .ok (.lconst 1, 1) := by decide +kernel
theorem dX7_both_29 : decode cX7_both 29 = .ok (.iload_n 2, 1) := by decide +kernel
theorem dX7_both_30 : decode cX7_both 30 = .ok (.lshl, 1) := by decide +kernel
theorem dX7_both_31 : decode cX7_both 31 = .ok (.lor, 1) := by decide +kernel
theorem dX7_both_32 : decode cX7_both 32 = .ok (.invokevirtual 197, 3) := by decide +kernel
theorem dX7_both_35 : decode cX7_both 35 = .ok (.invokestatic 125, 3) := by decide +kernel
theorem dX7_both_38 : decode cX7_both 38 = .ok (.ireturn, 1) := by decide +kernel
theorem dX7_plan_0 : decode cX7_plan 0 = .ok (.aload_n 0, 1) := by decide +kernel
theorem dX7_plan_1 : decode cX7_plan 1 = .ok (.iload_n 1, 1) := by decide +kernel
theorem dX7_plan_2 : decode cX7_plan 2 = .ok (.iload_n 2, 1) := by decide +kernel
theorem dX7_plan_3 : decode cX7_plan 3 = .ok (.invokevirtual 200, 3) := by decide +kernel
theorem dX7_plan_6 : decode cX7_plan 6 = .ok (.ifCond .eq 13, 3) := by decide +kernel
theorem dX7_plan_9 : decode cX7_plan 9 = .ok (.aload_n 0, 1) := by decide +kernel
theorem dX7_plan_10 : decode cX7_plan 10 = .ok (.getfield 47, 3) := by decide +kernel
theorem dX7_plan_13 : decode cX7_plan 13 = .ok (.getfield 203, 3) := by decide +kernel
theorem dX7_plan_16 : decode cX7_plan 16 = .ok (.goto 4, 3) := by decide +kernel
theorem dX7_plan_19 : decode cX7_plan 19 = .ok (.iconst (-1), 1) := by decide +kernel
theorem dX7_plan_20 : decode cX7_plan 20 = .ok (.ireturn, 1) := by decide +kernel
theorem dX7_planned_0 : decode cX7_planned 0 = .ok (.aload_n 0, 1) := by decide +kernel
theorem dX7_planned_1 : decode cX7_planned 1 = .ok (.iload_n 1, 1) := by decide +kernel
theorem dX7_planned_2 : decode cX7_planned 2 = .ok (.iload_n 2, 1) := by decide +kernel
theorem dX7_planned_3 : decode cX7_planned 3 = .ok (.invokevirtual 200, 3) := by decide +kernel
theorem dX7_planned_6 : decode cX7_planned 6 = .ok (.ifCond .eq 19, 3) := by decide +kernel
theorem dX7_planned_9 : decode cX7_planned 9 = .ok (.aload_n 0, 1) := by decide +kernel
theorem dX7_planned_10 : decode cX7_planned 10 = .ok (.getfield 47, 3) := by decide +kernel
theorem dX7_planned_13 : decode cX7_planned 13 = .ok (.getfield 206, 3) := by decide +kernel
theorem dX7_planned_16 : decode cX7_planned 16 = .ok (.iload_n 3, 1) := by decide +kernel
theorem dX7_planned_17 : decode cX7_planned 17 = .ok (.bipush 40, 2) := by decide +kernel
theorem dX7_planned_19 : decode cX7_planned 19 = .ok (.invokestatic 133, 3) := by decide +kernel
theorem dX7_planned_22 : decode cX7_planned 22 = .ok (.goto 4, 3) := by decide +kernel
theorem dX7_planned_25 : decode cX7_planned 25 = .ok (.iconst (-1), 1) := by decide +kernel
theorem dX7_planned_26 : decode cX7_planned 26 = .ok (.ireturn, 1) := by decide +kernel
theorem dX7_largest_0 : decode cX7_largest 0 = .ok (.aload_n 0, 1) := by decide +kernel
theorem dX7_largest_1 : decode cX7_largest 1 = .ok (.getfield 12, 3) := by decide +kernel
theorem dX7_largest_4 : decode cX7_largest 4 = .ok (.iload_n 1, 1) := by decide +kernel
theorem dX7_largest_5 : decode cX7_largest 5 = .ok (.invokevirtual 64, 3) := by decide +kernel
theorem dX7_largest_8 : decode cX7_largest 8 = .ok (.ifCond .ne 5, 3) := by decide +kernel
theorem dX7_largest_11 : decode cX7_largest 11 = .ok (.iconst (-1), 1) := by decide +kernel
theorem dX7_largest_12 : decode cX7_largest 12 = .ok (.ireturn, 1) := by decide +kernel
theorem dX7_largest_13 : decode cX7_largest 13 = .ok (.aload_n 0, 1) := by decide +kernel
theorem dX7_largest_14 : decode cX7_largest 14 = .ok (.getfield 19, 3) := by decide +kernel
theorem dX7_largest_17 : decode cX7_largest 17 = .ok (.aload_n 0, 1) := by decide +kernel
theorem dX7_largest_18 : decode cX7_largest 18 = .ok (.iload_n 1, 1) := by decide +kernel
theorem dX7_largest_19 : decode cX7_largest 19 = .ok (.invokevirtual 152, 3) := by decide +kernel
theorem dX7_largest_22 : decode cX7_largest 22 = .ok (.iload_n 2, 1) := by decide +kernel
theorem dX7_largest_23 : decode cX7_largest 23 = .ok (.invokevirtual 210, 3) := by decide +kernel
theorem dX7_largest_26 : decode cX7_largest 26 = .ok (.ireturn, 1) := by decide +kernel
theorem dX7_holds_0 : decode cX7_holds 0 = .ok (.iload_n 1, 1) := by decide +kernel
theorem dX7_holds_1 : decode cX7_holds 1 = .ok (.iconst 1, 1) := by decide +kernel
theorem dX7_holds_2 : decode cX7_holds 2 = .ok (.if_icmp .lt 20, 3) := by decide +kernel
theorem dX7_holds_5 : decode cX7_holds 5 = .ok (.iload_n 1, 1) := by decide +kernel
theorem dX7_holds_6 : decode cX7_holds 6 = .ok (.bipush 60, 2) := by decide +kernel
theorem dX7_holds_8 : decode cX7_holds 8 = .ok (.if_icmp .gt 14, 3) := by decide +kernel
theorem dX7_holds_11 : decode cX7_holds 11 = .ok (.aload_n 0, 1) := by decide +kernel
theorem dX7_holds_12 : decode cX7_holds 12 = .ok (.invokevirtual 121, 3) := by decide +kernel
theorem dX7_holds_15 : decode cX7_holds 15 = .ok (.invokestatic 125, 3) := by decide +kernel
theorem dX7_holds_18 : decode cX7_holds 18 = .ok (.iload_n 1, 1) := by decide +kernel
theorem dX7_holds_19 : decode cX7_holds 19 = .ok (.if_icmp .le 5, 3) := by decide +kernel
theorem dX7_holds_22 : decode cX7_holds 22 = .ok (.iconst 0, 1) := by decide +kernel
theorem dX7_holds_23 : decode cX7_holds 23 = .ok (.ireturn, 1) := by decide +kernel
theorem dX7_holds_24 : decode cX7_holds 24 = .ok (.aload_n 0, 1) := by decide +kernel
theorem dX7_holds_25 : decode cX7_holds 25 = .ok (.iload_n 1, 1) := by decide +kernel
theorem dX7_holds_26 : decode cX7_holds 26 = .ok (.putfield 55, 3) := by decide +kernel
theorem dX7_holds_29 : decode cX7_holds 29 = .ok (.iconst 1, 1) := by decide +kernel
theorem dX7_holds_30 : decode cX7_holds 30 = .ok (.ireturn, 1) := by decide +kernel
theorem dX7_full_0 : decode cX7_full 0 = .ok (.iload_n 1, 1) := by decide +kernel
theorem dX7_full_1 : decode cX7_full 1 = .ok (.lookupswitch 51 #[(0, 27), (1, 39)], 27) := by decide +kernel
theorem dX7_full_28 : decode cX7_full 28 = .ok (.aload_n 0, 1) := by decide +kernel
theorem dX7_full_29 : decode cX7_full 29 = .ok (.aload_n 0, 1) := by decide +kernel
theorem dX7_full_30 : decode cX7_full 30 = .ok (.getfield 40, 3) := by decide +kernel
theorem dX7_full_33 : decode cX7_full 33 = .ok (.invokevirtual 214, 3) := by decide +kernel
theorem dX7_full_36 : decode cX7_full 36 = .ok (.invokevirtual 218, 3) := by decide +kernel
theorem dX7_full_39 : decode cX7_full 39 = .ok (.ireturn, 1) := by decide +kernel
theorem dX7_full_40 : decode cX7_full 40 = .ok (.aload_n 0, 1) := by decide +kernel
theorem dX7_full_41 : decode cX7_full 41 = .ok (.aload_n 0, 1) := by decide +kernel
theorem dX7_full_42 : decode cX7_full 42 = .ok (.getfield 40, 3) := by decide +kernel
theorem dX7_full_45 : decode cX7_full 45 = .ok (.invokevirtual 221, 3) := by decide +kernel
theorem dX7_full_48 : decode cX7_full 48 = .ok (.invokevirtual 218, 3) := by decide +kernel
theorem dX7_full_51 : decode cX7_full 51 = .ok (.ireturn, 1) := by decide +kernel
theorem dX7_full_52 : decode cX7_full 52 = .ok (.iconst (-1), 1) := by decide +kernel
theorem dX7_full_53 : decode cX7_full 53 = .ok (.ireturn, 1) := by decide +kernel
theorem dX7_told_0 : decode cX7_told 0 = .ok (.aload_n 0, 1) := by decide +kernel
theorem dX7_told_1 : decode cX7_told 1 = .ok (.getfield 19, 3) := by decide +kernel
theorem dX7_told_4 : decode cX7_told 4 = .ok (.iload_n 1, 1) := by decide +kernel
theorem dX7_told_5 : decode cX7_told 5 = .ok (.invokevirtual 101, 3) := by decide +kernel
theorem dX7_told_8 : decode cX7_told 8 = .ok (.astore_n 3, 1) := by decide +kernel
theorem dX7_told_9 : decode cX7_told 9 = .ok (.aload_n 3, 1) := by decide +kernel
theorem dX7_told_10 : decode cX7_told 10 = .ok (.ifnonnull 5, 3) := by decide +kernel
theorem dX7_told_13 : decode cX7_told 13 = .ok (.iconst (-1), 1) := by decide +kernel
theorem dX7_told_14 : decode cX7_told 14 = .ok (.ireturn, 1) := by decide +kernel
theorem dX7_told_15 : decode cX7_told 15 = .ok (.iload_n 2, 1) := by decide +kernel
theorem dX7_told_16 : decode cX7_told 16 = .ok (.tableswitch 86 0 6 #[44, 49, 54, 59, 64, 73, 81], 44) := by decide +kernel
theorem dX7_told_60 : decode cX7_told 60 = .ok (.aload_n 3, 1) := by decide +kernel
theorem dX7_told_61 : decode cX7_told 61 = .ok (.getfield 143, 3) := by decide +kernel
theorem dX7_told_64 : decode cX7_told 64 = .ok (.ireturn, 1) := by decide +kernel
theorem dX7_told_65 : decode cX7_told 65 = .ok (.aload_n 3, 1) := by decide +kernel
theorem dX7_told_66 : decode cX7_told 66 = .ok (.getfield 224, 3) := by decide +kernel
theorem dX7_told_69 : decode cX7_told 69 = .ok (.ireturn, 1) := by decide +kernel
theorem dX7_told_70 : decode cX7_told 70 = .ok (.aload_n 3, 1) := by decide +kernel
theorem dX7_told_71 : decode cX7_told 71 = .ok (.getfield 227, 3) := by decide +kernel
theorem dX7_told_74 : decode cX7_told 74 = .ok (.ireturn, 1) := by decide +kernel
theorem dX7_told_75 : decode cX7_told 75 = .ok (.aload_n 3, 1) := by decide +kernel
theorem dX7_told_76 : decode cX7_told 76 = .ok (.getfield 230, 3) := by decide +kernel
theorem dX7_told_79 : decode cX7_told 79 = .ok (.ireturn, 1) := by decide +kernel
theorem dX7_told_80 : decode cX7_told 80 = .ok (.aload_n 0, 1) := by decide +kernel
theorem dX7_told_81 : decode cX7_told 81 = .ok (.getfield 26, 3) := by decide +kernel
theorem dX7_told_84 : decode cX7_told 84 = .ok (.iload_n 1, 1) := by decide +kernel
theorem dX7_told_85 : decode cX7_told 85 = .ok (.invokevirtual 112, 3) := by decide +kernel
theorem dX7_told_88 : decode cX7_told 88 = .ok (.ireturn, 1) := by decide +kernel
theorem dX7_told_89 : decode cX7_told 89 = .ok (.aload_n 3, 1) := by decide +kernel
theorem dX7_told_90 : decode cX7_told 90 = .ok (.getfield 233, 3) := by decide +kernel
theorem dX7_told_93 : decode cX7_told 93 = .ok (.invokestatic 125, 3) := by decide +kernel
theorem dX7_told_96 : decode cX7_told 96 = .ok (.ireturn, 1) := by decide +kernel
theorem dX7_told_97 : decode cX7_told 97 = .ok (.aload_n 3, 1) := by decide +kernel
theorem dX7_told_98 : decode cX7_told 98 = .ok (.invokevirtual 236, 3) := by decide +kernel
theorem dX7_told_101 : decode cX7_told 101 = .ok (.ireturn, 1) := by decide +kernel
theorem dX7_told_102 : decode cX7_told 102 = .ok (.iconst (-1), 1) := by decide +kernel
theorem dX7_told_103 : decode cX7_told 103 = .ok (.ireturn, 1) := by decide +kernel
theorem dX7_count_0 : decode cX7_count 0 = .ok (.iload_n 1, 1) := by decide +kernel
theorem dX7_count_1 : decode cX7_count 1 = .ok (.tableswitch 105 0 7 #[47, 52, 60, 68, 76, 84, 92, 100], 47) := by decide +kernel
theorem dX7_count_48 : decode cX7_count 48 = .ok (.aload_n 0, 1) := by decide +kernel
theorem dX7_count_49 : decode cX7_count 49 = .ok (.getfield 51, 3) := by decide +kernel
theorem dX7_count_52 : decode cX7_count 52 = .ok (.ireturn, 1) := by decide +kernel
theorem dX7_count_53 : decode cX7_count 53 = .ok (.aload_n 0, 1) := by decide +kernel
theorem dX7_count_54 : decode cX7_count 54 = .ok (.getfield 12, 3) := by decide +kernel
theorem dX7_count_57 : decode cX7_count 57 = .ok (.getfield 177, 3) := by decide +kernel
theorem dX7_count_60 : decode cX7_count 60 = .ok (.ireturn, 1) := by decide +kernel
theorem dX7_count_61 : decode cX7_count 61 = .ok (.aload_n 0, 1) := by decide +kernel
theorem dX7_count_62 : decode cX7_count 62 = .ok (.getfield 19, 3) := by decide +kernel
theorem dX7_count_65 : decode cX7_count 65 = .ok (.invokevirtual 239, 3) := by decide +kernel
theorem dX7_count_68 : decode cX7_count 68 = .ok (.ireturn, 1) := by decide +kernel
theorem dX7_count_69 : decode cX7_count 69 = .ok (.aload_n 0, 1) := by decide +kernel
theorem dX7_count_70 : decode cX7_count 70 = .ok (.getfield 26, 3) := by decide +kernel
theorem dX7_count_73 : decode cX7_count 73 = .ok (.invokevirtual 242, 3) := by decide +kernel
theorem dX7_count_76 : decode cX7_count 76 = .ok (.ireturn, 1) := by decide +kernel
theorem dX7_count_77 : decode cX7_count 77 = .ok (.aload_n 0, 1) := by decide +kernel
theorem dX7_count_78 : decode cX7_count 78 = .ok (.getfield 33, 3) := by decide +kernel
theorem dX7_count_81 : decode cX7_count 81 = .ok (.invokevirtual 243, 3) := by decide +kernel
theorem dX7_count_84 : decode cX7_count 84 = .ok (.ireturn, 1) := by decide +kernel
theorem dX7_count_85 : decode cX7_count 85 = .ok (.aload_n 0, 1) := by decide +kernel
theorem dX7_count_86 : decode cX7_count 86 = .ok (.getfield 40, 3) := by decide +kernel
theorem dX7_count_89 : decode cX7_count 89 = .ok (.getfield 244, 3) := by decide +kernel
theorem dX7_count_92 : decode cX7_count 92 = .ok (.ireturn, 1) := by decide +kernel
theorem dX7_count_93 : decode cX7_count 93 = .ok (.aload_n 0, 1) := by decide +kernel
theorem dX7_count_94 : decode cX7_count 94 = .ok (.invokevirtual 121, 3) := by decide +kernel
theorem dX7_count_97 : decode cX7_count 97 = .ok (.invokestatic 125, 3) := by decide +kernel
theorem dX7_count_100 : decode cX7_count 100 = .ok (.ireturn, 1) := by decide +kernel
theorem dX7_count_101 : decode cX7_count 101 = .ok (.aload_n 0, 1) := by decide +kernel
theorem dX7_count_102 : decode cX7_count 102 = .ok (.getfield 55, 3) := by decide +kernel
theorem dX7_count_105 : decode cX7_count 105 = .ok (.ireturn, 1) := by decide +kernel
theorem dX7_count_106 : decode cX7_count 106 = .ok (.iconst (-1), 1) := by decide +kernel
theorem dX7_count_107 : decode cX7_count 107 = .ok (.ireturn, 1) := by decide +kernel
theorem dX7_canTakeFile_0 : decode cX7_canTakeFile 0 = .ok (.aload_n 0, 1) := by decide +kernel
theorem dX7_canTakeFile_1 : decode cX7_canTakeFile 1 = .ok (.getfield 19, 3) := by decide +kernel
theorem dX7_canTakeFile_4 : decode cX7_canTakeFile 4 = .ok (.invokevirtual 249, 3) := by decide +kernel
theorem dX7_canTakeFile_7 : decode cX7_canTakeFile 7 = .ok (.ifCond .eq 17, 3) := by decide +kernel
theorem dX7_canTakeFile_10 : decode cX7_canTakeFile 10 = .ok (.aload_n 0, 1) := by decide +kernel
theorem dX7_canTakeFile_11 : decode cX7_canTakeFile 11 = .ok (.getfield 26, 3) := by decide +kernel
theorem dX7_canTakeFile_14 : decode cX7_canTakeFile 14 = .ok (.invokevirtual 252, 3) := by decide +kernel
theorem dX7_canTakeFile_17 : decode cX7_canTakeFile 17 = .ok (.ifCond .eq 7, 3) := by decide +kernel
theorem dX7_canTakeFile_20 : decode cX7_canTakeFile 20 = .ok (.iconst 1, 1) := by decide +kernel
theorem dX7_canTakeFile_21 : decode cX7_canTakeFile 21 = .ok (.goto 4, 3) := by decide +kernel
theorem dX7_canTakeFile_24 : decode cX7_canTakeFile 24 = .ok (.iconst 0, 1) := by decide +kernel
theorem dX7_canTakeFile_25 : decode cX7_canTakeFile 25 = .ok (.ireturn, 1) := by decide +kernel
theorem dX7_filesOfTree_0 : decode cX7_filesOfTree 0 = .ok (.aload_n 0, 1) := by decide +kernel
theorem dX7_filesOfTree_1 : decode cX7_filesOfTree 1 = .ok (.getfield 26, 3) := by decide +kernel
theorem dX7_filesOfTree_4 : decode cX7_filesOfTree 4 = .ok (.aload_n 0, 1) := by decide +kernel
theorem dX7_filesOfTree_5 : decode cX7_filesOfTree 5 = .ok (.getfield 12, 3) := by decide +kernel
theorem dX7_filesOfTree_8 : decode cX7_filesOfTree 8 = .ok (.iload_n 1, 1) := by decide +kernel
theorem dX7_filesOfTree_9 : decode cX7_filesOfTree 9 = .ok (.invokevirtual 191, 3) := by decide +kernel
theorem dX7_filesOfTree_12 : decode cX7_filesOfTree 12 = .ok (.invokevirtual 194, 3) := by decide +kernel
theorem dX7_filesOfTree_15 : decode cX7_filesOfTree 15 = .ok (.lreturn, 1) := by decide +kernel
theorem dX7_takenBy_0 : decode cX7_takenBy 0 = .ok (.aload_n 0, 1) := by decide +kernel
theorem dX7_takenBy_1 : decode cX7_takenBy 1 = .ok (.getfield 19, 3) := by decide +kernel
theorem dX7_takenBy_4 : decode cX7_takenBy 4 = .ok (.aload_n 0, 1) := by decide +kernel
theorem dX7_takenBy_5 : decode cX7_takenBy 5 = .ok (.iload_n 1, 1) := by decide +kernel
theorem dX7_takenBy_6 : decode cX7_takenBy 6 = .ok (.invokevirtual 152, 3) := by decide +kernel
theorem dX7_takenBy_9 : decode cX7_takenBy 9 = .ok (.invokevirtual 156, 3) := by decide +kernel
theorem dX7_takenBy_12 : decode cX7_takenBy 12 = .ok (.invokestatic 125, 3) := by decide +kernel
theorem dX7_takenBy_15 : decode cX7_takenBy 15 = .ok (.ireturn, 1) := by decide +kernel
theorem dX7_blocksHad_0 : decode cX7_blocksHad 0 = .ok (.aload_n 0, 1) := by decide +kernel
theorem dX7_blocksHad_1 : decode cX7_blocksHad 1 = .ok (.getfield 19, 3) := by decide +kernel
theorem dX7_blocksHad_4 : decode cX7_blocksHad 4 = .ok (.ldc2_w 131, 3) := by decide +kernel
theorem dX7_blocksHad_7 : decode cX7_blocksHad 7 = .ok (.invokevirtual 156, 3) := by decide +kernel
theorem dX7_blocksHad_10 : decode cX7_blocksHad 10 = .ok (.aload_n 0, 1) := by decide +kernel
theorem dX7_blocksHad_11 : decode cX7_blocksHad 11 = .ok (.getfield 33, 3) := by decide +kernel
theorem dX7_blocksHad_14 : decode cX7_blocksHad 14 = .ok (.iconst (-1), 1) := by decide +kernel
theorem dX7_blocksHad_15 : decode cX7_blocksHad 15 = .ok (.invokevirtual 253, 3) := by decide +kernel
theorem dX7_blocksHad_18 : decode cX7_blocksHad 18 = .ok (.lor, 1) := by decide +kernel
theorem dX7_blocksHad_19 : decode cX7_blocksHad 19 = .ok (.lreturn, 1) := by decide +kernel
theorem dX7_blocksFreedBy_0 : decode cX7_blocksFreedBy 0 = .ok (.aload_n 0, 1) := by decide +kernel
theorem dX7_blocksFreedBy_1 : decode cX7_blocksFreedBy 1 = .ok (.getfield 19, 3) := by decide +kernel
theorem dX7_blocksFreedBy_4 : decode cX7_blocksFreedBy 4 = .ok (.lload_n 1, 1) := by decide +kernel
theorem dX7_blocksFreedBy_5 : decode cX7_blocksFreedBy 5 = .ok (.invokevirtual 156, 3) := by decide +kernel
theorem dX7_blocksFreedBy_8 : decode cX7_blocksFreedBy 8 = .ok (.aload_n 0, 1) := by decide +kernel
theorem dX7_blocksFreedBy_9 : decode cX7_blocksFreedBy 9 = .ok (.getfield 19, 3) := by decide +kernel
theorem dX7_blocksFreedBy_12 : decode cX7_blocksFreedBy 12 = .ok (.lload_n 1, 1) := by decide +kernel
theorem dX7_blocksFreedBy_13 : decode cX7_blocksFreedBy 13 = .ok (.ldc2_w 131, 3) := by decide +kernel
theorem dX7_blocksFreedBy_16 : decode cX7_blocksFreedBy 16 = .ok (.lxor, 1) := by decide +kernel
theorem dX7_blocksFreedBy_17 : decode cX7_blocksFreedBy 17 = .ok (.invokevirtual 156, 3) := by decide +kernel
theorem dX7_blocksFreedBy_20 : decode cX7_blocksFreedBy 20 = .ok (.ldc2_w 131, 3) := by decide +kernel
theorem dX7_blocksFreedBy_23 : decode cX7_blocksFreedBy 23 = .ok (.lxor, 1) := by decide +kernel
theorem dX7_blocksFreedBy_24 : decode cX7_blocksFreedBy 24 = .ok (.land, 1) := by decide +kernel
theorem dX7_blocksFreedBy_25 : decode cX7_blocksFreedBy 25 = .ok (.aload_n 0, 1) := by decide +kernel
theorem dX7_blocksFreedBy_26 : decode cX7_blocksFreedBy 26 = .ok (.getfield 33, 3) := by decide +kernel
theorem dX7_blocksFreedBy_29 : decode cX7_blocksFreedBy 29 = .ok (.iconst (-1), 1) := by decide +kernel
theorem dX7_blocksFreedBy_30 : decode cX7_blocksFreedBy 30 = .ok (.invokevirtual 253, 3) := by decide +kernel
theorem dX7_blocksFreedBy_33 : decode cX7_blocksFreedBy 33 = .ok (.ldc2_w 131, 3) := by decide +kernel
theorem dX7_blocksFreedBy_36 : decode cX7_blocksFreedBy 36 = .ok (.lxor, 1) := by decide +kernel
theorem dX7_blocksFreedBy_37 : decode cX7_blocksFreedBy 37 = .ok (.land, 1) := by decide +kernel
theorem dX7_blocksFreedBy_38 : decode cX7_blocksFreedBy 38 = .ok (.lreturn, 1) := by decide +kernel
theorem dX7_heldAlone_0 : decode cX7_heldAlone 0 = .ok (.aload_n 0, 1) := by decide +kernel
theorem dX7_heldAlone_1 : decode cX7_heldAlone 1 = .ok (.getfield 33, 3) := by decide +kernel
theorem dX7_heldAlone_4 : decode cX7_heldAlone 4 = .ok (.iload_n 1, 1) := by decide +kernel
theorem dX7_heldAlone_5 : decode cX7_heldAlone 5 = .ok (.invokevirtual 256, 3) := by decide +kernel
theorem dX7_heldAlone_8 : decode cX7_heldAlone 8 = .ok (.ifCond .ne 5, 3) := by decide +kernel
theorem dX7_heldAlone_11 : decode cX7_heldAlone 11 = .ok (.iconst (-1), 1) := by decide +kernel
theorem dX7_heldAlone_12 : decode cX7_heldAlone 12 = .ok (.ireturn, 1) := by decide +kernel
theorem dX7_heldAlone_13 : decode cX7_heldAlone 13 = .ok (.aload_n 0, 1) := by decide +kernel
theorem dX7_heldAlone_14 : decode cX7_heldAlone 14 = .ok (.getfield 19, 3) := by decide +kernel
theorem dX7_heldAlone_17 : decode cX7_heldAlone 17 = .ok (.ldc2_w 131, 3) := by decide +kernel
theorem dX7_heldAlone_20 : decode cX7_heldAlone 20 = .ok (.invokevirtual 156, 3) := by decide +kernel
theorem dX7_heldAlone_23 : decode cX7_heldAlone 23 = .ok (.aload_n 0, 1) := by decide +kernel
theorem dX7_heldAlone_24 : decode cX7_heldAlone 24 = .ok (.getfield 33, 3) := by decide +kernel
theorem dX7_heldAlone_27 : decode cX7_heldAlone 27 = .ok (.iload_n 1, 1) := by decide +kernel
theorem dX7_heldAlone_28 : decode cX7_heldAlone 28 = .ok (.invokevirtual 253, 3) := by decide +kernel
theorem dX7_heldAlone_31 : decode cX7_heldAlone 31 = .ok (.lor, 1) := by decide +kernel
theorem dX7_heldAlone_32 : decode cX7_heldAlone 32 = .ok (.lstore_n 2, 1) := by decide +kernel
theorem dX7_heldAlone_33 : decode cX7_heldAlone 33 = .ok (.aload_n 0, 1) := by decide +kernel
theorem dX7_heldAlone_34 : decode cX7_heldAlone 34 = .ok (.getfield 33, 3) := by decide +kernel
theorem dX7_heldAlone_37 : decode cX7_heldAlone 37 = .ok (.iload_n 1, 1) := by decide +kernel
theorem dX7_heldAlone_38 : decode cX7_heldAlone 38 = .ok (.invokevirtual 257, 3) := by decide +kernel
theorem dX7_heldAlone_41 : decode cX7_heldAlone 41 = .ok (.lload_n 2, 1) := by decide +kernel
theorem dX7_heldAlone_42 : decode cX7_heldAlone 42 = .ok (.ldc2_w 131, 3) := by decide +kernel
theorem dX7_heldAlone_45 : decode cX7_heldAlone 45 = .ok (.lxor, 1) := by decide +kernel
theorem dX7_heldAlone_46 : decode cX7_heldAlone 46 = .ok (.land, 1) := by decide +kernel
theorem dX7_heldAlone_47 : decode cX7_heldAlone 47 = .ok (.invokestatic 125, 3) := by decide +kernel
theorem dX7_heldAlone_50 : decode cX7_heldAlone 50 = .ok (.ireturn, 1) := by decide +kernel
theorem dX7_findPlan_0 : decode cX7_findPlan 0 = .ok (.aload_n 0, 1) := by decide +kernel
theorem dX7_findPlan_1 : decode cX7_findPlan 1 = .ok (.getfield 12, 3) := by decide +kernel
theorem dX7_findPlan_4 : decode cX7_findPlan 4 = .ok (.iload_n 1, 1) := by decide +kernel
theorem dX7_findPlan_5 : decode cX7_findPlan 5 = .ok (.invokevirtual 64, 3) := by decide +kernel
theorem dX7_findPlan_8 : decode cX7_findPlan 8 = .ok (.ifCond .eq 14, 3) := by decide +kernel
theorem dX7_findPlan_11 : decode cX7_findPlan 11 = .ok (.iload_n 2, 1) := by decide +kernel
theorem dX7_findPlan_12 : decode cX7_findPlan 12 = .ok (.iconst 1, 1) := by decide +kernel
theorem dX7_findPlan_13 : decode cX7_findPlan 13 = .ok (.if_icmp .lt 9, 3) := by decide +kernel
theorem dX7_findPlan_16 : decode cX7_findPlan 16 = .ok (.iload_n 2, 1) := by decide +kernel
theorem dX7_findPlan_17 : decode cX7_findPlan 17 = .ok (.bipush 60, 2) := by decide +kernel
theorem dX7_findPlan_19 : decode cX7_findPlan 19 = .ok (.if_icmp .le 5, 3) := by decide +kernel
theorem dX7_findPlan_22 : decode cX7_findPlan 22 = .ok (.iconst 0, 1) := by decide +kernel
theorem dX7_findPlan_23 : decode cX7_findPlan 23 = .ok (.ireturn, 1) := by decide +kernel
theorem dX7_findPlan_24 : decode cX7_findPlan 24 = .ok (.aload_n 0, 1) := by decide +kernel
theorem dX7_findPlan_25 : decode cX7_findPlan 25 = .ok (.iload_n 1, 1) := by decide +kernel
theorem dX7_findPlan_26 : decode cX7_findPlan 26 = .ok (.invokevirtual 152, 3) := by decide +kernel
theorem dX7_findPlan_29 : decode cX7_findPlan 29 = .ok (.lstore_n 3, 1) := by decide +kernel
theorem dX7_findPlan_30 : decode cX7_findPlan 30 = .ok (.lload_n 3, 1) := by decide +kernel
theorem dX7_findPlan_31 : decode cX7_findPlan 31 = .ok (.invokestatic 125, 3) := by decide +kernel
theorem dX7_findPlan_34 : decode cX7_findPlan 34 = .ok (.bipush 12, 2) := by decide +kernel
theorem dX7_findPlan_36 : decode cX7_findPlan 36 = .ok (.if_icmp .le 5, 3) := by decide +kernel
theorem dX7_findPlan_39 : decode cX7_findPlan 39 = .ok (.iconst 0, 1) := by decide +kernel
theorem dX7_findPlan_40 : decode cX7_findPlan 40 = .ok (.ireturn, 1) := by decide +kernel
theorem dX7_findPlan_41 : decode cX7_findPlan 41 = .ok (.aload_n 0, 1) := by decide +kernel
theorem dX7_findPlan_42 : decode cX7_findPlan 42 = .ok (.getfield 47, 3) := by decide +kernel
theorem dX7_findPlan_45 : decode cX7_findPlan 45 = .ok (.aload_n 0, 1) := by decide +kernel
theorem dX7_findPlan_46 : decode cX7_findPlan 46 = .ok (.getfield 19, 3) := by decide +kernel
theorem dX7_findPlan_49 : decode cX7_findPlan 49 = .ok (.lload_n 3, 1) := by decide +kernel
theorem dX7_findPlan_50 : decode cX7_findPlan 50 = .ok (.aload_n 0, 1) := by decide +kernel
theorem dX7_findPlan_51 : decode cX7_findPlan 51 = .ok (.lload_n 3, 1) := by decide +kernel
theorem dX7_findPlan_52 : decode cX7_findPlan 52 = .ok (.invokevirtual 197, 3) := by decide +kernel
theorem dX7_findPlan_55 : decode cX7_findPlan 55 = .ok (.iload_n 2, 1) := by decide +kernel
theorem dX7_findPlan_56 : decode cX7_findPlan 56 = .ok (.invokevirtual 260, 3) := by decide +kernel
theorem dX7_findPlan_59 : decode cX7_findPlan 59 = .ok (.ireturn, 1) := by decide +kernel
theorem dX7_dayFullBy_0 : decode cX7_dayFullBy 0 = .ok (.iload_n 1, 1) := by decide +kernel
theorem dX7_dayFullBy_1 : decode cX7_dayFullBy 1 = .ok (.ifCond .gt 5, 3) := by decide +kernel
theorem dX7_dayFullBy_4 : decode cX7_dayFullBy 4 = .ok (.iconst (-1), 1) := by decide +kernel
theorem dX7_dayFullBy_5 : decode cX7_dayFullBy 5 = .ok (.ireturn, 1) := by decide +kernel
theorem dX7_dayFullBy_6 : decode cX7_dayFullBy 6 = .ok (.aload_n 0, 1) := by decide +kernel
theorem dX7_dayFullBy_7 : decode cX7_dayFullBy 7 = .ok (.getfield 55, 3) := by decide +kernel
theorem dX7_dayFullBy_10 : decode cX7_dayFullBy 10 = .ok (.aload_n 0, 1) := by decide +kernel
theorem dX7_dayFullBy_11 : decode cX7_dayFullBy 11 = .ok (.iconst 0, 1) := by decide +kernel
theorem dX7_dayFullBy_12 : decode cX7_dayFullBy 12 = .ok (.invokevirtual 180, 3) := by decide +kernel
theorem dX7_dayFullBy_15 : decode cX7_dayFullBy 15 = .ok (.isub, 1) := by decide +kernel
theorem dX7_dayFullBy_16 : decode cX7_dayFullBy 16 = .ok (.istore_n 2, 1) := by decide +kernel
theorem dX7_dayFullBy_17 : decode cX7_dayFullBy 17 = .ok (.aload_n 0, 1) := by decide +kernel
theorem dX7_dayFullBy_18 : decode cX7_dayFullBy 18 = .ok (.getfield 51, 3) := by decide +kernel
theorem dX7_dayFullBy_21 : decode cX7_dayFullBy 21 = .ok (.iload_n 2, 1) := by decide +kernel
theorem dX7_dayFullBy_22 : decode cX7_dayFullBy 22 = .ok (.iload_n 1, 1) := by decide +kernel
theorem dX7_dayFullBy_23 : decode cX7_dayFullBy 23 = .ok (.iadd, 1) := by decide +kernel
theorem dX7_dayFullBy_24 : decode cX7_dayFullBy 24 = .ok (.iconst 1, 1) := by decide +kernel
theorem dX7_dayFullBy_25 : decode cX7_dayFullBy 25 = .ok (.isub, 1) := by decide +kernel
theorem dX7_dayFullBy_26 : decode cX7_dayFullBy 26 = .ok (.iload_n 1, 1) := by decide +kernel
theorem dX7_dayFullBy_27 : decode cX7_dayFullBy 27 = .ok (.idiv, 1) := by decide +kernel
theorem dX7_dayFullBy_28 : decode cX7_dayFullBy 28 = .ok (.iadd, 1) := by decide +kernel
theorem dX7_dayFullBy_29 : decode cX7_dayFullBy 29 = .ok (.ireturn, 1) := by decide +kernel

