theorem dX0_init_0 : decode cX0_init 0 = .ok (.aload_n 0, 1) := by decide +kernel
theorem dX0_init_1 : decode cX0_init 1 = .ok (.invokespecial 3, 3) := by decide +kernel
theorem dX0_init_4 : decode cX0_init 4 = .ok (.aload_n 0, 1) := by decide +kernel
theorem dX0_init_5 : decode cX0_init 5 = .ok (.bipush 40, 2) := by decide +kernel
theorem dX0_init_7 : decode cX0_init 7 = .ok (.anewarray 9, 3) := by decide +kernel
theorem dX0_init_10 : decode cX0_init 10 = .ok (.putfield 11, 3) := by decide +kernel
theorem dX0_init_13 : decode cX0_init 13 = .ok (.return_, 1) := by decide +kernel
theorem dX0_hasRoom_0 : decode cX0_hasRoom 0 = .ok (.aload_n 0, 1) := by decide +kernel
theorem dX0_hasRoom_1 : decode cX0_hasRoom 1 = .ok (.getfield 17, 3) := by decide +kernel
theorem dX0_hasRoom_4 : decode cX0_hasRoom 4 = .ok (.bipush 40, 2) := by decide +kernel
theorem dX0_hasRoom_6 : decode cX0_hasRoom 6 = .ok (.if_icmp .ge 7, 3) := by decide +kernel
theorem dX0_hasRoom_9 : decode cX0_hasRoom 9 = .ok (.iconst 1, 1) := by decide +kernel
theorem dX0_hasRoom_10 : decode cX0_hasRoom 10 = .ok (.goto 4, 3) := by decide +kernel
theorem dX0_hasRoom_13 : decode cX0_hasRoom 13 = .ok (.iconst 0, 1) := by decide +kernel
theorem dX0_hasRoom_14 : decode cX0_hasRoom 14 = .ok (.ireturn, 1) := by decide +kernel
theorem dX0_add_0 : decode cX0_add 0 = .ok (.aload_n 0, 1) := by decide +kernel
theorem dX0_add_1 : decode cX0_add 1 = .ok (.invokevirtual 21, 3) := by decide +kernel
theorem dX0_add_4 : decode cX0_add 4 = .ok (.ifCond .ne 5, 3) := by decide +kernel
theorem dX0_add_7 : decode cX0_add 7 = .ok (.iconst (-1), 1) := by decide +kernel
theorem dX0_add_8 : decode cX0_add 8 = .ok (.ireturn, 1) := by decide +kernel
theorem dX0_add_9 : decode cX0_add 9 = .ok (.aload_n 0, 1) := by decide +kernel
theorem dX0_add_10 : decode cX0_add 10 = .ok (.getfield 11, 3) := by decide +kernel
theorem dX0_add_13 : decode cX0_add 13 = .ok (.aload_n 0, 1) := by decide +kernel
theorem dX0_add_14 : decode cX0_add 14 = .ok (.getfield 17, 3) := by decide +kernel
theorem dX0_add_17 : decode cX0_add 17 = .ok (.aload_n 1, 1) := by decide +kernel
theorem dX0_add_18 : decode cX0_add 18 = .ok (.aastore, 1) := by decide +kernel
theorem dX0_add_19 : decode cX0_add 19 = .ok (.aload_n 0, 1) := by decide +kernel
theorem dX0_add_20 : decode cX0_add 20 = .ok (.dup, 1) := by decide +kernel
theorem dX0_add_21 : decode cX0_add 21 = .ok (.getfield 17, 3) := by decide +kernel
theorem dX0_add_24 : decode cX0_add 24 = .ok (.iconst 1, 1) := by decide +kernel
theorem dX0_add_25 : decode cX0_add 25 = .ok (.iadd, 1) := by decide +kernel
theorem dX0_add_26 : decode cX0_add 26 = .ok (.putfield 17, 3) := by decide +kernel
theorem dX0_add_29 : decode cX0_add 29 = .ok (.aload_n 0, 1) := by decide +kernel
theorem dX0_add_30 : decode cX0_add 30 = .ok (.getfield 17, 3) := by decide +kernel
theorem dX0_add_33 : decode cX0_add 33 = .ok (.iconst 1, 1) := by decide +kernel
theorem dX0_add_34 : decode cX0_add 34 = .ok (.isub, 1) := by decide +kernel
theorem dX0_add_35 : decode cX0_add 35 = .ok (.ireturn, 1) := by decide +kernel
theorem dX0_find_0 : decode cX0_find 0 = .ok (.iload_n 1, 1) := by decide +kernel
theorem dX0_find_1 : decode cX0_find 1 = .ok (.ifCond .lt 20, 3) := by decide +kernel
theorem dX0_find_4 : decode cX0_find 4 = .ok (.iload_n 1, 1) := by decide +kernel
theorem dX0_find_5 : decode cX0_find 5 = .ok (.aload_n 0, 1) := by decide +kernel
theorem dX0_find_6 : decode cX0_find 6 = .ok (.getfield 17, 3) := by decide +kernel
theorem dX0_find_9 : decode cX0_find 9 = .ok (.if_icmp .ge 12, 3) := by decide +kernel
theorem dX0_find_12 : decode cX0_find 12 = .ok (.aload_n 0, 1) := by decide +kernel
theorem dX0_find_13 : decode cX0_find 13 = .ok (.getfield 11, 3) := by decide +kernel
theorem dX0_find_16 : decode cX0_find 16 = .ok (.iload_n 1, 1) := by decide +kernel
theorem dX0_find_17 : decode cX0_find 17 = .ok (.aaload, 1) := by decide +kernel
theorem dX0_find_18 : decode cX0_find 18 = .ok (.goto 4, 3) := by decide +kernel
theorem dX0_find_21 : decode cX0_find 21 = .ok (.aconst_null, 1) := by decide +kernel
theorem dX0_find_22 : decode cX0_find 22 = .ok (.areturn, 1) := by decide +kernel
theorem dX0_forget_0 : decode cX0_forget 0 = .ok (.iload_n 1, 1) := by decide +kernel
theorem dX0_forget_1 : decode cX0_forget 1 = .ok (.ifCond .lt 18, 3) := by decide +kernel
theorem dX0_forget_4 : decode cX0_forget 4 = .ok (.iload_n 1, 1) := by decide +kernel
theorem dX0_forget_5 : decode cX0_forget 5 = .ok (.aload_n 0, 1) := by decide +kernel
theorem dX0_forget_6 : decode cX0_forget 6 = .ok (.getfield 17, 3) := by decide +kernel
theorem dX0_forget_9 : decode cX0_forget 9 = .ok (.if_icmp .ge 10, 3) := by decide +kernel
theorem dX0_forget_12 : decode cX0_forget 12 = .ok (.aload_n 0, 1) := by decide +kernel
theorem dX0_forget_13 : decode cX0_forget 13 = .ok (.getfield 11, 3) := by decide +kernel
theorem dX0_forget_16 : decode cX0_forget 16 = .ok (.iload_n 1, 1) := by decide +kernel
theorem dX0_forget_17 : decode cX0_forget 17 = .ok (.aconst_null, 1) := by decide +kernel
theorem dX0_forget_18 : decode cX0_forget 18 = .ok (.aastore, 1) := by decide +kernel
theorem dX0_forget_19 : decode cX0_forget 19 = .ok (.return_, 1) := by decide +kernel
theorem dX0_countThere_0 : decode cX0_countThere 0 = .ok (.iconst 0, 1) := by decide +kernel
theorem dX0_countThere_1 : decode cX0_countThere 1 = .ok (.istore_n 1, 1) := by decide +kernel
theorem dX0_countThere_2 : decode cX0_countThere 2 = .ok (.iconst 0, 1) := by decide +kernel
theorem dX0_countThere_3 : decode cX0_countThere 3 = .ok (.istore_n 2, 1) := by decide +kernel
theorem dX0_countThere_4 : decode cX0_countThere 4 = .ok (.iload_n 2, 1) := by decide +kernel
theorem dX0_countThere_5 : decode cX0_countThere 5 = .ok (.aload_n 0, 1) := by decide +kernel
theorem dX0_countThere_6 : decode cX0_countThere 6 = .ok (.getfield 17, 3) := by decide +kernel
theorem dX0_countThere_9 : decode cX0_countThere 9 = .ok (.if_icmp .ge 20, 3) := by decide +kernel
theorem dX0_countThere_12 : decode cX0_countThere 12 = .ok (.aload_n 0, 1) := by decide +kernel
theorem dX0_countThere_13 : decode cX0_countThere 13 = .ok (.iload_n 2, 1) := by decide +kernel
theorem dX0_countThere_14 : decode cX0_countThere 14 = .ok (.invokevirtual 25, 3) := by decide +kernel
theorem dX0_countThere_17 : decode cX0_countThere 17 = .ok (.ifnull 6, 3) := by decide +kernel
theorem dX0_countThere_20 : decode cX0_countThere 20 = .ok (.iinc 1 1, 3) := by decide +kernel
theorem dX0_countThere_23 : decode cX0_countThere 23 = .ok (.iinc 2 1, 3) := by decide +kernel
theorem dX0_countThere_26 : decode cX0_countThere 26 = .ok (.goto (-22), 3) := by decide +kernel
theorem dX0_countThere_29 : decode cX0_countThere 29 = .ok (.iload_n 1, 1) := by decide +kernel
theorem dX0_countThere_30 : decode cX0_countThere 30 = .ok (.ireturn, 1) := by decide +kernel
theorem dX0_hadBy_0 : decode cX0_hadBy 0 = .ok (.lconst 0, 1) := by decide +kernel
theorem dX0_hadBy_1 : decode cX0_hadBy 1 = .ok (.lstore_n 3, 1) := by decide +kernel
theorem dX0_hadBy_2 : decode cX0_hadBy 2 = .ok (.iconst 0, 1) := by decide +kernel
theorem dX0_hadBy_3 : decode cX0_hadBy 3 = .ok (.istore 5, 2) := by decide +kernel
theorem dX0_hadBy_5 : decode cX0_hadBy 5 = .ok (.iload 5, 2) := by decide +kernel
theorem dX0_hadBy_7 : decode cX0_hadBy 7 = .ok (.aload_n 0, 1) := by decide +kernel
theorem dX0_hadBy_8 : decode cX0_hadBy 8 = .ok (.getfield 17, 3) := by decide +kernel
theorem dX0_hadBy_11 : decode cX0_hadBy 11 = .ok (.if_icmp .ge 39, 3) := by decide +kernel
theorem dX0_hadBy_14 : decode cX0_hadBy 14 = .ok (.aload_n 0, 1) := by decide +kernel
theorem dX0_hadBy_15 : decode cX0_hadBy 15 = .ok (.iload 5, 2) := by decide +kernel
theorem dX0_hadBy_17 : decode cX0_hadBy 17 = .ok (.invokevirtual 25, 3) := by decide +kernel
theorem dX0_hadBy_20 : decode cX0_hadBy 20 = .ok (.astore 6, 2) := by decide +kernel
theorem dX0_hadBy_22 : decode cX0_hadBy 22 = .ok (.aload 6, 2) := by decide +kernel
theorem dX0_hadBy_24 : decode cX0_hadBy 24 = .ok (.ifnull 20, 3) := by decide +kernel
theorem dX0_hadBy_27 : decode cX0_hadBy 27 = .ok (.lload_n 1, 1) := by decide +kernel
theorem dX0_hadBy_28 : decode cX0_hadBy 28 = .ok (.iload 5, 2) := by decide +kernel
theorem dX0_hadBy_30 : decode cX0_hadBy 30 = .ok (.invokestatic 29, 3) := by decide +kernel
theorem dX0_hadBy_33 : decode cX0_hadBy 33 = .ok (.ifCond .eq 11, 3) := by decide +kernel
theorem dX0_hadBy_36 : decode cX0_hadBy 36 = .ok (.lload_n 3, 1) := by decide +kernel
theorem dX0_hadBy_37 : decode cX0_hadBy 37 = .ok (.aload 6, 2) := by decide +kernel
theorem dX0_hadBy_39 : decode cX0_hadBy 39 = .ok (.getfield 33, 3) := by decide +kernel
theorem dX0_hadBy_42 : decode cX0_hadBy 42 = .ok (.lor, 1) := by decide +kernel
theorem dX0_hadBy_43 : decode cX0_hadBy 43 = .ok (.lstore_n 3, 1) := by decide +kernel
theorem dX0_hadBy_44 : decode cX0_hadBy 44 = .ok (.iinc 5 1, 3) := by decide +kernel
theorem dX0_hadBy_47 : decode cX0_hadBy 47 = .ok (.goto (-42), 3) := by decide +kernel
theorem dX0_hadBy_50 : decode cX0_hadBy 50 = .ok (.lload_n 3, 1) := by decide +kernel
theorem dX0_hadBy_51 : decode cX0_hadBy 51 = .ok (.lreturn, 1) := by decide +kernel
theorem dX0_lengthOf_0 : decode cX0_lengthOf 0 = .ok (.iconst 0, 1) := by decide +kernel
theorem dX0_lengthOf_1 : decode cX0_lengthOf 1 = .ok (.istore_n 3, 1) := by decide +kernel
theorem dX0_lengthOf_2 : decode cX0_lengthOf 2 = .ok (.iconst 0, 1) := by decide +kernel
theorem dX0_lengthOf_3 : decode cX0_lengthOf 3 = .ok (.istore 4, 2) := by decide +kernel
theorem dX0_lengthOf_5 : decode cX0_lengthOf 5 = .ok (.iload 4, 2) := by decide +kernel
theorem dX0_lengthOf_7 : decode cX0_lengthOf 7 = .ok (.aload_n 0, 1) := by decide +kernel
theorem dX0_lengthOf_8 : decode cX0_lengthOf 8 = .ok (.getfield 17, 3) := by decide +kernel
theorem dX0_lengthOf_11 : decode cX0_lengthOf 11 = .ok (.if_icmp .ge 39, 3) := by decide +kernel
theorem dX0_lengthOf_14 : decode cX0_lengthOf 14 = .ok (.aload_n 0, 1) := by decide +kernel
theorem dX0_lengthOf_15 : decode cX0_lengthOf 15 = .ok (.iload 4, 2) := by decide +kernel
theorem dX0_lengthOf_17 : decode cX0_lengthOf 17 = .ok (.invokevirtual 25, 3) := by decide +kernel
theorem dX0_lengthOf_20 : decode cX0_lengthOf 20 = .ok (.astore 5, 2) := by decide +kernel
theorem dX0_lengthOf_22 : decode cX0_lengthOf 22 = .ok (.aload 5, 2) := by decide +kernel
theorem dX0_lengthOf_24 : decode cX0_lengthOf 24 = .ok (.ifnull 20, 3) := by decide +kernel
theorem dX0_lengthOf_27 : decode cX0_lengthOf 27 = .ok (.lload_n 1, 1) := by decide +kernel
theorem dX0_lengthOf_28 : decode cX0_lengthOf 28 = .ok (.iload 4, 2) := by decide +kernel
theorem dX0_lengthOf_30 : decode cX0_lengthOf 30 = .ok (.invokestatic 29, 3) := by decide +kernel
theorem dX0_lengthOf_33 : decode cX0_lengthOf 33 = .ok (.ifCond .eq 11, 3) := by decide +kernel
theorem dX0_lengthOf_36 : decode cX0_lengthOf 36 = .ok (.iload_n 3, 1) := by decide +kernel
theorem dX0_lengthOf_37 : decode cX0_lengthOf 37 = .ok (.aload 5, 2) := by decide +kernel
theorem dX0_lengthOf_39 : decode cX0_lengthOf 39 = .ok (.getfield 37, 3) := by decide +kernel
theorem dX0_lengthOf_42 : decode cX0_lengthOf 42 = .ok (.iadd, 1) := by decide +kernel
theorem dX0_lengthOf_43 : decode cX0_lengthOf 43 = .ok (.istore_n 3, 1) := by decide +kernel
theorem dX0_lengthOf_44 : decode cX0_lengthOf 44 = .ok (.iinc 4 1, 3) := by decide +kernel
theorem dX0_lengthOf_47 : decode cX0_lengthOf 47 = .ok (.goto (-42), 3) := by decide +kernel
theorem dX0_lengthOf_50 : decode cX0_lengthOf 50 = .ok (.iload_n 3, 1) := by decide +kernel
theorem dX0_lengthOf_51 : decode cX0_lengthOf 51 = .ok (.ireturn, 1) := by decide +kernel
theorem dX0_byBlocks_0 : decode cX0_byBlocks 0 = .ok (.iconst 0, 1) := by decide +kernel
theorem dX0_byBlocks_1 : decode cX0_byBlocks 1 = .ok (.istore 4, 2) := by decide +kernel
theorem dX0_byBlocks_3 : decode cX0_byBlocks 3 = .ok (.iload 4, 2) := by decide +kernel
theorem dX0_byBlocks_5 : decode cX0_byBlocks 5 = .ok (.aload_n 0, 1) := by decide +kernel
theorem dX0_byBlocks_6 : decode cX0_byBlocks 6 = .ok (.getfield 17, 3) := by decide +kernel
theorem dX0_byBlocks_9 : decode cX0_byBlocks 9 = .ok (.if_icmp .ge 32, 3) := by decide +kernel
theorem dX0_byBlocks_12 : decode cX0_byBlocks 12 = .ok (.lload_n 1, 1) := by decide +kernel
theorem dX0_byBlocks_13 : decode cX0_byBlocks 13 = .ok (.iload 4, 2) := by decide +kernel
theorem dX0_byBlocks_15 : decode cX0_byBlocks 15 = .ok (.invokestatic 29, 3) := by decide +kernel
theorem dX0_byBlocks_18 : decode cX0_byBlocks 18 = .ok (.ifCond .eq 17, 3) := by decide +kernel
theorem dX0_byBlocks_21 : decode cX0_byBlocks 21 = .ok (.aload_n 0, 1) := by decide +kernel
theorem dX0_byBlocks_22 : decode cX0_byBlocks 22 = .ok (.lload_n 1, 1) := by decide +kernel
theorem dX0_byBlocks_23 : decode cX0_byBlocks 23 = .ok (.iload 4, 2) := by decide +kernel
theorem dX0_byBlocks_25 : decode cX0_byBlocks 25 = .ok (.invokevirtual 40, 3) := by decide +kernel
theorem dX0_byBlocks_28 : decode cX0_byBlocks 28 = .ok (.iload_n 3, 1) := by decide +kernel
theorem dX0_byBlocks_29 : decode cX0_byBlocks 29 = .ok (.if_icmp .ne 6, 3) := by decide +kernel
theorem dX0_byBlocks_32 : decode cX0_byBlocks 32 = .ok (.iload 4, 2) := by decide +kernel
theorem dX0_byBlocks_34 : decode cX0_byBlocks 34 = .ok (.ireturn, 1) := by decide +kernel
theorem dX0_byBlocks_35 : decode cX0_byBlocks 35 = .ok (.iinc 4 1, 3) := by decide +kernel
theorem dX0_byBlocks_38 : decode cX0_byBlocks 38 = .ok (.goto (-35), 3) := by decide +kernel
theorem dX0_byBlocks_41 : decode cX0_byBlocks 41 = .ok (.iconst (-1), 1) := by decide +kernel
theorem dX0_byBlocks_42 : decode cX0_byBlocks 42 = .ok (.ireturn, 1) := by decide +kernel
theorem dX0_countAhead_0 : decode cX0_countAhead 0 = .ok (.aload_n 0, 1) := by decide +kernel
theorem dX0_countAhead_1 : decode cX0_countAhead 1 = .ok (.iload_n 3, 1) := by decide +kernel
theorem dX0_countAhead_2 : decode cX0_countAhead 2 = .ok (.invokevirtual 44, 3) := by decide +kernel
theorem dX0_countAhead_5 : decode cX0_countAhead 5 = .ok (.istore 4, 2) := by decide +kernel
theorem dX0_countAhead_7 : decode cX0_countAhead 7 = .ok (.iconst 0, 1) := by decide +kernel
theorem dX0_countAhead_8 : decode cX0_countAhead 8 = .ok (.istore 5, 2) := by decide +kernel
theorem dX0_countAhead_10 : decode cX0_countAhead 10 = .ok (.iconst 0, 1) := by decide +kernel
theorem dX0_countAhead_11 : decode cX0_countAhead 11 = .ok (.istore 6, 2) := by decide +kernel
theorem dX0_countAhead_13 : decode cX0_countAhead 13 = .ok (.iload 6, 2) := by decide +kernel
theorem dX0_countAhead_15 : decode cX0_countAhead 15 = .ok (.aload_n 0, 1) := by decide +kernel
theorem dX0_countAhead_16 : decode cX0_countAhead 16 = .ok (.getfield 17, 3) := by decide +kernel
theorem dX0_countAhead_19 : decode cX0_countAhead 19 = .ok (.if_icmp .ge 49, 3) := by decide +kernel
theorem dX0_countAhead_22 : decode cX0_countAhead 22 = .ok (.lload_n 1, 1) := by decide +kernel
theorem dX0_countAhead_23 : decode cX0_countAhead 23 = .ok (.iload 6, 2) := by decide +kernel
theorem dX0_countAhead_25 : decode cX0_countAhead 25 = .ok (.invokestatic 29, 3) := by decide +kernel
theorem dX0_countAhead_28 : decode cX0_countAhead 28 = .ok (.ifCond .eq 34, 3) := by decide +kernel
theorem dX0_countAhead_31 : decode cX0_countAhead 31 = .ok (.aload_n 0, 1) := by decide +kernel
theorem dX0_countAhead_32 : decode cX0_countAhead 32 = .ok (.iload 6, 2) := by decide +kernel
theorem dX0_countAhead_34 : decode cX0_countAhead 34 = .ok (.invokevirtual 44, 3) := by decide +kernel
theorem dX0_countAhead_37 : decode cX0_countAhead 37 = .ok (.istore 7, 2) := by decide +kernel
theorem dX0_countAhead_39 : decode cX0_countAhead 39 = .ok (.iload 7, 2) := by decide +kernel
theorem dX0_countAhead_41 : decode cX0_countAhead 41 = .ok (.iload 4, 2) := by decide +kernel
theorem dX0_countAhead_43 : decode cX0_countAhead 43 = .ok (.if_icmp .gt 16, 3) := by decide +kernel
theorem dX0_countAhead_46 : decode cX0_countAhead 46 = .ok (.iload 7, 2) := by decide +kernel
theorem dX0_countAhead_48 : decode cX0_countAhead 48 = .ok (.iload 4, 2) := by decide +kernel
theorem dX0_countAhead_50 : decode cX0_countAhead 50 = .ok (.if_icmp .ne 12, 3) := by decide +kernel
theorem dX0_countAhead_53 : decode cX0_countAhead 53 = .ok (.iload 6, 2) := by decide +kernel
theorem dX0_countAhead_55 : decode cX0_countAhead 55 = .ok (.iload_n 3, 1) := by decide +kernel
theorem dX0_countAhead_56 : decode cX0_countAhead 56 = .ok (.if_icmp .ge 6, 3) := by decide +kernel
theorem dX0_countAhead_59 : decode cX0_countAhead 59 = .ok (.iinc 5 1, 3) := by decide +kernel
theorem dX0_countAhead_62 : decode cX0_countAhead 62 = .ok (.iinc 6 1, 3) := by decide +kernel
theorem dX0_countAhead_65 : decode cX0_countAhead 65 = .ok (.goto (-52), 3) := by decide +kernel
theorem dX0_countAhead_68 : decode cX0_countAhead 68 = .ok (.iload 5, 2) := by decide +kernel
theorem dX0_countAhead_70 : decode cX0_countAhead 70 = .ok (.ireturn, 1) := by decide +kernel
theorem dX0_sizeOf_0 : decode cX0_sizeOf 0 = .ok (.aload_n 0, 1) := by decide +kernel
theorem dX0_sizeOf_1 : decode cX0_sizeOf 1 = .ok (.iload_n 1, 1) := by decide +kernel
theorem dX0_sizeOf_2 : decode cX0_sizeOf 2 = .ok (.invokevirtual 25, 3) := by decide +kernel
theorem dX0_sizeOf_5 : decode cX0_sizeOf 5 = .ok (.astore_n 2, 1) := by decide +kernel
theorem dX0_sizeOf_6 : decode cX0_sizeOf 6 = .ok (.aload_n 2, 1) := by decide +kernel
theorem dX0_sizeOf_7 : decode cX0_sizeOf 7 = .ok (.ifnonnull 7, 3) := by decide +kernel
theorem dX0_sizeOf_10 : decode cX0_sizeOf 10 = .ok (.iconst 0, 1) := by decide +kernel
theorem dX0_sizeOf_11 : decode cX0_sizeOf 11 = .ok (.goto 10, 3) := by decide +kernel
theorem dX0_sizeOf_14 : decode cX0_sizeOf 14 = .ok (.aload_n 2, 1) := by decide +kernel
theorem dX0_sizeOf_15 : decode cX0_sizeOf 15 = .ok (.getfield 33, 3) := by decide +kernel
theorem dX0_sizeOf_18 : decode cX0_sizeOf 18 = .ok (.invokestatic 48, 3) := by decide +kernel
theorem dX0_sizeOf_21 : decode cX0_sizeOf 21 = .ok (.ireturn, 1) := by decide +kernel
/-! Files -/
def oFi (ad : AD) (nfl : Nat) : va_E := eC 0 [.ref (ad 6), .int (nI nfl)]
/-- the numbers' references: none where a file is gone -/
def isAl (ad : AD) (nfl : Nat) (lv : Nat → Bool) (al : Nat → Option Nat) : Prop := ∀ i, i < nfl → al i = if lv i = true then some (ad (39 + 2 * i)) else none
section FI
variable {l : Launch} {g : GG} {ad : AD} {C : CC} {nfl : Nat} {lv : Nat → Bool} {al : Nat → Option Nat} {ow ch : Nat → Int32} {wo ln : Nat → Nat} {bl : Nat → Int64}
theorem k_X0_hasRoom (f5 : C 5 = some (oFi ad nfl)) (hn : nfl ≤ 40) : Cr l g yX0_hasRoom cX0_hasRoom 1 (some .boolean) 1 [.ref (ad 5)] ad C (.int (bI (decide (nfl < 40)))) := by
  refine Ct_of [some (.ref (ad 5))] (by decide) rfl rfl (Nat.le_of_ble_eq_true rfl) rfl rfl (fun X hX h => ?_)
  subst hX
  refine j_aload0 (pc := 0) h dX0_hasRoom_0 ?_
  refine j_getf (pc := 1) h dX0_hasRoom_1 (f5) fl_X0_17 rfl ?_
  refine j_bipush (pc := 4) h dX0_hasRoom_4 bp_40 ?_
  refine j_icmp_ge (pc := 6) (tgt := 13) h dX0_hasRoom_6 (by decide) (fun c6 => ?_) (fun c6 => ?_)
  · refine j_iconst (pc := 13) h dX0_hasRoom_13 ic_0 ?_
    refine j_zretr (pc := 14) h dX0_hasRoom_14 (by decide) (bI_f (by have := nI_le_of c6 (by omega) (by omega); simp; omega))
  · refine j_iconst (pc := 9) h dX0_hasRoom_9 ic_1 ?_
    refine j_goto (pc := 10) (tgt := 14) h dX0_hasRoom_10 (by decide) ?_
    refine j_zretr (pc := 14) h dX0_hasRoom_14 (by decide) (bI_t (by have h1 : ¬ 40 ≤ nfl := fun q => c6 (nI_le q (by omega)); simp; omega))
theorem k_X0_find_no {x : Int32} (f5 : C 5 = some (oFi ad nfl)) (hn : nfl ≤ 40) (hx : inN x nfl = false) : Cr l g yX0_find cX0_find 2 (some (.object "RoomGone$StoredFile")) 1 [.ref (ad 5), .int x] ad C (.null) := by
  refine Ct_of [some (.ref (ad 5)), some (.int x)] (by decide) rfl rfl (Nat.le_of_ble_eq_true rfl) rfl rfl (fun X hX h => ?_)
  subst hX
  refine j_iload1 (pc := 0) h dX0_find_0 ?_
  refine j_if_lt (pc := 1) (tgt := 21) h dX0_find_1 (by decide) (fun c1 => ?_) (fun c1 => ?_)
  · refine j_null (pc := 21) h dX0_find_21 ?_
    refine j_aret (pc := 22) (v := none) h dX0_find_22 (⟨rfl, rfl, rfl⟩)
  · refine j_iload1 (pc := 4) h dX0_find_4 ?_
    refine j_aload0 (pc := 5) h dX0_find_5 ?_
    refine j_getf (pc := 6) h dX0_find_6 (f5) fl_X0_17 rfl ?_
    refine j_icmp_ge (pc := 9) (tgt := 21) h dX0_find_9 (by decide) (fun c9 => ?_) (fun c9 => ?_)
    · refine j_null (pc := 21) h dX0_find_21 ?_
      refine j_aret (pc := 22) (v := none) h dX0_find_22 (⟨rfl, rfl, rfl⟩)
    · exact absurd (inN_yes (by omega) c1 c9) (by rw [hx]; decide)
theorem k_X0_find_q {i : Nat} (f5 : C 5 = some (oFi ad nfl)) (f6 : C 6 = some (eO g 40 al)) (hn : nfl ≤ 40) (hi : i < nfl) : Cr l g yX0_find cX0_find 2 (some (.object "RoomGone$StoredFile")) 1 [.ref (ad 5), .int (nI i)] ad C (va_rf (al i)) := by
  refine Ct_of [some (.ref (ad 5)), some (.int (nI i))] (by decide) rfl rfl (Nat.le_of_ble_eq_true rfl) rfl rfl (fun X hX h => ?_)
  subst hX
  refine j_iload1 (pc := 0) h dX0_find_0 ?_
  refine j_if_lt (pc := 1) (tgt := 21) h dX0_find_1 (by decide) (fun c1 => absurd c1 (nI_pos (by omega))) (fun c1 => ?_)
  refine j_iload1 (pc := 4) h dX0_find_4 ?_
  refine j_aload0 (pc := 5) h dX0_find_5 ?_
  refine j_getf (pc := 6) h dX0_find_6 (f5) fl_X0_17 rfl ?_
  refine j_icmp_ge (pc := 9) (tgt := 21) h dX0_find_9 (by decide) (fun c9 => absurd c9 (nI_ge (by omega) (by omega))) (fun c9 => ?_)
  refine j_aload0 (pc := 12) h dX0_find_12 ?_
  refine j_getf (pc := 13) h dX0_find_13 (f5) fl_X0_11 rfl ?_
  refine j_iload1 (pc := 16) h dX0_find_16 ?_
  refine j_aald (pc := 17) h dX0_find_17 (f6) (by omega) (by decide) ?_
  refine j_goto (pc := 18) (tgt := 22) h dX0_find_18 (by decide) ?_
  refine j_aret (pc := 22) (v := al i) h dX0_find_22 (⟨rfl, rfl, rfl⟩)
theorem k_X0_find {i : Nat} (f5 : C 5 = some (oFi ad nfl)) (f6 : C 6 = some (eO g 40 al)) (hn : nfl ≤ 40) (hi : i < nfl) (hal : isAl ad nfl lv al) (hl : lv i = true) : Cr l g yX0_find cX0_find 2 (some (.object "RoomGone$StoredFile")) 1 [.ref (ad 5), .int (nI i)] ad C (.ref (ad (39 + 2 * i))) := by
  have h0 := k_X0_find_q (l := l) f5 f6 hn hi
  rw [hal i hi, if_pos hl] at h0
  exact h0
theorem k_X0_find_n {i : Nat} (f5 : C 5 = some (oFi ad nfl)) (f6 : C 6 = some (eO g 40 al)) (hn : nfl ≤ 40) (hi : i < nfl) (hal : isAl ad nfl lv al) (hl : lv i = false) : Cr l g yX0_find cX0_find 2 (some (.object "RoomGone$StoredFile")) 1 [.ref (ad 5), .int (nI i)] ad C (.null) := by
  have h0 := k_X0_find_q (l := l) f5 f6 hn hi
  rw [hal i hi, if_neg (by rw [hl]; decide)] at h0
  exact h0
theorem k_X0_countThere (f5 : C 5 = some (oFi ad nfl)) (f6 : C 6 = some (eO g 40 al)) (hn : nfl ≤ 40) (hal : isAl ad nfl lv al) : Cr l g yX0_countThere cX0_countThere 3 (some .int) 2 [.ref (ad 5)] ad C (.int (nI (cnt lv nfl))) := by
  refine Ct_of [some (.ref (ad 5)), none, none] (by decide) rfl rfl (Nat.le_of_ble_eq_true rfl) rfl rfl (fun X hX h => ?_)
  subst hX
  have lp : ∀ m i, i + m = nfl → J X g 3 (QR X g ad C (.int (nI (cnt lv nfl)))) 0 0 ad C 4 [some (.ref (ad 5)), some (.int (nI (cnt lv i))), some (.int (nI i))] [] := by
    intro m
    induction m with
    | zero =>
      intro i hi
      refine j_iload2 (pc := 4) h dX0_countThere_4 ?_
      refine j_aload0 (pc := 5) h dX0_countThere_5 ?_
      refine j_getf (pc := 6) h dX0_countThere_6 (f5) fl_X0_17 rfl ?_
      refine j_icmp_ge (pc := 9) (tgt := 29) h dX0_countThere_9 (by decide) (fun c9 => ?_) (fun c9 => absurd (nI_le (by omega) (by omega)) c9)
      refine j_iload1 (pc := 29) h dX0_countThere_29 ?_
      refine j_iretr (pc := 30) h dX0_countThere_30 (by rw [show i = nfl by omega])
    | succ m ih =>
      intro i hi
      cases hl : lv i with
      | false =>
        refine j_iload2 (pc := 4) h dX0_countThere_4 ?_
        refine j_aload0 (pc := 5) h dX0_countThere_5 ?_
        refine j_getf (pc := 6) h dX0_countThere_6 (f5) fl_X0_17 rfl ?_
        refine j_icmp_ge (pc := 9) (tgt := 29) h dX0_countThere_9 (by decide) (fun c9 => absurd c9 (nI_ge (by omega) (by omega))) (fun c9 => ?_)
        refine j_aload0 (pc := 12) h dX0_countThere_12 ?_
        refine j_iload2 (pc := 13) h dX0_countThere_13 ?_
        refine j_callVr (pc := 14) h dX0_countThere_14 (k_X0_find_n f5 f6 hn (by omega) hal hl) mv_X0_25 (f5) rfl rfl (by decide) (Nat.le_of_ble_eq_true rfl) (Nat.le_of_ble_eq_true rfl) (Nat.le_of_ble_eq_true rfl) ?_
        refine j_ifnullN (pc := 17) (tgt := 23) h dX0_countThere_17 (by decide) ?_
        refine j_iinc2 (pc := 23) h dX0_countThere_23 rfl (inc_n _) ?_
        refine j_goto (pc := 26) (tgt := 4) h dX0_countThere_26 (by decide) ?_
        rw [show cnt lv i = cnt lv (i + 1) from (cnt_f hl).symm]
        exact ih (i + 1) (by omega)
      | true =>
        refine j_iload2 (pc := 4) h dX0_countThere_4 ?_
        refine j_aload0 (pc := 5) h dX0_countThere_5 ?_
        refine j_getf (pc := 6) h dX0_countThere_6 (f5) fl_X0_17 rfl ?_
        refine j_icmp_ge (pc := 9) (tgt := 29) h dX0_countThere_9 (by decide) (fun c9 => absurd c9 (nI_ge (by omega) (by omega))) (fun c9 => ?_)
        refine j_aload0 (pc := 12) h dX0_countThere_12 ?_
        refine j_iload2 (pc := 13) h dX0_countThere_13 ?_
        refine j_callVr (pc := 14) h dX0_countThere_14 (k_X0_find f5 f6 hn (by omega) hal hl) mv_X0_25 (f5) rfl rfl (by decide) (Nat.le_of_ble_eq_true rfl) (Nat.le_of_ble_eq_true rfl) (Nat.le_of_ble_eq_true rfl) ?_
        refine j_ifnull (pc := 17) h dX0_countThere_17 ?_
        refine j_iinc1 (pc := 20) h dX0_countThere_20 rfl (inc_n _) ?_
        refine j_iinc2 (pc := 23) h dX0_countThere_23 rfl (inc_n _) ?_
        refine j_goto (pc := 26) (tgt := 4) h dX0_countThere_26 (by decide) ?_
        rw [show cnt lv i + 1 = cnt lv (i + 1) from (cnt_t hl).symm]
        exact ih (i + 1) (by omega)
  refine j_iconst (pc := 0) h dX0_countThere_0 ic_0 ?_
  refine j_istore1 (pc := 1) h dX0_countThere_1 rfl ?_
  refine j_iconst (pc := 2) h dX0_countThere_2 ic_0 ?_
  refine j_istore2 (pc := 3) h dX0_countThere_3 rfl ?_
  exact lp nfl 0 (by omega)
/-- what the files of a set have -/
def hbF (lv : Nat → Bool) (bl : Nat → Int64) (s : Int64) : Nat → Int64 := fun i => if (lv i && mbr s (nI i)) = true then bl i else 0
theorem k_X0_hadBy {s : Int64} (f5 : C 5 = some (oFi ad nfl)) (f6 : C 6 = some (eO g 40 al)) (fp : ∀ i, i < nfl → C (39 + 2 * i) = some (oSt ad (39 + 2 * i) (ow i) (nI (wo i)) (ln i) (ch i) (bl i))) (hn : nfl ≤ 40) (hal : isAl ad nfl lv al) : Cr l g yX0_hadBy cX0_hadBy 7 (some .long) 2 [.ref (ad 5), .long s] ad C (.long (orr (hbF lv bl s) nfl)) := by
  refine Ct_of [some (.ref (ad 5)), some (.long s), none, none, none, none, none] (by decide) rfl rfl (Nat.le_of_ble_eq_true rfl) rfl rfl (fun X hX h => ?_)
  subst hX
  have lp : ∀ m i z, i + m = nfl → J X g 7 (QR X g ad C (.long (orr (hbF lv bl s) nfl))) 0 0 ad C 5 [some (.ref (ad 5)), some (.long s), none, some (.long (orr (hbF lv bl s) i)), none, some (.int (nI i)), z] [] := by
    intro m
    induction m with
    | zero =>
      intro i z hi
      refine j_iload5 (pc := 5) h dX0_hadBy_5 ?_
      refine j_aload0 (pc := 7) h dX0_hadBy_7 ?_
      refine j_getf (pc := 8) h dX0_hadBy_8 (f5) fl_X0_17 rfl ?_
      refine j_icmp_ge (pc := 11) (tgt := 50) h dX0_hadBy_11 (by decide) (fun c11 => ?_) (fun c11 => absurd (nI_le (by omega) (by omega)) c11)
      refine j_lload3 (pc := 50) h dX0_hadBy_50 ?_
      refine j_lretr (pc := 51) h dX0_hadBy_51 (by rw [show i = nfl by omega])
    | succ m ih =>
      intro i z hi
      cases hl : lv i with
      | false =>
        refine j_iload5 (pc := 5) h dX0_hadBy_5 ?_
        refine j_aload0 (pc := 7) h dX0_hadBy_7 ?_
        refine j_getf (pc := 8) h dX0_hadBy_8 (f5) fl_X0_17 rfl ?_
        refine j_icmp_ge (pc := 11) (tgt := 50) h dX0_hadBy_11 (by decide) (fun c11 => absurd c11 (nI_ge (by omega) (by omega))) (fun c11 => ?_)
        refine j_aload0 (pc := 14) h dX0_hadBy_14 ?_
        refine j_iload5 (pc := 15) h dX0_hadBy_15 ?_
        refine j_callVr (pc := 17) h dX0_hadBy_17 (k_X0_find_n f5 f6 hn (by omega) hal hl) mv_X0_25 (f5) rfl rfl (by decide) (Nat.le_of_ble_eq_true rfl) (Nat.le_of_ble_eq_true rfl) (Nat.le_of_ble_eq_true rfl) ?_
        refine j_astore6N (pc := 20) h dX0_hadBy_20 rfl ?_
        refine j_aload6N (pc := 22) h dX0_hadBy_22 ?_
        refine j_ifnullN (pc := 24) (tgt := 44) h dX0_hadBy_24 (by decide) ?_
        refine j_iinc5 (pc := 44) h dX0_hadBy_44 rfl (inc_n _) ?_
        refine j_goto (pc := 47) (tgt := 5) h dX0_hadBy_47 (by decide) ?_
        rw [show orr (hbF lv bl s) i = orr (hbF lv bl s) (i + 1) from orr_no (by simp [hbF, hl])]
        exact ih (i + 1) _ (by omega)
      | true =>
        have fs := fp i (by omega)
        refine j_iload5 (pc := 5) h dX0_hadBy_5 ?_
        refine j_aload0 (pc := 7) h dX0_hadBy_7 ?_
        refine j_getf (pc := 8) h dX0_hadBy_8 (f5) fl_X0_17 rfl ?_
        refine j_icmp_ge (pc := 11) (tgt := 50) h dX0_hadBy_11 (by decide) (fun c11 => absurd c11 (nI_ge (by omega) (by omega))) (fun c11 => ?_)
        refine j_aload0 (pc := 14) h dX0_hadBy_14 ?_
        refine j_iload5 (pc := 15) h dX0_hadBy_15 ?_
        refine j_callVr (pc := 17) h dX0_hadBy_17 (k_X0_find f5 f6 hn (by omega) hal hl) mv_X0_25 (f5) rfl rfl (by decide) (Nat.le_of_ble_eq_true rfl) (Nat.le_of_ble_eq_true rfl) (Nat.le_of_ble_eq_true rfl) ?_
        refine j_astore6 (pc := 20) h dX0_hadBy_20 rfl ?_
        refine j_aload6 (pc := 22) h dX0_hadBy_22 ?_
        refine j_ifnull (pc := 24) h dX0_hadBy_24 ?_
        refine j_lload1 (pc := 27) h dX0_hadBy_27 ?_
        refine j_iload5 (pc := 28) h dX0_hadBy_28 ?_
        refine j_callSr (pc := 30) h dX0_hadBy_30 (k_X7_isMember) ms_X0_29 rfl rfl (by decide) (Nat.le_of_ble_eq_true rfl) (Nat.le_of_ble_eq_true rfl) (Nat.le_of_ble_eq_true rfl) ?_
        refine j_if_eqB (pc := 33) (tgt := 44) h dX0_hadBy_33 (by decide) (fun c33 => ?_) (fun c33 => ?_)
        · refine j_iinc5 (pc := 44) h dX0_hadBy_44 rfl (inc_n _) ?_
          refine j_goto (pc := 47) (tgt := 5) h dX0_hadBy_47 (by decide) ?_
          rw [show orr (hbF lv bl s) i = orr (hbF lv bl s) (i + 1) from orr_no (by simp [hbF, c33])]
          exact ih (i + 1) _ (by omega)
        · refine j_lload3 (pc := 36) h dX0_hadBy_36 ?_
          refine j_aload6 (pc := 37) h dX0_hadBy_37 ?_
          refine j_getf (pc := 39) h dX0_hadBy_39 (fs) fl_X0_33 rfl ?_
          refine j_lor (pc := 42) h dX0_hadBy_42 ?_
          refine j_lstore3 (pc := 43) h dX0_hadBy_43 rfl ?_
          refine j_iinc5 (pc := 44) h dX0_hadBy_44 rfl (inc_n _) ?_
          refine j_goto (pc := 47) (tgt := 5) h dX0_hadBy_47 (by decide) ?_
          rw [show orr (hbF lv bl s) i ||| bl i = orr (hbF lv bl s) (i + 1) from by rw [orr, hbF]; simp [hl, c33]]
          exact ih (i + 1) _ (by omega)
  refine j_lconst (pc := 0) h dX0_hadBy_0 lc_0 ?_
  refine j_lstore3 (pc := 1) h dX0_hadBy_1 rfl ?_
  refine j_iconst (pc := 2) h dX0_hadBy_2 ic_0 ?_
  refine j_istore5 (pc := 3) h dX0_hadBy_3 rfl ?_
  exact lp nfl 0 none (by omega)
theorem k_X0_lengthOf {s : Int64} (f5 : C 5 = some (oFi ad nfl)) (f6 : C 6 = some (eO g 40 al)) (fp : ∀ i, i < nfl → C (39 + 2 * i) = some (oSt ad (39 + 2 * i) (ow i) (nI (wo i)) (ln i) (ch i) (bl i))) (hn : nfl ≤ 40) (hal : isAl ad nfl lv al) : Cr l g yX0_lengthOf cX0_lengthOf 6 (some .int) 2 [.ref (ad 5), .long s] ad C (.int (nI (sumN (fun i => if (lv i && mbr s (nI i)) = true then ln i else 0) nfl))) := by
  refine Ct_of [some (.ref (ad 5)), some (.long s), none, none, none, none] (by decide) rfl rfl (Nat.le_of_ble_eq_true rfl) rfl rfl (fun X hX h => ?_)
  subst hX
  have lp : ∀ m i z, i + m = nfl → J X g 6 (QR X g ad C (.int (nI (sumN (fun i => if (lv i && mbr s (nI i)) = true then ln i else 0) nfl)))) 0 0 ad C 5 [some (.ref (ad 5)), some (.long s), none, some (.int (nI (sumN (fun i => if (lv i && mbr s (nI i)) = true then ln i else 0) i))), some (.int (nI i)), z] [] := by
    intro m
    induction m with
    | zero =>
      intro i z hi
      refine j_iload4 (pc := 5) h dX0_lengthOf_5 ?_
      refine j_aload0 (pc := 7) h dX0_lengthOf_7 ?_
      refine j_getf (pc := 8) h dX0_lengthOf_8 (f5) fl_X0_17 rfl ?_
      refine j_icmp_ge (pc := 11) (tgt := 50) h dX0_lengthOf_11 (by decide) (fun c11 => ?_) (fun c11 => absurd (nI_le (by omega) (by omega)) c11)
      refine j_iload3 (pc := 50) h dX0_lengthOf_50 ?_
      refine j_iretr (pc := 51) h dX0_lengthOf_51 (by rw [show i = nfl by omega])
    | succ m ih =>
      intro i z hi
      cases hl : lv i with
      | false =>
        refine j_iload4 (pc := 5) h dX0_lengthOf_5 ?_
        refine j_aload0 (pc := 7) h dX0_lengthOf_7 ?_
        refine j_getf (pc := 8) h dX0_lengthOf_8 (f5) fl_X0_17 rfl ?_
        refine j_icmp_ge (pc := 11) (tgt := 50) h dX0_lengthOf_11 (by decide) (fun c11 => absurd c11 (nI_ge (by omega) (by omega))) (fun c11 => ?_)
        refine j_aload0 (pc := 14) h dX0_lengthOf_14 ?_
        refine j_iload4 (pc := 15) h dX0_lengthOf_15 ?_
        refine j_callVr (pc := 17) h dX0_lengthOf_17 (k_X0_find_n f5 f6 hn (by omega) hal hl) mv_X0_25 (f5) rfl rfl (by decide) (Nat.le_of_ble_eq_true rfl) (Nat.le_of_ble_eq_true rfl) (Nat.le_of_ble_eq_true rfl) ?_
        refine j_astore5N (pc := 20) h dX0_lengthOf_20 rfl ?_
        refine j_aload5N (pc := 22) h dX0_lengthOf_22 ?_
        refine j_ifnullN (pc := 24) (tgt := 44) h dX0_lengthOf_24 (by decide) ?_
        refine j_iinc4 (pc := 44) h dX0_lengthOf_44 rfl (inc_n _) ?_
        refine j_goto (pc := 47) (tgt := 5) h dX0_lengthOf_47 (by decide) ?_
        rw [show sumN (fun i => if (lv i && mbr s (nI i)) = true then ln i else 0) i = sumN (fun i => if (lv i && mbr s (nI i)) = true then ln i else 0) (i + 1) from by rw [sumN]; simp [hl]]
        exact ih (i + 1) _ (by omega)
      | true =>
        have fs := fp i (by omega)
        refine j_iload4 (pc := 5) h dX0_lengthOf_5 ?_
        refine j_aload0 (pc := 7) h dX0_lengthOf_7 ?_
        refine j_getf (pc := 8) h dX0_lengthOf_8 (f5) fl_X0_17 rfl ?_
        refine j_icmp_ge (pc := 11) (tgt := 50) h dX0_lengthOf_11 (by decide) (fun c11 => absurd c11 (nI_ge (by omega) (by omega))) (fun c11 => ?_)
        refine j_aload0 (pc := 14) h dX0_lengthOf_14 ?_
        refine j_iload4 (pc := 15) h dX0_lengthOf_15 ?_
        refine j_callVr (pc := 17) h dX0_lengthOf_17 (k_X0_find f5 f6 hn (by omega) hal hl) mv_X0_25 (f5) rfl rfl (by decide) (Nat.le_of_ble_eq_true rfl) (Nat.le_of_ble_eq_true rfl) (Nat.le_of_ble_eq_true rfl) ?_
        refine j_astore5 (pc := 20) h dX0_lengthOf_20 rfl ?_
        refine j_aload5 (pc := 22) h dX0_lengthOf_22 ?_
        refine j_ifnull (pc := 24) h dX0_lengthOf_24 ?_
        refine j_lload1 (pc := 27) h dX0_lengthOf_27 ?_
        refine j_iload4 (pc := 28) h dX0_lengthOf_28 ?_
        refine j_callSr (pc := 30) h dX0_lengthOf_30 (k_X7_isMember) ms_X0_29 rfl rfl (by decide) (Nat.le_of_ble_eq_true rfl) (Nat.le_of_ble_eq_true rfl) (Nat.le_of_ble_eq_true rfl) ?_
        refine j_if_eqB (pc := 33) (tgt := 44) h dX0_lengthOf_33 (by decide) (fun c33 => ?_) (fun c33 => ?_)
        · refine j_iinc4 (pc := 44) h dX0_lengthOf_44 rfl (inc_n _) ?_
          refine j_goto (pc := 47) (tgt := 5) h dX0_lengthOf_47 (by decide) ?_
          rw [show sumN (fun i => if (lv i && mbr s (nI i)) = true then ln i else 0) i = sumN (fun i => if (lv i && mbr s (nI i)) = true then ln i else 0) (i + 1) from by rw [sumN]; simp [c33]]
          exact ih (i + 1) _ (by omega)
        · refine j_iload3 (pc := 36) h dX0_lengthOf_36 ?_
          refine j_aload5 (pc := 37) h dX0_lengthOf_37 ?_
          refine j_getf (pc := 39) h dX0_lengthOf_39 (fs) fl_X0_37 rfl ?_
          refine j_iaddN (pc := 42) h dX0_lengthOf_42 ?_
          refine j_istore3 (pc := 43) h dX0_lengthOf_43 rfl ?_
          refine j_iinc4 (pc := 44) h dX0_lengthOf_44 rfl (inc_n _) ?_
          refine j_goto (pc := 47) (tgt := 5) h dX0_lengthOf_47 (by decide) ?_
          rw [show sumN (fun i => if (lv i && mbr s (nI i)) = true then ln i else 0) i + ln i = sumN (fun i => if (lv i && mbr s (nI i)) = true then ln i else 0) (i + 1) from by rw [sumN]; simp [hl, c33]]
          exact ih (i + 1) _ (by omega)
  refine j_iconst (pc := 0) h dX0_lengthOf_0 ic_0 ?_
  refine j_istore3 (pc := 1) h dX0_lengthOf_1 rfl ?_
  refine j_iconst (pc := 2) h dX0_lengthOf_2 ic_0 ?_
  refine j_istore4 (pc := 3) h dX0_lengthOf_3 rfl ?_
  exact lp nfl 0 none (by omega)
def szF (lv : Nat → Bool) (bl : Nat → Int64) : Nat → Nat := fun i => if lv i = true then pcn (bl i) else 0
theorem k_X0_sizeOf {i : Nat} (f5 : C 5 = some (oFi ad nfl)) (f6 : C 6 = some (eO g 40 al)) (fp : ∀ i, i < nfl → C (39 + 2 * i) = some (oSt ad (39 + 2 * i) (ow i) (nI (wo i)) (ln i) (ch i) (bl i))) (hn : nfl ≤ 40) (hal : isAl ad nfl lv al) (hi : i < nfl) : Cr l g yX0_sizeOf cX0_sizeOf 3 (some .int) 2 [.ref (ad 5), .int (nI i)] ad C (.int (nI (szF lv bl i))) := by
  refine Ct_of [some (.ref (ad 5)), some (.int (nI i)), none] (by decide) rfl rfl (Nat.le_of_ble_eq_true rfl) rfl rfl (fun X hX h => ?_)
  subst hX
  cases hl : lv i with
  | false =>
    refine j_aload0 (pc := 0) h dX0_sizeOf_0 ?_
    refine j_iload1 (pc := 1) h dX0_sizeOf_1 ?_
    refine j_callVr (pc := 2) h dX0_sizeOf_2 (k_X0_find_n f5 f6 hn (by omega) hal hl) mv_X0_25 (f5) rfl rfl (by decide) (Nat.le_of_ble_eq_true rfl) (Nat.le_of_ble_eq_true rfl) (Nat.le_of_ble_eq_true rfl) ?_
    refine j_astore2N (pc := 5) h dX0_sizeOf_5 rfl ?_
    refine j_aload2N (pc := 6) h dX0_sizeOf_6 ?_
    refine j_ifnonnullN (pc := 7) h dX0_sizeOf_7 ?_
    refine j_iconst (pc := 10) h dX0_sizeOf_10 ic_0 ?_
    refine j_goto (pc := 11) (tgt := 21) h dX0_sizeOf_11 (by decide) ?_
    refine j_iretr (pc := 21) h dX0_sizeOf_21 (by rw [szF, if_neg (by rw [hl]; decide)])
  | true =>
    have fs := fp i (by omega)
    refine j_aload0 (pc := 0) h dX0_sizeOf_0 ?_
    refine j_iload1 (pc := 1) h dX0_sizeOf_1 ?_
    refine j_callVr (pc := 2) h dX0_sizeOf_2 (k_X0_find f5 f6 hn (by omega) hal hl) mv_X0_25 (f5) rfl rfl (by decide) (Nat.le_of_ble_eq_true rfl) (Nat.le_of_ble_eq_true rfl) (Nat.le_of_ble_eq_true rfl) ?_
    refine j_astore2 (pc := 5) h dX0_sizeOf_5 rfl ?_
    refine j_aload2 (pc := 6) h dX0_sizeOf_6 ?_
    refine j_ifnonnull (pc := 7) (tgt := 14) h dX0_sizeOf_7 (by decide) ?_
    refine j_aload2 (pc := 14) h dX0_sizeOf_14 ?_
    refine j_getf (pc := 15) h dX0_sizeOf_15 (fs) fl_X0_33 rfl ?_
    refine j_callSr (pc := 18) h dX0_sizeOf_18 (k_J13_bitCount_95d88) ms_X0_48 rfl rfl (by decide) (Nat.le_of_ble_eq_true rfl) (Nat.le_of_ble_eq_true rfl) (Nat.le_of_ble_eq_true rfl) ?_
    refine j_iretr (pc := 21) h dX0_sizeOf_21 (by rw [szF, if_pos hl])
/-- j stands ahead of i by size, then number -/
def ahd (sz : Nat → Nat) (i j : Nat) : Bool := decide (sz i < sz j) || (decide (sz j = sz i) && decide (j < i))
theorem pcn_le (v : Int64) : pcn v ≤ 64 := cnt_le _ _
theorem szF_le (lv : Nat → Bool) (bl : Nat → Int64) (i : Nat) : szF lv bl i ≤ 64 := by unfold szF; split; exact pcn_le _; omega
theorem k_X0_countAhead {i : Nat} {s : Int64} (f5 : C 5 = some (oFi ad nfl)) (f6 : C 6 = some (eO g 40 al)) (fp : ∀ i, i < nfl → C (39 + 2 * i) = some (oSt ad (39 + 2 * i) (ow i) (nI (wo i)) (ln i) (ch i) (bl i))) (hn : nfl ≤ 40) (hal : isAl ad nfl lv al) (hi : i < nfl) : Cr l g yX0_countAhead cX0_countAhead 8 (some .int) 3 [.ref (ad 5), .long s, .int (nI i)] ad C (.int (nI (cnt (fun j => mbr s (nI j) && ahd (szF lv bl) i j) nfl))) := by
  have hs0 := szF_le lv bl i
  refine Ct_of [some (.ref (ad 5)), some (.long s), none, some (.int (nI i)), none, none, none, none] (by decide) rfl rfl (Nat.le_of_ble_eq_true rfl) rfl rfl (fun X hX h => ?_)
  subst hX
  have lp : ∀ m j z, j + m = nfl → J X g 8 (QR X g ad C (.int (nI (cnt (fun j => mbr s (nI j) && ahd (szF lv bl) i j) nfl)))) 0 0 ad C 13 [some (.ref (ad 5)), some (.long s), none, some (.int (nI i)), some (.int (nI (szF lv bl i))), some (.int (nI (cnt (fun j => mbr s (nI j) && ahd (szF lv bl) i j) j))), some (.int (nI j)), z] [] := by
    intro m
    induction m with
    | zero =>
      intro j z hj
      refine j_iload6 (pc := 13) h dX0_countAhead_13 ?_
      refine j_aload0 (pc := 15) h dX0_countAhead_15 ?_
      refine j_getf (pc := 16) h dX0_countAhead_16 (f5) fl_X0_17 rfl ?_
      refine j_icmp_ge (pc := 19) (tgt := 68) h dX0_countAhead_19 (by decide) (fun c19 => ?_) (fun c19 => absurd (nI_le (by omega) (by omega)) c19)
      refine j_iload5 (pc := 68) h dX0_countAhead_68 ?_
      refine j_iretr (pc := 70) h dX0_countAhead_70 (by rw [show j = nfl by omega])
    | succ m ih =>
      intro j z hj
      have hs1 := szF_le lv bl j
      have no : ∀ z, (mbr s (nI j) && ahd (szF lv bl) i j) = false → J X g 8 (QR X g ad C (.int (nI (cnt (fun j => mbr s (nI j) && ahd (szF lv bl) i j) nfl)))) 0 0 ad C 62 [some (.ref (ad 5)), some (.long s), none, some (.int (nI i)), some (.int (nI (szF lv bl i))), some (.int (nI (cnt (fun j => mbr s (nI j) && ahd (szF lv bl) i j) j))), some (.int (nI j)), z] [] := by
        intro z hf
        refine j_iinc6 (pc := 62) h dX0_countAhead_62 rfl (inc_n _) ?_
        refine j_goto (pc := 65) (tgt := 13) h dX0_countAhead_65 (by decide) ?_
        rw [show cnt (fun j => mbr s (nI j) && ahd (szF lv bl) i j) j = cnt (fun j => mbr s (nI j) && ahd (szF lv bl) i j) (j + 1) from (cnt_f hf).symm]
        exact ih (j + 1) _ (by omega)
      have yes : ∀ z, (mbr s (nI j) && ahd (szF lv bl) i j) = true → J X g 8 (QR X g ad C (.int (nI (cnt (fun j => mbr s (nI j) && ahd (szF lv bl) i j) nfl)))) 0 0 ad C 59 [some (.ref (ad 5)), some (.long s), none, some (.int (nI i)), some (.int (nI (szF lv bl i))), some (.int (nI (cnt (fun j => mbr s (nI j) && ahd (szF lv bl) i j) j))), some (.int (nI j)), z] [] := by
        intro z hf
        refine j_iinc5 (pc := 59) h dX0_countAhead_59 rfl (inc_n _) ?_
        refine j_iinc6 (pc := 62) h dX0_countAhead_62 rfl (inc_n _) ?_
        refine j_goto (pc := 65) (tgt := 13) h dX0_countAhead_65 (by decide) ?_
        rw [show cnt (fun j => mbr s (nI j) && ahd (szF lv bl) i j) j + 1 = cnt (fun j => mbr s (nI j) && ahd (szF lv bl) i j) (j + 1) from (cnt_t hf).symm]
        exact ih (j + 1) _ (by omega)
      refine j_iload6 (pc := 13) h dX0_countAhead_13 ?_
      refine j_aload0 (pc := 15) h dX0_countAhead_15 ?_
      refine j_getf (pc := 16) h dX0_countAhead_16 (f5) fl_X0_17 rfl ?_
      refine j_icmp_ge (pc := 19) (tgt := 68) h dX0_countAhead_19 (by decide) (fun c19 => absurd c19 (nI_ge (by omega) (by omega))) (fun c19 => ?_)
      refine j_lload1 (pc := 22) h dX0_countAhead_22 ?_
      refine j_iload6 (pc := 23) h dX0_countAhead_23 ?_
      refine j_callSr (pc := 25) h dX0_countAhead_25 (k_X7_isMember) ms_X0_29 rfl rfl (by decide) (Nat.le_of_ble_eq_true rfl) (Nat.le_of_ble_eq_true rfl) (Nat.le_of_ble_eq_true rfl) ?_
      refine j_if_eqB (pc := 28) (tgt := 62) h dX0_countAhead_28 (by decide) (fun c28 => ?_) (fun c28 => ?_)
      · exact no _ (by rw [c28]; rfl)
      · refine j_aload0 (pc := 31) h dX0_countAhead_31 ?_
        refine j_iload6 (pc := 32) h dX0_countAhead_32 ?_
        refine j_callVr (pc := 34) h dX0_countAhead_34 (k_X0_sizeOf f5 f6 fp hn hal (by omega)) mv_X0_44 (f5) rfl rfl (by decide) (Nat.le_of_ble_eq_true rfl) (Nat.le_of_ble_eq_true rfl) (Nat.le_of_ble_eq_true rfl) ?_
        refine j_istore7 (pc := 37) h dX0_countAhead_37 rfl ?_
        refine j_iload7 (pc := 39) h dX0_countAhead_39 ?_
        refine j_iload4 (pc := 41) h dX0_countAhead_41 ?_
        refine j_icmp_gt (pc := 43) (tgt := 59) h dX0_countAhead_43 (by decide) (fun c43 => ?_) (fun c43 => ?_)
        · exact yes _ (by have q := nI_lt_of c43 (by omega) (by omega); rw [c28]; simp [ahd, q])
        · have q1 : ¬ szF lv bl i < szF lv bl j := fun q => c43 (nI_lt q (by omega))
          refine j_iload7 (pc := 46) h dX0_countAhead_46 ?_
          refine j_iload4 (pc := 48) h dX0_countAhead_48 ?_
          refine j_icmp_ne (pc := 50) (tgt := 62) h dX0_countAhead_50 (by decide) (fun c50 => ?_) (fun c50 => ?_)
          · exact no _ (by have q2 : ¬ szF lv bl j = szF lv bl i := (fun q => c50 (by rw [q])); rw [c28]; simp [ahd, q2]; omega)
          · have q2 := nI_inj c50 (by omega) (by omega)
            refine j_iload6 (pc := 53) h dX0_countAhead_53 ?_
            refine j_iload3 (pc := 55) h dX0_countAhead_55 ?_
            refine j_icmp_ge (pc := 56) (tgt := 62) h dX0_countAhead_56 (by decide) (fun c56 => ?_) (fun c56 => ?_)
            · exact no _ (by have q3 := nI_le_of c56 (by omega) (by omega); rw [c28]; simp [ahd, q2]; omega)
            · exact yes _ (by have q3 : j < i := nI_lt' c56 (by omega); rw [c28]; simp [ahd, q2, q3])
  refine j_aload0 (pc := 0) h dX0_countAhead_0 ?_
  refine j_iload3 (pc := 1) h dX0_countAhead_1 ?_
  refine j_callVr (pc := 2) h dX0_countAhead_2 (k_X0_sizeOf f5 f6 fp hn hal hi) mv_X0_44 (f5) rfl rfl (by decide) (Nat.le_of_ble_eq_true rfl) (Nat.le_of_ble_eq_true rfl) (Nat.le_of_ble_eq_true rfl) ?_
  refine j_istore4 (pc := 5) h dX0_countAhead_5 rfl ?_
  refine j_iconst (pc := 7) h dX0_countAhead_7 ic_0 ?_
  refine j_istore5 (pc := 8) h dX0_countAhead_8 rfl ?_
  refine j_iconst (pc := 10) h dX0_countAhead_10 ic_0 ?_
  refine j_istore6 (pc := 11) h dX0_countAhead_11 rfl ?_
  exact lp nfl 0 none (by omega)
/-- the first of m from i on that has x ahead of it -/
def rnk (p : Nat → Bool) (a : Nat → Nat) (x : Int32) : Nat → Nat → Int32
  | _, 0 => -1
  | i, m + 1 => if p i = true ∧ nI (a i) = x then nI i else rnk p a x (i + 1) m
theorem k_X0_byBlocks {x : Int32} {s : Int64} (f5 : C 5 = some (oFi ad nfl)) (f6 : C 6 = some (eO g 40 al)) (fp : ∀ i, i < nfl → C (39 + 2 * i) = some (oSt ad (39 + 2 * i) (ow i) (nI (wo i)) (ln i) (ch i) (bl i))) (hn : nfl ≤ 40) (hal : isAl ad nfl lv al) : Cr l g yX0_byBlocks cX0_byBlocks 5 (some .int) 4 [.ref (ad 5), .long s, .int x] ad C (.int (rnk (fun j => mbr s (nI j)) (fun i => cnt (fun j => mbr s (nI j) && ahd (szF lv bl) i j) nfl) x 0 nfl)) := by
  refine Ct_of [some (.ref (ad 5)), some (.long s), none, some (.int x), none] (by decide) rfl rfl (Nat.le_of_ble_eq_true rfl) rfl rfl (fun X hX h => ?_)
  subst hX
  have lp : ∀ m i, i + m = nfl → rnk (fun j => mbr s (nI j)) (fun i => cnt (fun j => mbr s (nI j) && ahd (szF lv bl) i j) nfl) x i m = rnk (fun j => mbr s (nI j)) (fun i => cnt (fun j => mbr s (nI j) && ahd (szF lv bl) i j) nfl) x 0 nfl → J X g 5 (QR X g ad C (.int (rnk (fun j => mbr s (nI j)) (fun i => cnt (fun j => mbr s (nI j) && ahd (szF lv bl) i j) nfl) x 0 nfl))) 0 0 ad C 3 [some (.ref (ad 5)), some (.long s), none, some (.int x), some (.int (nI i))] [] := by
    intro m
    induction m with
    | zero =>
      intro i hi hs
      refine j_iload4 (pc := 3) h dX0_byBlocks_3 ?_
      refine j_aload0 (pc := 5) h dX0_byBlocks_5 ?_
      refine j_getf (pc := 6) h dX0_byBlocks_6 (f5) fl_X0_17 rfl ?_
      refine j_icmp_ge (pc := 9) (tgt := 41) h dX0_byBlocks_9 (by decide) (fun c9 => ?_) (fun c9 => absurd (nI_le (by omega) (by omega)) c9)
      refine j_iconst (pc := 41) h dX0_byBlocks_41 ic_m1 ?_
      refine j_iretr (pc := 42) h dX0_byBlocks_42 (hs)
    | succ m ih =>
      intro i hi hs
      refine j_iload4 (pc := 3) h dX0_byBlocks_3 ?_
      refine j_aload0 (pc := 5) h dX0_byBlocks_5 ?_
      refine j_getf (pc := 6) h dX0_byBlocks_6 (f5) fl_X0_17 rfl ?_
      refine j_icmp_ge (pc := 9) (tgt := 41) h dX0_byBlocks_9 (by decide) (fun c9 => absurd c9 (nI_ge (by omega) (by omega))) (fun c9 => ?_)
      refine j_lload1 (pc := 12) h dX0_byBlocks_12 ?_
      refine j_iload4 (pc := 13) h dX0_byBlocks_13 ?_
      refine j_callSr (pc := 15) h dX0_byBlocks_15 (k_X7_isMember) ms_X0_29 rfl rfl (by decide) (Nat.le_of_ble_eq_true rfl) (Nat.le_of_ble_eq_true rfl) (Nat.le_of_ble_eq_true rfl) ?_
      refine j_if_eqB (pc := 18) (tgt := 35) h dX0_byBlocks_18 (by decide) (fun c18 => ?_) (fun c18 => ?_)
      · refine j_iinc4 (pc := 35) h dX0_byBlocks_35 rfl (inc_n _) ?_
        refine j_goto (pc := 38) (tgt := 3) h dX0_byBlocks_38 (by decide) ?_
        exact ih (i + 1) (by omega) (by rw [← hs, rnk, if_neg]; intro q; rw [c18] at q; exact absurd q.1 (by decide))
      · refine j_aload0 (pc := 21) h dX0_byBlocks_21 ?_
        refine j_lload1 (pc := 22) h dX0_byBlocks_22 ?_
        refine j_iload4 (pc := 23) h dX0_byBlocks_23 ?_
        refine j_callVr (pc := 25) h dX0_byBlocks_25 (k_X0_countAhead f5 f6 fp hn hal (by omega)) mv_X0_40 (f5) rfl rfl (by decide) (Nat.le_of_ble_eq_true rfl) (Nat.le_of_ble_eq_true rfl) (Nat.le_of_ble_eq_true rfl) ?_
        refine j_iload3 (pc := 28) h dX0_byBlocks_28 ?_
        refine j_icmp_ne (pc := 29) (tgt := 35) h dX0_byBlocks_29 (by decide) (fun c29 => ?_) (fun c29 => ?_)
        · refine j_iinc4 (pc := 35) h dX0_byBlocks_35 rfl (inc_n _) ?_
          refine j_goto (pc := 38) (tgt := 3) h dX0_byBlocks_38 (by decide) ?_
          exact ih (i + 1) (by omega) (by rw [← hs, rnk, if_neg]; intro q; exact c29 q.2)
        · refine j_iload4 (pc := 32) h dX0_byBlocks_32 ?_
          refine j_iretr (pc := 34) h dX0_byBlocks_34 (by rw [← hs, rnk, if_pos ⟨c18, c29⟩])
  refine j_iconst (pc := 0) h dX0_byBlocks_0 ic_0 ?_
  refine j_istore4 (pc := 1) h dX0_byBlocks_1 rfl ?_
  exact lp nfl 0 (by omega) rfl
theorem k_X0_add {js : Nat} {vs : List Value} (f5 : C 5 = some (oFi ad nfl)) (f6 : C 6 = some (eO g 40 al)) (fs : C js = some (.inr (6, vs))) (hj : js ≠ 6) (hn : nfl < 40) : Cw l g yX0_add cX0_add 2 (some .int) 2 [.ref (ad 5), .ref (ad js)] ad C (some (.int (nI nfl))) (va_up (va_up C 6 (some (eO g 40 (va_up al nfl (some (ad js)))))) 5 (some (oFi ad (nfl + 1)))) := by
  refine Ct_of [some (.ref (ad 5)), some (.ref (ad js))] (by decide) rfl rfl (Nat.le_of_ble_eq_true rfl) rfl rfl (fun X hX h => ?_)
  subst hX
  refine j_aload0 (pc := 0) h dX0_add_0 ?_
  refine j_callVr (pc := 1) h dX0_add_1 (k_X0_hasRoom f5 (by omega)) mv_X0_21 (f5) rfl rfl (by decide) (Nat.le_of_ble_eq_true rfl) (Nat.le_of_ble_eq_true rfl) (Nat.le_of_ble_eq_true rfl) ?_
  refine j_if_neB (pc := 4) (tgt := 9) h dX0_add_4 (by decide) (fun c4 => ?_) (fun c4 => absurd c4 (by simp; omega))
  refine j_aload0 (pc := 9) h dX0_add_9 ?_
  refine j_getf (pc := 10) h dX0_add_10 (f5) fl_X0_11 rfl ?_
  refine j_aload0 (pc := 13) h dX0_add_13 ?_
  refine j_getf (pc := 14) h dX0_add_14 (f5) fl_X0_17 rfl ?_
  refine j_aload1 (pc := 17) h dX0_add_17 ?_
  refine j_aast (pc := 18) h dX0_add_18 (f6) (fs) rfl (by omega) (by decide) ?_
  refine j_aload0 (pc := 19) h dX0_add_19 ?_
  refine j_dupR (pc := 20) h dX0_add_20 ?_
  refine j_getf (pc := 21) h dX0_add_21 (f5) fl_X0_17 rfl ?_
  refine j_iconst (pc := 24) h dX0_add_24 ic_1 ?_
  refine j_iaddN (pc := 25) h dX0_add_25 ?_
  refine j_putv (pc := 26) h dX0_add_26 (f5) pl_X0_17 rfl rfl (Nat.le_of_ble_eq_true rfl) ?_
  refine j_aload0 (pc := 29) h dX0_add_29 ?_
  refine j_getf (pc := 30) h dX0_add_30 (rfl) fl_X0_17 rfl ?_
  refine j_iconst (pc := 33) h dX0_add_33 ic_1 ?_
  refine j_isubN (pc := 34) h dX0_add_34 (by omega) ?_
  refine j_iret (pc := 35) h dX0_add_35 (⟨rfl, rfl, rfl⟩)
theorem k_X0_forget {i : Nat} (f5 : C 5 = some (oFi ad nfl)) (f6 : C 6 = some (eO g 40 al)) (hn : nfl ≤ 40) (hi : i < nfl) : Cw l g yX0_forget cX0_forget 2 none 1 [.ref (ad 5), .int (nI i)] ad C none (va_up C 6 (some (eO g 40 (va_up al i none)))) := by
  refine Ct_of [some (.ref (ad 5)), some (.int (nI i))] (by decide) rfl rfl (Nat.le_of_ble_eq_true rfl) rfl rfl (fun X hX h => ?_)
  subst hX
  refine j_iload1 (pc := 0) h dX0_forget_0 ?_
  refine j_if_lt (pc := 1) (tgt := 19) h dX0_forget_1 (by decide) (fun c1 => absurd c1 (nI_pos (by omega))) (fun c1 => ?_)
  refine j_iload1 (pc := 4) h dX0_forget_4 ?_
  refine j_aload0 (pc := 5) h dX0_forget_5 ?_
  refine j_getf (pc := 6) h dX0_forget_6 (f5) fl_X0_17 rfl ?_
  refine j_icmp_ge (pc := 9) (tgt := 19) h dX0_forget_9 (by decide) (fun c9 => absurd c9 (nI_ge (by omega) (by omega))) (fun c9 => ?_)
  refine j_aload0 (pc := 12) h dX0_forget_12 ?_
  refine j_getf (pc := 13) h dX0_forget_13 (f5) fl_X0_11 rfl ?_
  refine j_iload1 (pc := 16) h dX0_forget_16 ?_
  refine j_null (pc := 17) h dX0_forget_17 ?_
  refine j_aastN (pc := 18) h dX0_forget_18 (f6) (by omega) (by decide) ?_
  refine j_vret (pc := 19) h dX0_forget_19 (⟨rfl, rfl, rfl⟩)
end FI

