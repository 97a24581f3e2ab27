theorem dX2_init_0 : decode cX2_init 0 = .ok (.aload_n 0, 1) := by decide +kernel
theorem dX2_init_1 : decode cX2_init 1 = .ok (.invokespecial 3, 3) := by decide +kernel
theorem dX2_init_4 : decode cX2_init 4 = .ok (.aload_n 0, 1) := by decide +kernel
theorem dX2_init_5 : decode cX2_init 5 = .ok (.bipush 20, 2) := by decide +kernel
theorem dX2_init_7 : decode cX2_init 7 = .ok (.newarray .int, 2) := by decide +kernel
theorem dX2_init_9 : decode cX2_init 9 = .ok (.putfield 9, 3) := by decide +kernel
theorem dX2_init_12 : decode cX2_init 12 = .ok (.aload_n 0, 1) := by decide +kernel
theorem dX2_init_13 : decode cX2_init 13 = .ok (.sipush 600, 3) := by decide +kernel
theorem dX2_init_16 : decode cX2_init 16 = .ok (.newarray .int, 2) := by decide +kernel
theorem dX2_init_18 : decode cX2_init 18 = .ok (.putfield 15, 3) := by decide +kernel
theorem dX2_init_21 : decode cX2_init 21 = .ok (.return_, 1) := by decide +kernel
theorem dX2_has_0 : decode cX2_has 0 = .ok (.iload_n 1, 1) := by decide +kernel
theorem dX2_has_1 : decode cX2_has 1 = .ok (.ifCond .lt 15, 3) := by decide +kernel
theorem dX2_has_4 : decode cX2_has 4 = .ok (.iload_n 1, 1) := by decide +kernel
theorem dX2_has_5 : decode cX2_has 5 = .ok (.aload_n 0, 1) := by decide +kernel
theorem dX2_has_6 : decode cX2_has 6 = .ok (.getfield 18, 3) := by decide +kernel
theorem dX2_has_9 : decode cX2_has 9 = .ok (.if_icmp .ge 7, 3) := by decide +kernel
theorem dX2_has_12 : decode cX2_has 12 = .ok (.iconst 1, 1) := by decide +kernel
theorem dX2_has_13 : decode cX2_has 13 = .ok (.goto 4, 3) := by decide +kernel
theorem dX2_has_16 : decode cX2_has 16 = .ok (.iconst 0, 1) := by decide +kernel
theorem dX2_has_17 : decode cX2_has 17 = .ok (.ireturn, 1) := by decide +kernel
theorem dX2_add_0 : decode cX2_add 0 = .ok (.aload_n 0, 1) := by decide +kernel
theorem dX2_add_1 : decode cX2_add 1 = .ok (.getfield 18, 3) := by decide +kernel
theorem dX2_add_4 : decode cX2_add 4 = .ok (.bipush 20, 2) := by decide +kernel
theorem dX2_add_6 : decode cX2_add 6 = .ok (.if_icmp .lt 5, 3) := by decide +kernel
theorem dX2_add_9 : decode cX2_add 9 = .ok (.iconst (-1), 1) := by decide +kernel
theorem dX2_add_10 : decode cX2_add 10 = .ok (.ireturn, 1) := by decide +kernel
theorem dX2_add_11 : decode cX2_add 11 = .ok (.aload_n 0, 1) := by decide +kernel
theorem dX2_add_12 : decode cX2_add 12 = .ok (.getfield 9, 3) := by decide +kernel
theorem dX2_add_15 : decode cX2_add 15 = .ok (.aload_n 0, 1) := by decide +kernel
theorem dX2_add_16 : decode cX2_add 16 = .ok (.getfield 18, 3) := by decide +kernel
theorem dX2_add_19 : decode cX2_add 19 = .ok (.iload_n 1, 1) := by decide +kernel
theorem dX2_add_20 : decode cX2_add 20 = .ok (.iastore, 1) := by decide +kernel
theorem dX2_add_21 : decode cX2_add 21 = .ok (.aload_n 0, 1) := by decide +kernel
theorem dX2_add_22 : decode cX2_add 22 = .ok (.dup, 1) := by decide +kernel
theorem dX2_add_23 : decode cX2_add 23 = .ok (.getfield 18, 3) := by decide +kernel
theorem dX2_add_26 : decode cX2_add 26 = .ok (.iconst 1, 1) := by decide +kernel
theorem dX2_add_27 : decode cX2_add 27 = .ok (.iadd, 1) := by decide +kernel
theorem dX2_add_28 : decode cX2_add 28 = .ok (.putfield 18, 3) := by decide +kernel
theorem dX2_add_31 : decode cX2_add 31 = .ok (.aload_n 0, 1) := by decide +kernel
theorem dX2_add_32 : decode cX2_add 32 = .ok (.getfield 18, 3) := by decide +kernel
theorem dX2_add_35 : decode cX2_add 35 = .ok (.iconst 1, 1) := by decide +kernel
theorem dX2_add_36 : decode cX2_add 36 = .ok (.isub, 1) := by decide +kernel
theorem dX2_add_37 : decode cX2_add 37 = .ok (.ireturn, 1) := by decide +kernel
theorem dX2_keep_0 : decode cX2_keep 0 = .ok (.aload_n 0, 1) := by decide +kernel
theorem dX2_keep_1 : decode cX2_keep 1 = .ok (.iload_n 1, 1) := by decide +kernel
theorem dX2_keep_2 : decode cX2_keep 2 = .ok (.iload_n 2, 1) := by decide +kernel
theorem dX2_keep_3 : decode cX2_keep 3 = .ok (.invokevirtual 22, 3) := by decide +kernel
theorem dX2_keep_6 : decode cX2_keep 6 = .ok (.ifCond .eq 15, 3) := by decide +kernel
theorem dX2_keep_9 : decode cX2_keep 9 = .ok (.aload_n 0, 1) := by decide +kernel
theorem dX2_keep_10 : decode cX2_keep 10 = .ok (.getfield 15, 3) := by decide +kernel
theorem dX2_keep_13 : decode cX2_keep 13 = .ok (.iload_n 1, 1) := by decide +kernel
theorem dX2_keep_14 : decode cX2_keep 14 = .ok (.bipush 30, 2) := by decide +kernel
theorem dX2_keep_16 : decode cX2_keep 16 = .ok (.imul, 1) := by decide +kernel
theorem dX2_keep_17 : decode cX2_keep 17 = .ok (.iload_n 2, 1) := by decide +kernel
theorem dX2_keep_18 : decode cX2_keep 18 = .ok (.iadd, 1) := by decide +kernel
theorem dX2_keep_19 : decode cX2_keep 19 = .ok (.iload_n 3, 1) := by decide +kernel
theorem dX2_keep_20 : decode cX2_keep 20 = .ok (.iastore, 1) := by decide +kernel
theorem dX2_keep_21 : decode cX2_keep 21 = .ok (.return_, 1) := by decide +kernel
theorem dX2_takenAt_0 : decode cX2_takenAt 0 = .ok (.aload_n 0, 1) := by decide +kernel
theorem dX2_takenAt_1 : decode cX2_takenAt 1 = .ok (.iload_n 1, 1) := by decide +kernel
theorem dX2_takenAt_2 : decode cX2_takenAt 2 = .ok (.iload_n 2, 1) := by decide +kernel
theorem dX2_takenAt_3 : decode cX2_takenAt 3 = .ok (.invokevirtual 22, 3) := by decide +kernel
theorem dX2_takenAt_6 : decode cX2_takenAt 6 = .ok (.ifCond .eq 17, 3) := by decide +kernel
theorem dX2_takenAt_9 : decode cX2_takenAt 9 = .ok (.aload_n 0, 1) := by decide +kernel
theorem dX2_takenAt_10 : decode cX2_takenAt 10 = .ok (.getfield 15, 3) := by decide +kernel
theorem dX2_takenAt_13 : decode cX2_takenAt 13 = .ok (.iload_n 1, 1) := by decide +kernel
theorem dX2_takenAt_14 : decode cX2_takenAt 14 = .ok (.bipush 30, 2) := by decide +kernel
theorem dX2_takenAt_16 : decode cX2_takenAt 16 = .ok (.imul, 1) := by decide +kernel
theorem dX2_takenAt_17 : decode cX2_takenAt 17 = .ok (.iload_n 2, 1) := by decide +kernel
theorem dX2_takenAt_18 : decode cX2_takenAt 18 = .ok (.iadd, 1) := by decide +kernel
theorem dX2_takenAt_19 : decode cX2_takenAt 19 = .ok (.iaload, 1) := by decide +kernel
theorem dX2_takenAt_20 : decode cX2_takenAt 20 = .ok (.goto 4, 3) := by decide +kernel
theorem dX2_takenAt_23 : decode cX2_takenAt 23 = .ok (.iconst 0, 1) := by decide +kernel
theorem dX2_takenAt_24 : decode cX2_takenAt 24 = .ok (.ireturn, 1) := by decide +kernel
theorem dX2_leastGrowth_0 : decode cX2_leastGrowth 0 = .ok (.iconst 0, 1) := by decide +kernel
theorem dX2_leastGrowth_1 : decode cX2_leastGrowth 1 = .ok (.istore_n 1, 1) := by decide +kernel
theorem dX2_leastGrowth_2 : decode cX2_leastGrowth 2 = .ok (.iconst 0, 1) := by decide +kernel
theorem dX2_leastGrowth_3 : decode cX2_leastGrowth 3 = .ok (.istore_n 2, 1) := by decide +kernel
theorem dX2_leastGrowth_4 : decode cX2_leastGrowth 4 = .ok (.iconst 1, 1) := by decide +kernel
theorem dX2_leastGrowth_5 : decode cX2_leastGrowth 5 = .ok (.istore_n 3, 1) := by decide +kernel
theorem dX2_leastGrowth_6 : decode cX2_leastGrowth 6 = .ok (.iload_n 3, 1) := by decide +kernel
theorem dX2_leastGrowth_7 : decode cX2_leastGrowth 7 = .ok (.aload_n 0, 1) := by decide +kernel
theorem dX2_leastGrowth_8 : decode cX2_leastGrowth 8 = .ok (.getfield 18, 3) := by decide +kernel
theorem dX2_leastGrowth_11 : decode cX2_leastGrowth 11 = .ok (.if_icmp .ge 61, 3) := by decide +kernel
theorem dX2_leastGrowth_14 : decode cX2_leastGrowth 14 = .ok (.aload_n 0, 1) := by decide +kernel
theorem dX2_leastGrowth_15 : decode cX2_leastGrowth 15 = .ok (.getfield 9, 3) := by decide +kernel
theorem dX2_leastGrowth_18 : decode cX2_leastGrowth 18 = .ok (.iload_n 3, 1) := by decide +kernel
theorem dX2_leastGrowth_19 : decode cX2_leastGrowth 19 = .ok (.iaload, 1) := by decide +kernel
theorem dX2_leastGrowth_20 : decode cX2_leastGrowth 20 = .ok (.aload_n 0, 1) := by decide +kernel
theorem dX2_leastGrowth_21 : decode cX2_leastGrowth 21 = .ok (.getfield 9, 3) := by decide +kernel
theorem dX2_leastGrowth_24 : decode cX2_leastGrowth 24 = .ok (.iload_n 3, 1) := by decide +kernel
theorem dX2_leastGrowth_25 : decode cX2_leastGrowth 25 = .ok (.iconst 1, 1) := by decide +kernel
theorem dX2_leastGrowth_26 : decode cX2_leastGrowth 26 = .ok (.isub, 1) := by decide +kernel
theorem dX2_leastGrowth_27 : decode cX2_leastGrowth 27 = .ok (.iaload, 1) := by decide +kernel
theorem dX2_leastGrowth_28 : decode cX2_leastGrowth 28 = .ok (.isub, 1) := by decide +kernel
theorem dX2_leastGrowth_29 : decode cX2_leastGrowth 29 = .ok (.istore 4, 2) := by decide +kernel
theorem dX2_leastGrowth_31 : decode cX2_leastGrowth 31 = .ok (.iload 4, 2) := by decide +kernel
theorem dX2_leastGrowth_33 : decode cX2_leastGrowth 33 = .ok (.ifCond .le 33, 3) := by decide +kernel
theorem dX2_leastGrowth_36 : decode cX2_leastGrowth 36 = .ok (.aload_n 0, 1) := by decide +kernel
theorem dX2_leastGrowth_37 : decode cX2_leastGrowth 37 = .ok (.iload_n 3, 1) := by decide +kernel
theorem dX2_leastGrowth_38 : decode cX2_leastGrowth 38 = .ok (.invokevirtual 26, 3) := by decide +kernel
theorem dX2_leastGrowth_41 : decode cX2_leastGrowth 41 = .ok (.iload 4, 2) := by decide +kernel
theorem dX2_leastGrowth_43 : decode cX2_leastGrowth 43 = .ok (.invokestatic 30, 3) := by decide +kernel
theorem dX2_leastGrowth_46 : decode cX2_leastGrowth 46 = .ok (.istore 5, 2) := by decide +kernel
theorem dX2_leastGrowth_48 : decode cX2_leastGrowth 48 = .ok (.iload_n 2, 1) := by decide +kernel
theorem dX2_leastGrowth_49 : decode cX2_leastGrowth 49 = .ok (.ifCond .eq 12, 3) := by decide +kernel
theorem dX2_leastGrowth_52 : decode cX2_leastGrowth 52 = .ok (.iload_n 1, 1) := by decide +kernel
theorem dX2_leastGrowth_53 : decode cX2_leastGrowth 53 = .ok (.iload 5, 2) := by decide +kernel
theorem dX2_leastGrowth_55 : decode cX2_leastGrowth 55 = .ok (.invokestatic 36, 3) := by decide +kernel
theorem dX2_leastGrowth_58 : decode cX2_leastGrowth 58 = .ok (.goto 5, 3) := by decide +kernel
theorem dX2_leastGrowth_61 : decode cX2_leastGrowth 61 = .ok (.iload 5, 2) := by decide +kernel
theorem dX2_leastGrowth_63 : decode cX2_leastGrowth 63 = .ok (.istore_n 1, 1) := by decide +kernel
theorem dX2_leastGrowth_64 : decode cX2_leastGrowth 64 = .ok (.iconst 1, 1) := by decide +kernel
theorem dX2_leastGrowth_65 : decode cX2_leastGrowth 65 = .ok (.istore_n 2, 1) := by decide +kernel
theorem dX2_leastGrowth_66 : decode cX2_leastGrowth 66 = .ok (.iinc 3 1, 3) := by decide +kernel
theorem dX2_leastGrowth_69 : decode cX2_leastGrowth 69 = .ok (.goto (-63), 3) := by decide +kernel
theorem dX2_leastGrowth_72 : decode cX2_leastGrowth 72 = .ok (.iload_n 1, 1) := by decide +kernel
theorem dX2_leastGrowth_73 : decode cX2_leastGrowth 73 = .ok (.ireturn, 1) := by decide +kernel
theorem dX2_greatestGrowth_0 : decode cX2_greatestGrowth 0 = .ok (.iconst 0, 1) := by decide +kernel
theorem dX2_greatestGrowth_1 : decode cX2_greatestGrowth 1 = .ok (.istore_n 1, 1) := by decide +kernel
theorem dX2_greatestGrowth_2 : decode cX2_greatestGrowth 2 = .ok (.iconst 1, 1) := by decide +kernel
theorem dX2_greatestGrowth_3 : decode cX2_greatestGrowth 3 = .ok (.istore_n 2, 1) := by decide +kernel
theorem dX2_greatestGrowth_4 : decode cX2_greatestGrowth 4 = .ok (.iload_n 2, 1) := by decide +kernel
theorem dX2_greatestGrowth_5 : decode cX2_greatestGrowth 5 = .ok (.aload_n 0, 1) := by decide +kernel
theorem dX2_greatestGrowth_6 : decode cX2_greatestGrowth 6 = .ok (.getfield 18, 3) := by decide +kernel
theorem dX2_greatestGrowth_9 : decode cX2_greatestGrowth 9 = .ok (.if_icmp .ge 45, 3) := by decide +kernel
theorem dX2_greatestGrowth_12 : decode cX2_greatestGrowth 12 = .ok (.aload_n 0, 1) := by decide +kernel
theorem dX2_greatestGrowth_13 : decode cX2_greatestGrowth 13 = .ok (.getfield 9, 3) := by decide +kernel
theorem dX2_greatestGrowth_16 : decode cX2_greatestGrowth 16 = .ok (.iload_n 2, 1) := by decide +kernel
theorem dX2_greatestGrowth_17 : decode cX2_greatestGrowth 17 = .ok (.iaload, 1) := by decide +kernel
theorem dX2_greatestGrowth_18 : decode cX2_greatestGrowth 18 = .ok (.aload_n 0, 1) := by decide +kernel
theorem dX2_greatestGrowth_19 : decode cX2_greatestGrowth 19 = .ok (.getfield 9, 3) := by decide +kernel
theorem dX2_greatestGrowth_22 : decode cX2_greatestGrowth 22 = .ok (.iload_n 2, 1) := by decide +kernel
theorem dX2_greatestGrowth_23 : decode cX2_greatestGrowth 23 = .ok (.iconst 1, 1) := by decide +kernel
theorem dX2_greatestGrowth_24 : decode cX2_greatestGrowth 24 = .ok (.isub, 1) := by decide +kernel
theorem dX2_greatestGrowth_25 : decode cX2_greatestGrowth 25 = .ok (.iaload, 1) := by decide +kernel
theorem dX2_greatestGrowth_26 : decode cX2_greatestGrowth 26 = .ok (.isub, 1) := by decide +kernel
theorem dX2_greatestGrowth_27 : decode cX2_greatestGrowth 27 = .ok (.istore_n 3, 1) := by decide +kernel
theorem dX2_greatestGrowth_28 : decode cX2_greatestGrowth 28 = .ok (.iload_n 3, 1) := by decide +kernel
theorem dX2_greatestGrowth_29 : decode cX2_greatestGrowth 29 = .ok (.ifCond .le 19, 3) := by decide +kernel
theorem dX2_greatestGrowth_32 : decode cX2_greatestGrowth 32 = .ok (.iload_n 1, 1) := by decide +kernel
theorem dX2_greatestGrowth_33 : decode cX2_greatestGrowth 33 = .ok (.aload_n 0, 1) := by decide +kernel
theorem dX2_greatestGrowth_34 : decode cX2_greatestGrowth 34 = .ok (.iload_n 2, 1) := by decide +kernel
theorem dX2_greatestGrowth_35 : decode cX2_greatestGrowth 35 = .ok (.invokevirtual 26, 3) := by decide +kernel
theorem dX2_greatestGrowth_38 : decode cX2_greatestGrowth 38 = .ok (.ineg, 1) := by decide +kernel
theorem dX2_greatestGrowth_39 : decode cX2_greatestGrowth 39 = .ok (.iload_n 3, 1) := by decide +kernel
theorem dX2_greatestGrowth_40 : decode cX2_greatestGrowth 40 = .ok (.invokestatic 30, 3) := by decide +kernel
theorem dX2_greatestGrowth_43 : decode cX2_greatestGrowth 43 = .ok (.ineg, 1) := by decide +kernel
theorem dX2_greatestGrowth_44 : decode cX2_greatestGrowth 44 = .ok (.invokestatic 39, 3) := by decide +kernel
theorem dX2_greatestGrowth_47 : decode cX2_greatestGrowth 47 = .ok (.istore_n 1, 1) := by decide +kernel
theorem dX2_greatestGrowth_48 : decode cX2_greatestGrowth 48 = .ok (.iinc 2 1, 3) := by decide +kernel
theorem dX2_greatestGrowth_51 : decode cX2_greatestGrowth 51 = .ok (.goto (-47), 3) := by decide +kernel
theorem dX2_greatestGrowth_54 : decode cX2_greatestGrowth 54 = .ok (.iload_n 1, 1) := by decide +kernel
theorem dX2_greatestGrowth_55 : decode cX2_greatestGrowth 55 = .ok (.ireturn, 1) := by decide +kernel
theorem dX2_moreAt_0 : decode cX2_moreAt 0 = .ok (.aload_n 0, 1) := by decide +kernel
theorem dX2_moreAt_1 : decode cX2_moreAt 1 = .ok (.iload_n 1, 1) := by decide +kernel
theorem dX2_moreAt_2 : decode cX2_moreAt 2 = .ok (.iconst 0, 1) := by decide +kernel
theorem dX2_moreAt_3 : decode cX2_moreAt 3 = .ok (.invokevirtual 42, 3) := by decide +kernel
theorem dX2_moreAt_6 : decode cX2_moreAt 6 = .ok (.aload_n 0, 1) := by decide +kernel
theorem dX2_moreAt_7 : decode cX2_moreAt 7 = .ok (.iload_n 1, 1) := by decide +kernel
theorem dX2_moreAt_8 : decode cX2_moreAt 8 = .ok (.iconst 1, 1) := by decide +kernel
theorem dX2_moreAt_9 : decode cX2_moreAt 9 = .ok (.isub, 1) := by decide +kernel
theorem dX2_moreAt_10 : decode cX2_moreAt 10 = .ok (.iconst 0, 1) := by decide +kernel
theorem dX2_moreAt_11 : decode cX2_moreAt 11 = .ok (.invokevirtual 42, 3) := by decide +kernel
theorem dX2_moreAt_14 : decode cX2_moreAt 14 = .ok (.isub, 1) := by decide +kernel
theorem dX2_moreAt_15 : decode cX2_moreAt 15 = .ok (.ireturn, 1) := by decide +kernel
theorem dX2_isKept_0 : decode cX2_isKept 0 = .ok (.aload_n 0, 1) := by decide +kernel
theorem dX2_isKept_1 : decode cX2_isKept 1 = .ok (.iload_n 1, 1) := by decide +kernel
theorem dX2_isKept_2 : decode cX2_isKept 2 = .ok (.invokevirtual 45, 3) := by decide +kernel
theorem dX2_isKept_5 : decode cX2_isKept 5 = .ok (.ifCond .eq 17, 3) := by decide +kernel
theorem dX2_isKept_8 : decode cX2_isKept 8 = .ok (.iload_n 2, 1) := by decide +kernel
theorem dX2_isKept_9 : decode cX2_isKept 9 = .ok (.ifCond .lt 13, 3) := by decide +kernel
theorem dX2_isKept_12 : decode cX2_isKept 12 = .ok (.iload_n 2, 1) := by decide +kernel
theorem dX2_isKept_13 : decode cX2_isKept 13 = .ok (.bipush 30, 2) := by decide +kernel
theorem dX2_isKept_15 : decode cX2_isKept 15 = .ok (.if_icmp .ge 7, 3) := by decide +kernel
theorem dX2_isKept_18 : decode cX2_isKept 18 = .ok (.iconst 1, 1) := by decide +kernel
theorem dX2_isKept_19 : decode cX2_isKept 19 = .ok (.goto 4, 3) := by decide +kernel
theorem dX2_isKept_22 : decode cX2_isKept 22 = .ok (.iconst 0, 1) := by decide +kernel
theorem dX2_isKept_23 : decode cX2_isKept 23 = .ok (.ireturn, 1) := by decide +kernel
/-! Marks -/
def oMa (ad : AD) (nm : Nat) : va_E := eC 2 [.ref (ad 14), .ref (ad 15), .int (nI nm)]
section MA
variable {l : Launch} {g : GG} {ad : AD} {C : CC} {nm : Nat} {md mt : Nat → Nat} {dy tk : Nat → Int32}
theorem k_X2_has {x : Int32} (f13 : C 13 = some (oMa ad nm)) (hn : nm ≤ 20) : Cr l g yX2_has cX2_has 2 (some .boolean) 1 [.ref (ad 13), .int x] ad C (.int (bI (inN x nm))) := by
  refine Ct_of [some (.ref (ad 13)), some (.int x)] (by decide) rfl rfl (Nat.le_of_ble_eq_true rfl) rfl rfl (fun X hX h => ?_)
  subst hX
  refine j_iload1 (pc := 0) h dX2_has_0 ?_
  refine j_if_lt (pc := 1) (tgt := 16) h dX2_has_1 (by decide) (fun c1 => ?_) (fun c1 => ?_)
  · refine j_iconst (pc := 16) h dX2_has_16 ic_0 ?_
    refine j_zretr (pc := 17) h dX2_has_17 (by decide) (bI_f (inN_no0 c1))
  · refine j_iload1 (pc := 4) h dX2_has_4 ?_
    refine j_aload0 (pc := 5) h dX2_has_5 ?_
    refine j_getf (pc := 6) h dX2_has_6 (f13) fl_X2_18 rfl ?_
    refine j_icmp_ge (pc := 9) (tgt := 16) h dX2_has_9 (by decide) (fun c9 => ?_) (fun c9 => ?_)
    · refine j_iconst (pc := 16) h dX2_has_16 ic_0 ?_
      refine j_zretr (pc := 17) h dX2_has_17 (by decide) (bI_f (inN_noN (by omega) c9))
    · refine j_iconst (pc := 12) h dX2_has_12 ic_1 ?_
      refine j_goto (pc := 13) (tgt := 17) h dX2_has_13 (by decide) ?_
      refine j_zretr (pc := 17) h dX2_has_17 (by decide) (bI_t (inN_yes (by omega) c1 c9))
theorem k_X2_isKept {x y : Int32} (f13 : C 13 = some (oMa ad nm)) (hn : nm ≤ 20) : Cr l g yX2_isKept cX2_isKept 3 (some .boolean) 2 [.ref (ad 13), .int x, .int y] ad C (.int (bI (inN x nm && inN y 30))) := by
  refine Ct_of [some (.ref (ad 13)), some (.int x), some (.int y)] (by decide) rfl rfl (Nat.le_of_ble_eq_true rfl) rfl rfl (fun X hX h => ?_)
  subst hX
  refine j_aload0 (pc := 0) h dX2_isKept_0 ?_
  refine j_iload1 (pc := 1) h dX2_isKept_1 ?_
  refine j_callVr (pc := 2) h dX2_isKept_2 (k_X2_has f13 hn) mv_X2_45 (f13) rfl rfl (by decide) (Nat.le_of_ble_eq_true rfl) (Nat.le_of_ble_eq_true rfl) (Nat.le_of_ble_eq_true rfl) ?_
  refine j_if_eqB (pc := 5) (tgt := 22) h dX2_isKept_5 (by decide) (fun c5 => ?_) (fun c5 => ?_)
  · refine j_iconst (pc := 22) h dX2_isKept_22 ic_0 ?_
    refine j_zretr (pc := 23) h dX2_isKept_23 (by decide) (bI_f (by rw [c5]; rfl))
  · refine j_iload2 (pc := 8) h dX2_isKept_8 ?_
    refine j_if_lt (pc := 9) (tgt := 22) h dX2_isKept_9 (by decide) (fun c9 => ?_) (fun c9 => ?_)
    · refine j_iconst (pc := 22) h dX2_isKept_22 ic_0 ?_
      refine j_zretr (pc := 23) h dX2_isKept_23 (by decide) (bI_f (by rw [inN_no0 c9]; simp))
    · refine j_iload2 (pc := 12) h dX2_isKept_12 ?_
      refine j_bipush (pc := 13) h dX2_isKept_13 bp_30 ?_
      refine j_icmp_ge (pc := 15) (tgt := 22) h dX2_isKept_15 (by decide) (fun c15 => ?_) (fun c15 => ?_)
      · refine j_iconst (pc := 22) h dX2_isKept_22 ic_0 ?_
        refine j_zretr (pc := 23) h dX2_isKept_23 (by decide) (bI_f (by rw [inN_noN (by decide) c15]; simp))
      · refine j_iconst (pc := 18) h dX2_isKept_18 ic_1 ?_
        refine j_goto (pc := 19) (tgt := 23) h dX2_isKept_19 (by decide) ?_
        refine j_zretr (pc := 23) h dX2_isKept_23 (by decide) (bI_t (by rw [c5, inN_yes (by decide) c9 c15]; rfl))
theorem k_X2_takenAt {i j : Nat} (f13 : C 13 = some (oMa ad nm)) (f15 : C 15 = some (eI g 600 tk)) (hn : nm ≤ 20) (hi : i < nm) (hj : j < 30) : Cr l g yX2_takenAt cX2_takenAt 3 (some .int) 3 [.ref (ad 13), .int (nI i), .int (nI j)] ad C (.int (tk (i * 30 + j))) := by
  refine Ct_of [some (.ref (ad 13)), some (.int (nI i)), some (.int (nI j))] (by decide) rfl rfl (Nat.le_of_ble_eq_true rfl) rfl rfl (fun X hX h => ?_)
  subst hX
  refine j_aload0 (pc := 0) h dX2_takenAt_0 ?_
  refine j_iload1 (pc := 1) h dX2_takenAt_1 ?_
  refine j_iload2 (pc := 2) h dX2_takenAt_2 ?_
  refine j_callVr (pc := 3) h dX2_takenAt_3 (k_X2_isKept f13 hn) mv_X2_22 (f13) rfl rfl (by decide) (Nat.le_of_ble_eq_true rfl) (Nat.le_of_ble_eq_true rfl) (Nat.le_of_ble_eq_true rfl) ?_
  refine j_if_eqB (pc := 6) (tgt := 23) h dX2_takenAt_6 (by decide) (fun c6 => absurd c6 (by rw [inN_nI (by omega), inN_nI (by omega)]; simp; omega)) (fun c6 => ?_)
  refine j_aload0 (pc := 9) h dX2_takenAt_9 ?_
  refine j_getf (pc := 10) h dX2_takenAt_10 (f13) fl_X2_15 rfl ?_
  refine j_iload1 (pc := 13) h dX2_takenAt_13 ?_
  refine j_bipush (pc := 14) h dX2_takenAt_14 bp_30 ?_
  refine j_imulN (pc := 16) h dX2_takenAt_16 ?_
  refine j_iload2 (pc := 17) h dX2_takenAt_17 ?_
  refine j_iaddN (pc := 18) h dX2_takenAt_18 ?_
  refine j_iald (pc := 19) h dX2_takenAt_19 (f15) (by omega) (by decide) ?_
  refine j_goto (pc := 20) (tgt := 24) h dX2_takenAt_20 (by decide) ?_
  refine j_iretr (pc := 24) h dX2_takenAt_24 (rfl)
theorem k_X2_keep {i j : Nat} {x : Int32} (f13 : C 13 = some (oMa ad nm)) (f15 : C 15 = some (eI g 600 tk)) (hn : nm ≤ 20) (hi : i < nm) (hj : j < 30) : Cw l g yX2_keep cX2_keep 4 none 3 [.ref (ad 13), .int (nI i), .int (nI j), .int x] ad C none (va_up C 15 (some (eI g 600 (upd tk (i * 30 + j) x)))) := by
  refine Ct_of [some (.ref (ad 13)), some (.int (nI i)), some (.int (nI j)), some (.int x)] (by decide) rfl rfl (Nat.le_of_ble_eq_true rfl) rfl rfl (fun X hX h => ?_)
  subst hX
  refine j_aload0 (pc := 0) h dX2_keep_0 ?_
  refine j_iload1 (pc := 1) h dX2_keep_1 ?_
  refine j_iload2 (pc := 2) h dX2_keep_2 ?_
  refine j_callVr (pc := 3) h dX2_keep_3 (k_X2_isKept f13 hn) mv_X2_22 (f13) rfl rfl (by decide) (Nat.le_of_ble_eq_true rfl) (Nat.le_of_ble_eq_true rfl) (Nat.le_of_ble_eq_true rfl) ?_
  refine j_if_eqB (pc := 6) (tgt := 21) h dX2_keep_6 (by decide) (fun c6 => absurd c6 (by rw [inN_nI (by omega), inN_nI (by omega)]; simp; omega)) (fun c6 => ?_)
  refine j_aload0 (pc := 9) h dX2_keep_9 ?_
  refine j_getf (pc := 10) h dX2_keep_10 (f13) fl_X2_15 rfl ?_
  refine j_iload1 (pc := 13) h dX2_keep_13 ?_
  refine j_bipush (pc := 14) h dX2_keep_14 bp_30 ?_
  refine j_imulN (pc := 16) h dX2_keep_16 ?_
  refine j_iload2 (pc := 17) h dX2_keep_17 ?_
  refine j_iaddN (pc := 18) h dX2_keep_18 ?_
  refine j_iload3 (pc := 19) h dX2_keep_19 ?_
  refine j_iast (pc := 20) h dX2_keep_20 (f15) (by omega) (by decide) ?_
  refine j_vret (pc := 21) h dX2_keep_21 (⟨rfl, rfl, rfl⟩)
theorem k_X2_add {x : Int32} (f13 : C 13 = some (oMa ad nm)) (f14 : C 14 = some (eI g 20 dy)) (hn : nm < 20) : Cw l g yX2_add cX2_add 2 (some .int) 1 [.ref (ad 13), .int x] ad C (some (.int (nI nm))) (va_up (va_up C 14 (some (eI g 20 (upd dy nm x)))) 13 (some (oMa ad (nm + 1)))) := by
  refine Ct_of [some (.ref (ad 13)), some (.int x)] (by decide) rfl rfl (Nat.le_of_ble_eq_true rfl) rfl rfl (fun X hX h => ?_)
  subst hX
  refine j_aload0 (pc := 0) h dX2_add_0 ?_
  refine j_getf (pc := 1) h dX2_add_1 (f13) fl_X2_18 rfl ?_
  refine j_bipush (pc := 4) h dX2_add_4 bp_20 ?_
  refine j_icmp_lt (pc := 6) (tgt := 11) h dX2_add_6 (by decide) (fun c6 => ?_) (fun c6 => absurd (nI_lt (by omega) (by omega)) c6)
  refine j_aload0 (pc := 11) h dX2_add_11 ?_
  refine j_getf (pc := 12) h dX2_add_12 (f13) fl_X2_9 rfl ?_
  refine j_aload0 (pc := 15) h dX2_add_15 ?_
  refine j_getf (pc := 16) h dX2_add_16 (f13) fl_X2_18 rfl ?_
  refine j_iload1 (pc := 19) h dX2_add_19 ?_
  refine j_iast (pc := 20) h dX2_add_20 (f14) (by omega) (by decide) ?_
  refine j_aload0 (pc := 21) h dX2_add_21 ?_
  refine j_dupR (pc := 22) h dX2_add_22 ?_
  refine j_getf (pc := 23) h dX2_add_23 (f13) fl_X2_18 rfl ?_
  refine j_iconst (pc := 26) h dX2_add_26 ic_1 ?_
  refine j_iaddN (pc := 27) h dX2_add_27 ?_
  refine j_putv (pc := 28) h dX2_add_28 (f13) pl_X2_18 rfl rfl (Nat.le_of_ble_eq_true rfl) ?_
  refine j_aload0 (pc := 31) h dX2_add_31 ?_
  refine j_getf (pc := 32) h dX2_add_32 (rfl) fl_X2_18 rfl ?_
  refine j_iconst (pc := 35) h dX2_add_35 ic_1 ?_
  refine j_isubN (pc := 36) h dX2_add_36 (by omega) ?_
  refine j_iret (pc := 37) h dX2_add_37 (⟨rfl, rfl, rfl⟩)
theorem k_X2_add_no {x : Int32} (f13 : C 13 = some (oMa ad nm)) (hn : nm = 20) : Cr l g yX2_add cX2_add 2 (some .int) 1 [.ref (ad 13), .int x] ad C (.int (-1)) := by
  refine Ct_of [some (.ref (ad 13)), some (.int x)] (by decide) rfl rfl (Nat.le_of_ble_eq_true rfl) rfl rfl (fun X hX h => ?_)
  subst hX
  refine j_aload0 (pc := 0) h dX2_add_0 ?_
  refine j_getf (pc := 1) h dX2_add_1 (f13) fl_X2_18 rfl ?_
  refine j_bipush (pc := 4) h dX2_add_4 bp_20 ?_
  refine j_icmp_lt (pc := 6) (tgt := 11) h dX2_add_6 (by decide) (fun c6 => absurd c6 (nI_nlt (by omega) (by omega))) (fun c6 => ?_)
  refine j_iconst (pc := 9) h dX2_add_9 ic_m1 ?_
  refine j_iretr (pc := 10) h dX2_add_10 (rfl)
theorem k_X2_moreAt {i : Nat} (f13 : C 13 = some (oMa ad nm)) (f15 : C 15 = some (eI g 600 tk)) (hn : nm ≤ 20) (hi : i + 1 < nm) : Cr l g yX2_moreAt cX2_moreAt 2 (some .int) 4 [.ref (ad 13), .int (nI (i + 1))] ad C (.int (tk ((i + 1) * 30) - tk (i * 30))) := by
  refine Ct_of [some (.ref (ad 13)), some (.int (nI (i + 1)))] (by decide) rfl rfl (Nat.le_of_ble_eq_true rfl) rfl rfl (fun X hX h => ?_)
  subst hX
  refine j_aload0 (pc := 0) h dX2_moreAt_0 ?_
  refine j_iload1 (pc := 1) h dX2_moreAt_1 ?_
  refine j_iconst (pc := 2) h dX2_moreAt_2 ic_0 ?_
  refine j_callVr (pc := 3) h dX2_moreAt_3 (k_X2_takenAt f13 f15 hn (by omega) (by omega)) mv_X2_42 (f13) rfl rfl (by decide) (Nat.le_of_ble_eq_true rfl) (Nat.le_of_ble_eq_true rfl) (Nat.le_of_ble_eq_true rfl) ?_
  refine j_aload0 (pc := 6) h dX2_moreAt_6 ?_
  refine j_iload1 (pc := 7) h dX2_moreAt_7 ?_
  refine j_iconst (pc := 8) h dX2_moreAt_8 ic_1 ?_
  refine j_isub1 (pc := 9) h dX2_moreAt_9 ?_
  refine j_iconst (pc := 10) h dX2_moreAt_10 ic_0 ?_
  refine j_callVr (pc := 11) h dX2_moreAt_11 (k_X2_takenAt f13 f15 hn (by omega) (by omega)) mv_X2_42 (f13) rfl rfl (by decide) (Nat.le_of_ble_eq_true rfl) (Nat.le_of_ble_eq_true rfl) (Nat.le_of_ble_eq_true rfl) ?_
  refine j_isub (pc := 14) h dX2_moreAt_14 ?_
  refine j_iretr (pc := 15) h dX2_moreAt_15 (rfl)
/-- the greatest and the least growth, over the first k + 1 marks -/
def grG (md : Nat → Nat) (tk : Nat → Int32) : Nat → Int32
  | 0 => nI 0
  | k + 1 => if md k < md (k + 1) then (let z := -fdv (-(tk ((k + 1) * 30) - tk (k * 30))) (nI (md (k + 1)) - nI (md k)); if grG md tk k < z then z else grG md tk k) else grG md tk k
def anyD (md : Nat → Nat) : Nat → Bool
  | 0 => false
  | k + 1 => anyD md k || decide (md k < md (k + 1))
def grL (md : Nat → Nat) (tk : Nat → Int32) : Nat → Int32
  | 0 => nI 0
  | k + 1 => if md k < md (k + 1) then (let z := fdv (tk ((k + 1) * 30) - tk (k * 30)) (nI (md (k + 1)) - nI (md k)); if anyD md k = true then (if z < grL md tk k then z else grL md tk k) else z) else grL md tk k
theorem days_le {a b : Nat} (ha : a < 2 ^ 30) (hb : b < 2 ^ 30) : nI b - nI a ≤ 0 ↔ ¬ a < b := by
  rw [Int32.le_iff_toInt_le, pk_sub_toInt hb ha]
  simp
  omega
theorem days_ne {a b : Nat} (ha : a < 2 ^ 30) (hb : b < 2 ^ 30) (h : a < b) : ¬ nI b - nI a = 0 := by
  intro q
  have := congrArg Int32.toInt q
  rw [pk_sub_toInt hb ha] at this
  simp at this
  omega
theorem k_X2_greatestGrowth (f13 : C 13 = some (oMa ad nm)) (f14 : C 14 = some (eI g 20 (fun i => nI (md i)))) (f15 : C 15 = some (eI g 600 tk)) (hn : nm ≤ 20) (hmd : ∀ i, i < nm → md i ≤ 5000) : Cr l g yX2_greatestGrowth cX2_greatestGrowth 4 (some .int) 5 [.ref (ad 13)] ad C (.int (grG md tk (nm - 1))) := by
  refine Ct_of [some (.ref (ad 13)), none, none, none] (by decide) rfl rfl (Nat.le_of_ble_eq_true rfl) rfl rfl (fun X hX h => ?_)
  subst hX
  have lp : ∀ m i z, i + 1 + m = nm ∨ (m = 0 ∧ nm = 0 ∧ i = 0) → J X g 4 (QR X g ad C (.int (grG md tk (nm - 1)))) 0 0 ad C 4 [some (.ref (ad 13)), some (.int (grG md tk i)), some (.int (nI (i + 1))), z] [] := by
    intro m
    induction m with
    | zero =>
      intro i z hi
      refine j_iload2 (pc := 4) h dX2_greatestGrowth_4 ?_
      refine j_aload0 (pc := 5) h dX2_greatestGrowth_5 ?_
      refine j_getf (pc := 6) h dX2_greatestGrowth_6 (f13) fl_X2_18 rfl ?_
      refine j_icmp_ge (pc := 9) (tgt := 54) h dX2_greatestGrowth_9 (by decide) (fun c9 => ?_) (fun c9 => absurd (nI_le (by omega) (by omega)) c9)
      refine j_iload1 (pc := 54) h dX2_greatestGrowth_54 ?_
      refine j_iretr (pc := 55) h dX2_greatestGrowth_55 (by rw [show i = nm - 1 by omega])
    | succ m ih =>
      intro i z hi
      have h1 := hmd i (by omega)
      have h2 := hmd (i + 1) (by omega)
      refine j_iload2 (pc := 4) h dX2_greatestGrowth_4 ?_
      refine j_aload0 (pc := 5) h dX2_greatestGrowth_5 ?_
      refine j_getf (pc := 6) h dX2_greatestGrowth_6 (f13) fl_X2_18 rfl ?_
      refine j_icmp_ge (pc := 9) (tgt := 54) h dX2_greatestGrowth_9 (by decide) (fun c9 => absurd c9 (nI_ge (by omega) (by omega))) (fun c9 => ?_)
      refine j_aload0 (pc := 12) h dX2_greatestGrowth_12 ?_
      refine j_getf (pc := 13) h dX2_greatestGrowth_13 (f13) fl_X2_9 rfl ?_
      refine j_iload2 (pc := 16) h dX2_greatestGrowth_16 ?_
      refine j_iald (pc := 17) h dX2_greatestGrowth_17 (f14) (by omega) (by decide) ?_
      refine j_aload0 (pc := 18) h dX2_greatestGrowth_18 ?_
      refine j_getf (pc := 19) h dX2_greatestGrowth_19 (f13) fl_X2_9 rfl ?_
      refine j_iload2 (pc := 22) h dX2_greatestGrowth_22 ?_
      refine j_iconst (pc := 23) h dX2_greatestGrowth_23 ic_1 ?_
      refine j_isub1 (pc := 24) h dX2_greatestGrowth_24 ?_
      refine j_iald (pc := 25) h dX2_greatestGrowth_25 (f14) (by omega) (by decide) ?_
      refine j_isub (pc := 26) h dX2_greatestGrowth_26 ?_
      refine j_istore3 (pc := 27) h dX2_greatestGrowth_27 rfl ?_
      refine j_iload3 (pc := 28) h dX2_greatestGrowth_28 ?_
      refine j_if_le (pc := 29) (tgt := 48) h dX2_greatestGrowth_29 (by decide) (fun c29 => ?_) (fun c29 => ?_)
      · refine j_iinc2 (pc := 48) h dX2_greatestGrowth_48 rfl (inc_n _) ?_
        refine j_goto (pc := 51) (tgt := 4) h dX2_greatestGrowth_51 (by decide) ?_
        rw [show grG md tk i = grG md tk (i + 1) from by rw [grG, if_neg ((days_le (by omega) (by omega)).mp c29)]]
        exact ih (i + 1) _ (by omega)
      · have hd : md i < md (i + 1) := Decidable.byContradiction (fun q => c29 ((days_le (by omega) (by omega)).mpr q))
        refine j_iload1 (pc := 32) h dX2_greatestGrowth_32 ?_
        refine j_aload0 (pc := 33) h dX2_greatestGrowth_33 ?_
        refine j_iload2 (pc := 34) h dX2_greatestGrowth_34 ?_
        refine j_callVr (pc := 35) h dX2_greatestGrowth_35 (k_X2_moreAt f13 f15 hn (by omega)) mv_X2_26 (f13) rfl rfl (by decide) (Nat.le_of_ble_eq_true rfl) (Nat.le_of_ble_eq_true rfl) (Nat.le_of_ble_eq_true rfl) ?_
        refine j_ineg (pc := 38) h dX2_greatestGrowth_38 ?_
        refine j_iload3 (pc := 39) h dX2_greatestGrowth_39 ?_
        refine j_callSr (pc := 40) h dX2_greatestGrowth_40 (k_J9_floorDiv_7cf53 (days_ne (by omega) (by omega) hd)) ms_X2_30 rfl rfl (by decide) (Nat.le_of_ble_eq_true rfl) (Nat.le_of_ble_eq_true rfl) (Nat.le_of_ble_eq_true rfl) ?_
        refine j_ineg (pc := 43) h dX2_greatestGrowth_43 ?_
        refine j_callSr (pc := 44) h dX2_greatestGrowth_44 (k_J9_max_7cf53) ms_X2_39 rfl rfl (by decide) (Nat.le_of_ble_eq_true rfl) (Nat.le_of_ble_eq_true rfl) (Nat.le_of_ble_eq_true rfl) ?_
        refine j_istore1 (pc := 47) h dX2_greatestGrowth_47 rfl ?_
        refine j_iinc2 (pc := 48) h dX2_greatestGrowth_48 rfl (inc_n _) ?_
        refine j_goto (pc := 51) (tgt := 4) h dX2_greatestGrowth_51 (by decide) ?_
        have ih' := ih (i + 1)
        rw [show grG md tk (i + 1) = if grG md tk i < -fdv (-(tk ((i + 1) * 30) - tk (i * 30))) (nI (md (i + 1)) - nI (md i)) then -fdv (-(tk ((i + 1) * 30) - tk (i * 30))) (nI (md (i + 1)) - nI (md i)) else grG md tk i from by rw [grG, if_pos hd]] at ih'
        exact ih' _ (by omega)
  refine j_iconst (pc := 0) h dX2_greatestGrowth_0 ic_0 ?_
  refine j_istore1 (pc := 1) h dX2_greatestGrowth_1 rfl ?_
  refine j_iconst (pc := 2) h dX2_greatestGrowth_2 ic_1 ?_
  refine j_istore2 (pc := 3) h dX2_greatestGrowth_3 rfl ?_
  exact lp (nm - 1) 0 none (by omega)
theorem k_X2_leastGrowth (f13 : C 13 = some (oMa ad nm)) (f14 : C 14 = some (eI g 20 (fun i => nI (md i)))) (f15 : C 15 = some (eI g 600 tk)) (hn : nm ≤ 20) (hmd : ∀ i, i < nm → md i ≤ 5000) : Cr l g yX2_leastGrowth cX2_leastGrowth 6 (some .int) 5 [.ref (ad 13)] ad C (.int (grL md tk (nm - 1))) := by
  refine Ct_of [some (.ref (ad 13)), none, none, none, none, none] (by decide) rfl rfl (Nat.le_of_ble_eq_true rfl) rfl rfl (fun X hX h => ?_)
  subst hX
  have lp : ∀ m i z z2, i + 1 + m = nm ∨ (m = 0 ∧ nm = 0 ∧ i = 0) → J X g 6 (QR X g ad C (.int (grL md tk (nm - 1)))) 0 0 ad C 6 [some (.ref (ad 13)), some (.int (grL md tk i)), some (.int (bI (anyD md i))), some (.int (nI (i + 1))), z, z2] [] := by
    intro m
    induction m with
    | zero =>
      intro i z z2 hi
      refine j_iload3 (pc := 6) h dX2_leastGrowth_6 ?_
      refine j_aload0 (pc := 7) h dX2_leastGrowth_7 ?_
      refine j_getf (pc := 8) h dX2_leastGrowth_8 (f13) fl_X2_18 rfl ?_
      refine j_icmp_ge (pc := 11) (tgt := 72) h dX2_leastGrowth_11 (by decide) (fun c11 => ?_) (fun c11 => absurd (nI_le (by omega) (by omega)) c11)
      refine j_iload1 (pc := 72) h dX2_leastGrowth_72 ?_
      refine j_iretr (pc := 73) h dX2_leastGrowth_73 (by rw [show i = nm - 1 by omega])
    | succ m ih =>
      intro i z z2 hi
      have h1 := hmd i (by omega)
      have h2 := hmd (i + 1) (by omega)
      refine j_iload3 (pc := 6) h dX2_leastGrowth_6 ?_
      refine j_aload0 (pc := 7) h dX2_leastGrowth_7 ?_
      refine j_getf (pc := 8) h dX2_leastGrowth_8 (f13) fl_X2_18 rfl ?_
      refine j_icmp_ge (pc := 11) (tgt := 72) h dX2_leastGrowth_11 (by decide) (fun c11 => absurd c11 (nI_ge (by omega) (by omega))) (fun c11 => ?_)
      refine j_aload0 (pc := 14) h dX2_leastGrowth_14 ?_
      refine j_getf (pc := 15) h dX2_leastGrowth_15 (f13) fl_X2_9 rfl ?_
      refine j_iload3 (pc := 18) h dX2_leastGrowth_18 ?_
      refine j_iald (pc := 19) h dX2_leastGrowth_19 (f14) (by omega) (by decide) ?_
      refine j_aload0 (pc := 20) h dX2_leastGrowth_20 ?_
      refine j_getf (pc := 21) h dX2_leastGrowth_21 (f13) fl_X2_9 rfl ?_
      refine j_iload3 (pc := 24) h dX2_leastGrowth_24 ?_
      refine j_iconst (pc := 25) h dX2_leastGrowth_25 ic_1 ?_
      refine j_isub1 (pc := 26) h dX2_leastGrowth_26 ?_
      refine j_iald (pc := 27) h dX2_leastGrowth_27 (f14) (by omega) (by decide) ?_
      refine j_isub (pc := 28) h dX2_leastGrowth_28 ?_
      refine j_istore4 (pc := 29) h dX2_leastGrowth_29 rfl ?_
      refine j_iload4 (pc := 31) h dX2_leastGrowth_31 ?_
      refine j_if_le (pc := 33) (tgt := 66) h dX2_leastGrowth_33 (by decide) (fun c33 => ?_) (fun c33 => ?_)
      · have hd := (days_le (by omega) (by omega)).mp c33
        refine j_iinc3 (pc := 66) h dX2_leastGrowth_66 rfl (inc_n _) ?_
        refine j_goto (pc := 69) (tgt := 6) h dX2_leastGrowth_69 (by decide) ?_
        rw [show grL md tk i = grL md tk (i + 1) from by rw [grL, if_neg hd], show anyD md i = anyD md (i + 1) from by simp [anyD, hd]]
        exact ih (i + 1) _ _ (by omega)
      · have hd : md i < md (i + 1) := Decidable.byContradiction (fun q => c33 ((days_le (by omega) (by omega)).mpr q))
        have ha : anyD md (i + 1) = true := by simp [anyD, hd]
        refine j_aload0 (pc := 36) h dX2_leastGrowth_36 ?_
        refine j_iload3 (pc := 37) h dX2_leastGrowth_37 ?_
        refine j_callVr (pc := 38) h dX2_leastGrowth_38 (k_X2_moreAt f13 f15 hn (by omega)) mv_X2_26 (f13) rfl rfl (by decide) (Nat.le_of_ble_eq_true rfl) (Nat.le_of_ble_eq_true rfl) (Nat.le_of_ble_eq_true rfl) ?_
        refine j_iload4 (pc := 41) h dX2_leastGrowth_41 ?_
        refine j_callSr (pc := 43) h dX2_leastGrowth_43 (k_J9_floorDiv_7cf53 (days_ne (by omega) (by omega) hd)) ms_X2_30 rfl rfl (by decide) (Nat.le_of_ble_eq_true rfl) (Nat.le_of_ble_eq_true rfl) (Nat.le_of_ble_eq_true rfl) ?_
        refine j_istore5 (pc := 46) h dX2_leastGrowth_46 rfl ?_
        refine j_iload2 (pc := 48) h dX2_leastGrowth_48 ?_
        refine j_if_eqB (pc := 49) (tgt := 61) h dX2_leastGrowth_49 (by decide) (fun c49 => ?_) (fun c49 => ?_)
        · refine j_iload5 (pc := 61) h dX2_leastGrowth_61 ?_
          refine j_istore1 (pc := 63) h dX2_leastGrowth_63 rfl ?_
          refine j_iconst (pc := 64) h dX2_leastGrowth_64 ic_1 ?_
          refine j_istore2 (pc := 65) h dX2_leastGrowth_65 rfl ?_
          refine j_iinc3 (pc := 66) h dX2_leastGrowth_66 rfl (inc_n _) ?_
          refine j_goto (pc := 69) (tgt := 6) h dX2_leastGrowth_69 (by decide) ?_
          have ih' := ih (i + 1)
          rw [show grL md tk (i + 1) = fdv (tk ((i + 1) * 30) - tk (i * 30)) (nI (md (i + 1)) - nI (md i)) from by rw [grL, if_pos hd]; simp [c49], ha] at ih'
          exact ih' _ _ (by omega)
        · refine j_iload1 (pc := 52) h dX2_leastGrowth_52 ?_
          refine j_iload5 (pc := 53) h dX2_leastGrowth_53 ?_
          refine j_callSr (pc := 55) h dX2_leastGrowth_55 (k_J9_min_7cf53) ms_X2_36 rfl rfl (by decide) (Nat.le_of_ble_eq_true rfl) (Nat.le_of_ble_eq_true rfl) (Nat.le_of_ble_eq_true rfl) ?_
          refine j_goto (pc := 58) (tgt := 63) h dX2_leastGrowth_58 (by decide) ?_
          refine j_istore1 (pc := 63) h dX2_leastGrowth_63 rfl ?_
          refine j_iconst (pc := 64) h dX2_leastGrowth_64 ic_1 ?_
          refine j_istore2 (pc := 65) h dX2_leastGrowth_65 rfl ?_
          refine j_iinc3 (pc := 66) h dX2_leastGrowth_66 rfl (inc_n _) ?_
          refine j_goto (pc := 69) (tgt := 6) h dX2_leastGrowth_69 (by decide) ?_
          have ih' := ih (i + 1)
          rw [show grL md tk (i + 1) = if fdv (tk ((i + 1) * 30) - tk (i * 30)) (nI (md (i + 1)) - nI (md i)) < grL md tk i then fdv (tk ((i + 1) * 30) - tk (i * 30)) (nI (md (i + 1)) - nI (md i)) else grL md tk i from by rw [grL, if_pos hd]; simp [c49], ha] at ih'
          exact ih' _ _ (by omega)
  refine j_iconst (pc := 0) h dX2_leastGrowth_0 ic_0 ?_
  refine j_istore1 (pc := 1) h dX2_leastGrowth_1 rfl ?_
  refine j_iconst (pc := 2) h dX2_leastGrowth_2 ic_0 ?_
  refine j_istore2 (pc := 3) h dX2_leastGrowth_3 rfl ?_
  refine j_iconst (pc := 4) h dX2_leastGrowth_4 ic_1 ?_
  refine j_istore3 (pc := 5) h dX2_leastGrowth_5 rfl ?_
  exact lp (nm - 1) 0 none none (by omega)
end MA

