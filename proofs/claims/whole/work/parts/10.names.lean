theorem dX3_init_0 : decode cX3_init 0 = .ok (.aload_n 0, 1) := by decide +kernel
theorem dX3_init_1 : decode cX3_init 1 = .ok (.invokespecial 3, 3) := by decide +kernel
theorem dX3_init_4 : decode cX3_init 4 = .ok (.aload_n 0, 1) := by decide +kernel
theorem dX3_init_5 : decode cX3_init 5 = .ok (.bipush 100, 2) := by decide +kernel
theorem dX3_init_7 : decode cX3_init 7 = .ok (.newarray .int, 2) := by decide +kernel
theorem dX3_init_9 : decode cX3_init 9 = .ok (.putfield 9, 3) := by decide +kernel
theorem dX3_init_12 : decode cX3_init 12 = .ok (.aload_n 0, 1) := by decide +kernel
theorem dX3_init_13 : decode cX3_init 13 = .ok (.bipush 100, 2) := by decide +kernel
theorem dX3_init_15 : decode cX3_init 15 = .ok (.newarray .int, 2) := by decide +kernel
theorem dX3_init_17 : decode cX3_init 17 = .ok (.putfield 15, 3) := by decide +kernel
theorem dX3_init_20 : decode cX3_init 20 = .ok (.return_, 1) := by decide +kernel
theorem dX3_hasRoom_0 : decode cX3_hasRoom 0 = .ok (.aload_n 0, 1) := by decide +kernel
theorem dX3_hasRoom_1 : decode cX3_hasRoom 1 = .ok (.getfield 18, 3) := by decide +kernel
theorem dX3_hasRoom_4 : decode cX3_hasRoom 4 = .ok (.bipush 100, 2) := by decide +kernel
theorem dX3_hasRoom_6 : decode cX3_hasRoom 6 = .ok (.if_icmp .ge 7, 3) := by decide +kernel
theorem dX3_hasRoom_9 : decode cX3_hasRoom 9 = .ok (.iconst 1, 1) := by decide +kernel
theorem dX3_hasRoom_10 : decode cX3_hasRoom 10 = .ok (.goto 4, 3) := by decide +kernel
theorem dX3_hasRoom_13 : decode cX3_hasRoom 13 = .ok (.iconst 0, 1) := by decide +kernel
theorem dX3_hasRoom_14 : decode cX3_hasRoom 14 = .ok (.ireturn, 1) := by decide +kernel
theorem dX3_add_0 : decode cX3_add 0 = .ok (.aload_n 0, 1) := by decide +kernel
theorem dX3_add_1 : decode cX3_add 1 = .ok (.invokevirtual 22, 3) := by decide +kernel
theorem dX3_add_4 : decode cX3_add 4 = .ok (.ifCond .ne 5, 3) := by decide +kernel
theorem dX3_add_7 : decode cX3_add 7 = .ok (.iconst (-1), 1) := by decide +kernel
theorem dX3_add_8 : decode cX3_add 8 = .ok (.ireturn, 1) := by decide +kernel
theorem dX3_add_9 : decode cX3_add 9 = .ok (.aload_n 0, 1) := by decide +kernel
theorem dX3_add_10 : decode cX3_add 10 = .ok (.getfield 9, 3) := by decide +kernel
theorem dX3_add_13 : decode cX3_add 13 = .ok (.aload_n 0, 1) := by decide +kernel
theorem dX3_add_14 : decode cX3_add 14 = .ok (.getfield 18, 3) := by decide +kernel
theorem dX3_add_17 : decode cX3_add 17 = .ok (.iload_n 1, 1) := by decide +kernel
theorem dX3_add_18 : decode cX3_add 18 = .ok (.iastore, 1) := by decide +kernel
theorem dX3_add_19 : decode cX3_add 19 = .ok (.aload_n 0, 1) := by decide +kernel
theorem dX3_add_20 : decode cX3_add 20 = .ok (.getfield 15, 3) := by decide +kernel
theorem dX3_add_23 : decode cX3_add 23 = .ok (.aload_n 0, 1) := by decide +kernel
theorem dX3_add_24 : decode cX3_add 24 = .ok (.getfield 18, 3) := by decide +kernel
theorem dX3_add_27 : decode cX3_add 27 = .ok (.iload_n 2, 1) := by decide +kernel
theorem dX3_add_28 : decode cX3_add 28 = .ok (.iastore, 1) := by decide +kernel
theorem dX3_add_29 : decode cX3_add 29 = .ok (.aload_n 0, 1) := by decide +kernel
theorem dX3_add_30 : decode cX3_add 30 = .ok (.dup, 1) := by decide +kernel
theorem dX3_add_31 : decode cX3_add 31 = .ok (.getfield 18, 3) := by decide +kernel
theorem dX3_add_34 : decode cX3_add 34 = .ok (.iconst 1, 1) := by decide +kernel
theorem dX3_add_35 : decode cX3_add 35 = .ok (.iadd, 1) := by decide +kernel
theorem dX3_add_36 : decode cX3_add 36 = .ok (.putfield 18, 3) := by decide +kernel
theorem dX3_add_39 : decode cX3_add 39 = .ok (.aload_n 0, 1) := by decide +kernel
theorem dX3_add_40 : decode cX3_add 40 = .ok (.getfield 18, 3) := by decide +kernel
theorem dX3_add_43 : decode cX3_add 43 = .ok (.iconst 1, 1) := by decide +kernel
theorem dX3_add_44 : decode cX3_add 44 = .ok (.isub, 1) := by decide +kernel
theorem dX3_add_45 : decode cX3_add 45 = .ok (.ireturn, 1) := by decide +kernel
theorem dX3_fileOf_0 : decode cX3_fileOf 0 = .ok (.iload_n 1, 1) := by decide +kernel
theorem dX3_fileOf_1 : decode cX3_fileOf 1 = .ok (.ifCond .lt 20, 3) := by decide +kernel
theorem dX3_fileOf_4 : decode cX3_fileOf 4 = .ok (.iload_n 1, 1) := by decide +kernel
theorem dX3_fileOf_5 : decode cX3_fileOf 5 = .ok (.aload_n 0, 1) := by decide +kernel
theorem dX3_fileOf_6 : decode cX3_fileOf 6 = .ok (.getfield 18, 3) := by decide +kernel
theorem dX3_fileOf_9 : decode cX3_fileOf 9 = .ok (.if_icmp .ge 12, 3) := by decide +kernel
theorem dX3_fileOf_12 : decode cX3_fileOf 12 = .ok (.aload_n 0, 1) := by decide +kernel
theorem dX3_fileOf_13 : decode cX3_fileOf 13 = .ok (.getfield 9, 3) := by decide +kernel
theorem dX3_fileOf_16 : decode cX3_fileOf 16 = .ok (.iload_n 1, 1) := by decide +kernel
theorem dX3_fileOf_17 : decode cX3_fileOf 17 = .ok (.iaload, 1) := by decide +kernel
theorem dX3_fileOf_18 : decode cX3_fileOf 18 = .ok (.goto 4, 3) := by decide +kernel
theorem dX3_fileOf_21 : decode cX3_fileOf 21 = .ok (.iconst (-1), 1) := by decide +kernel
theorem dX3_fileOf_22 : decode cX3_fileOf 22 = .ok (.ireturn, 1) := by decide +kernel
theorem dX3_remove_0 : decode cX3_remove 0 = .ok (.iload_n 1, 1) := by decide +kernel
theorem dX3_remove_1 : decode cX3_remove 1 = .ok (.ifCond .lt 18, 3) := by decide +kernel
theorem dX3_remove_4 : decode cX3_remove 4 = .ok (.iload_n 1, 1) := by decide +kernel
theorem dX3_remove_5 : decode cX3_remove 5 = .ok (.aload_n 0, 1) := by decide +kernel
theorem dX3_remove_6 : decode cX3_remove 6 = .ok (.getfield 18, 3) := by decide +kernel
theorem dX3_remove_9 : decode cX3_remove 9 = .ok (.if_icmp .ge 10, 3) := by decide +kernel
theorem dX3_remove_12 : decode cX3_remove 12 = .ok (.aload_n 0, 1) := by decide +kernel
theorem dX3_remove_13 : decode cX3_remove 13 = .ok (.getfield 9, 3) := by decide +kernel
theorem dX3_remove_16 : decode cX3_remove 16 = .ok (.iload_n 1, 1) := by decide +kernel
theorem dX3_remove_17 : decode cX3_remove 17 = .ok (.iconst (-1), 1) := by decide +kernel
theorem dX3_remove_18 : decode cX3_remove 18 = .ok (.iastore, 1) := by decide +kernel
theorem dX3_remove_19 : decode cX3_remove 19 = .ok (.return_, 1) := by decide +kernel
theorem dX3_countOf_0 : decode cX3_countOf 0 = .ok (.iconst 0, 1) := by decide +kernel
theorem dX3_countOf_1 : decode cX3_countOf 1 = .ok (.istore_n 2, 1) := by decide +kernel
theorem dX3_countOf_2 : decode cX3_countOf 2 = .ok (.iconst 0, 1) := by decide +kernel
theorem dX3_countOf_3 : decode cX3_countOf 3 = .ok (.istore_n 3, 1) := by decide +kernel
theorem dX3_countOf_4 : decode cX3_countOf 4 = .ok (.iload_n 3, 1) := by decide +kernel
theorem dX3_countOf_5 : decode cX3_countOf 5 = .ok (.aload_n 0, 1) := by decide +kernel
theorem dX3_countOf_6 : decode cX3_countOf 6 = .ok (.getfield 18, 3) := by decide +kernel
theorem dX3_countOf_9 : decode cX3_countOf 9 = .ok (.if_icmp .ge 22, 3) := by decide +kernel
theorem dX3_countOf_12 : decode cX3_countOf 12 = .ok (.aload_n 0, 1) := by decide +kernel
theorem dX3_countOf_13 : decode cX3_countOf 13 = .ok (.getfield 9, 3) := by decide +kernel
theorem dX3_countOf_16 : decode cX3_countOf 16 = .ok (.iload_n 3, 1) := by decide +kernel
theorem dX3_countOf_17 : decode cX3_countOf 17 = .ok (.iaload, 1) := by decide +kernel
theorem dX3_countOf_18 : decode cX3_countOf 18 = .ok (.iload_n 1, 1) := by decide +kernel
theorem dX3_countOf_19 : decode cX3_countOf 19 = .ok (.if_icmp .ne 6, 3) := by decide +kernel
theorem dX3_countOf_22 : decode cX3_countOf 22 = .ok (.iinc 2 1, 3) := by decide +kernel
theorem dX3_countOf_25 : decode cX3_countOf 25 = .ok (.iinc 3 1, 3) := by decide +kernel
theorem dX3_countOf_28 : decode cX3_countOf 28 = .ok (.goto (-24), 3) := by decide +kernel
theorem dX3_countOf_31 : decode cX3_countOf 31 = .ok (.iload_n 2, 1) := by decide +kernel
theorem dX3_countOf_32 : decode cX3_countOf 32 = .ok (.ireturn, 1) := by decide +kernel
theorem dX3_countThere_0 : decode cX3_countThere 0 = .ok (.aload_n 0, 1) := by decide +kernel
theorem dX3_countThere_1 : decode cX3_countThere 1 = .ok (.getfield 18, 3) := by decide +kernel
theorem dX3_countThere_4 : decode cX3_countThere 4 = .ok (.aload_n 0, 1) := by decide +kernel
theorem dX3_countThere_5 : decode cX3_countThere 5 = .ok (.iconst (-1), 1) := by decide +kernel
theorem dX3_countThere_6 : decode cX3_countThere 6 = .ok (.invokevirtual 26, 3) := by decide +kernel
theorem dX3_countThere_9 : decode cX3_countThere 9 = .ok (.isub, 1) := by decide +kernel
theorem dX3_countThere_10 : decode cX3_countThere 10 = .ok (.ireturn, 1) := by decide +kernel
theorem dX3_memberIn_0 : decode cX3_memberIn 0 = .ok (.iconst 0, 1) := by decide +kernel
theorem dX3_memberIn_1 : decode cX3_memberIn 1 = .ok (.istore_n 3, 1) := by decide +kernel
theorem dX3_memberIn_2 : decode cX3_memberIn 2 = .ok (.iconst 0, 1) := by decide +kernel
theorem dX3_memberIn_3 : decode cX3_memberIn 3 = .ok (.istore 4, 2) := by decide +kernel
theorem dX3_memberIn_5 : decode cX3_memberIn 5 = .ok (.iload 4, 2) := by decide +kernel
theorem dX3_memberIn_7 : decode cX3_memberIn 7 = .ok (.aload_n 0, 1) := by decide +kernel
theorem dX3_memberIn_8 : decode cX3_memberIn 8 = .ok (.getfield 18, 3) := by decide +kernel
theorem dX3_memberIn_11 : decode cX3_memberIn 11 = .ok (.if_icmp .ge 42, 3) := by decide +kernel
theorem dX3_memberIn_14 : decode cX3_memberIn 14 = .ok (.aload_n 0, 1) := by decide +kernel
theorem dX3_memberIn_15 : decode cX3_memberIn 15 = .ok (.getfield 9, 3) := by decide +kernel
theorem dX3_memberIn_18 : decode cX3_memberIn 18 = .ok (.iload 4, 2) := by decide +kernel
theorem dX3_memberIn_20 : decode cX3_memberIn 20 = .ok (.iaload, 1) := by decide +kernel
theorem dX3_memberIn_21 : decode cX3_memberIn 21 = .ok (.iconst (-1), 1) := by decide +kernel
theorem dX3_memberIn_22 : decode cX3_memberIn 22 = .ok (.if_icmp .eq 25, 3) := by decide +kernel
theorem dX3_memberIn_25 : decode cX3_memberIn 25 = .ok (.aload_n 0, 1) := by decide +kernel
theorem dX3_memberIn_26 : decode cX3_memberIn 26 = .ok (.getfield 15, 3) := by decide +kernel
theorem dX3_memberIn_29 : decode cX3_memberIn 29 = .ok (.iload 4, 2) := by decide +kernel
theorem dX3_memberIn_31 : decode cX3_memberIn 31 = .ok (.iaload, 1) := by decide +kernel
theorem dX3_memberIn_32 : decode cX3_memberIn 32 = .ok (.iload_n 1, 1) := by decide +kernel
theorem dX3_memberIn_33 : decode cX3_memberIn 33 = .ok (.if_icmp .ne 14, 3) := by decide +kernel
theorem dX3_memberIn_36 : decode cX3_memberIn 36 = .ok (.iload_n 3, 1) := by decide +kernel
theorem dX3_memberIn_37 : decode cX3_memberIn 37 = .ok (.iload_n 2, 1) := by decide +kernel
theorem dX3_memberIn_38 : decode cX3_memberIn 38 = .ok (.if_icmp .ne 6, 3) := by decide +kernel
theorem dX3_memberIn_41 : decode cX3_memberIn 41 = .ok (.iload 4, 2) := by decide +kernel
theorem dX3_memberIn_43 : decode cX3_memberIn 43 = .ok (.ireturn, 1) := by decide +kernel
theorem dX3_memberIn_44 : decode cX3_memberIn 44 = .ok (.iinc 3 1, 3) := by decide +kernel
theorem dX3_memberIn_47 : decode cX3_memberIn 47 = .ok (.iinc 4 1, 3) := by decide +kernel
theorem dX3_memberIn_50 : decode cX3_memberIn 50 = .ok (.goto (-45), 3) := by decide +kernel
theorem dX3_memberIn_53 : decode cX3_memberIn 53 = .ok (.iconst (-1), 1) := by decide +kernel
theorem dX3_memberIn_54 : decode cX3_memberIn 54 = .ok (.ireturn, 1) := by decide +kernel
theorem dX3_filesWithin_0 : decode cX3_filesWithin 0 = .ok (.lconst 0, 1) := by decide +kernel
theorem dX3_filesWithin_1 : decode cX3_filesWithin 1 = .ok (.lstore_n 2, 1) := by decide +kernel
theorem dX3_filesWithin_2 : decode cX3_filesWithin 2 = .ok (.iconst 0, 1) := by decide +kernel
theorem dX3_filesWithin_3 : decode cX3_filesWithin 3 = .ok (.istore 4, 2) := by decide +kernel
theorem dX3_filesWithin_5 : decode cX3_filesWithin 5 = .ok (.iload 4, 2) := by decide +kernel
theorem dX3_filesWithin_7 : decode cX3_filesWithin 7 = .ok (.aload_n 0, 1) := by decide +kernel
theorem dX3_filesWithin_8 : decode cX3_filesWithin 8 = .ok (.getfield 18, 3) := by decide +kernel
theorem dX3_filesWithin_11 : decode cX3_filesWithin 11 = .ok (.if_icmp .ge 47, 3) := by decide +kernel
theorem dX3_filesWithin_14 : decode cX3_filesWithin 14 = .ok (.aload_n 0, 1) := by decide +kernel
theorem dX3_filesWithin_15 : decode cX3_filesWithin 15 = .ok (.getfield 9, 3) := by decide +kernel
theorem dX3_filesWithin_18 : decode cX3_filesWithin 18 = .ok (.iload 4, 2) := by decide +kernel
theorem dX3_filesWithin_20 : decode cX3_filesWithin 20 = .ok (.iaload, 1) := by decide +kernel
theorem dX3_filesWithin_21 : decode cX3_filesWithin 21 = .ok (.iconst (-1), 1) := by decide +kernel
theorem dX3_filesWithin_22 : decode cX3_filesWithin 22 = .ok (.if_icmp .eq 30, 3) := by decide +kernel
theorem dX3_filesWithin_25 : decode cX3_filesWithin 25 = .ok (.iload_n 1, 1) := by decide +kernel
theorem dX3_filesWithin_26 : decode cX3_filesWithin 26 = .ok (.i2l, 1) := by decide +kernel
theorem dX3_filesWithin_27 : decode cX3_filesWithin 27 = .ok (.aload_n 0, 1) := by decide +kernel
theorem dX3_filesWithin_28 : decode cX3_filesWithin 28 = .ok (.getfield 15, 3) := by decide +kernel
theorem dX3_filesWithin_31 : decode cX3_filesWithin 31 = .ok (.iload 4, 2) := by decide +kernel
theorem dX3_filesWithin_33 : decode cX3_filesWithin 33 = .ok (.iaload, 1) := by decide +kernel
theorem dX3_filesWithin_34 : decode cX3_filesWithin 34 = .ok (.invokestatic 30, 3) := by decide +kernel
theorem dX3_filesWithin_37 : decode cX3_filesWithin 37 = .ok (.ifCond .eq 15, 3) := by decide +kernel
theorem dX3_filesWithin_40 : decode cX3_filesWithin 40 = .ok (.lload_n 2, 1) := by decide +kernel
theorem dX3_filesWithin_41 : decode cX3_filesWithin 41 = .ok (.lconst 1, 1) := by decide +kernel
theorem dX3_filesWithin_42 : decode cX3_filesWithin 42 = .ok (.aload_n 0, 1) := by decide +kernel
theorem dX3_filesWithin_43 : decode cX3_filesWithin 43 = .ok (.getfield 9, 3) := by decide +kernel
theorem dX3_filesWithin_46 : decode cX3_filesWithin 46 = .ok (.iload 4, 2) := by decide +kernel
theorem dX3_filesWithin_48 : decode cX3_filesWithin 48 = .ok (.iaload, 1) := by decide +kernel
theorem dX3_filesWithin_49 : decode cX3_filesWithin 49 = .ok (.lshl, 1) := by decide +kernel
theorem dX3_filesWithin_50 : decode cX3_filesWithin 50 = .ok (.lor, 1) := by decide +kernel
theorem dX3_filesWithin_51 : decode cX3_filesWithin 51 = .ok (.lstore_n 2, 1) := by decide +kernel
theorem dX3_filesWithin_52 : decode cX3_filesWithin 52 = .ok (.iinc 4 1, 3) := by decide +kernel
theorem dX3_filesWithin_55 : decode cX3_filesWithin 55 = .ok (.goto (-50), 3) := by decide +kernel
theorem dX3_filesWithin_58 : decode cX3_filesWithin 58 = .ok (.lload_n 2, 1) := by decide +kernel
theorem dX3_filesWithin_59 : decode cX3_filesWithin 59 = .ok (.lreturn, 1) := by decide +kernel
/-! Names -/
def oNa (ad : AD) (nn : Nat) : va_E := eC 3 [.ref (ad 8), .ref (ad 9), .int (nI nn)]
section NA
variable {l : Launch} {g : GG} {ad : AD} {C : CC} {nn : Nat} {fn fo : Nat → Int32}
theorem k_X3_countOf {x : Int32} (f7 : C 7 = some (oNa ad nn)) (f8 : C 8 = some (eI g 100 fn)) (hn : nn ≤ 100) : Cr l g yX3_countOf cX3_countOf 4 (some .int) 1 [.ref (ad 7), .int x] ad C (.int (nI (cnt (fun k => fn k == x) nn))) := by
  refine Ct_of [some (.ref (ad 7)), some (.int x), none, none] (by decide) rfl rfl (Nat.le_of_ble_eq_true rfl) rfl rfl (fun X hX h => ?_)
  subst hX
  have lp : ∀ m i, i + m = nn → J X g 4 (QR X g ad C (.int (nI (cnt (fun k => fn k == x) nn)))) 0 0 ad C 4 [some (.ref (ad 7)), some (.int x), some (.int (nI (cnt (fun k => fn k == x) i))), some (.int (nI i))] [] := by
    intro m
    induction m with
    | zero =>
      intro i hi
      refine j_iload3 (pc := 4) h dX3_countOf_4 ?_
      refine j_aload0 (pc := 5) h dX3_countOf_5 ?_
      refine j_getf (pc := 6) h dX3_countOf_6 (f7) fl_X3_18 rfl ?_
      refine j_icmp_ge (pc := 9) (tgt := 31) h dX3_countOf_9 (by decide) (fun c9 => ?_) (fun c9 => absurd (nI_le (by omega) (by omega)) c9)
      refine j_iload2 (pc := 31) h dX3_countOf_31 ?_
      refine j_iretr (pc := 32) h dX3_countOf_32 (by rw [show i = nn by omega])
    | succ m ih =>
      intro i hi
      refine j_iload3 (pc := 4) h dX3_countOf_4 ?_
      refine j_aload0 (pc := 5) h dX3_countOf_5 ?_
      refine j_getf (pc := 6) h dX3_countOf_6 (f7) fl_X3_18 rfl ?_
      refine j_icmp_ge (pc := 9) (tgt := 31) h dX3_countOf_9 (by decide) (fun c9 => absurd c9 (nI_ge (by omega) (by omega))) (fun c9 => ?_)
      refine j_aload0 (pc := 12) h dX3_countOf_12 ?_
      refine j_getf (pc := 13) h dX3_countOf_13 (f7) fl_X3_9 rfl ?_
      refine j_iload3 (pc := 16) h dX3_countOf_16 ?_
      refine j_iald (pc := 17) h dX3_countOf_17 (f8) (by omega) (by decide) ?_
      refine j_iload1 (pc := 18) h dX3_countOf_18 ?_
      refine j_icmp_ne (pc := 19) (tgt := 25) h dX3_countOf_19 (by decide) (fun c19 => ?_) (fun c19 => ?_)
      · refine j_iinc3 (pc := 25) h dX3_countOf_25 rfl (inc_n _) ?_
        refine j_goto (pc := 28) (tgt := 4) h dX3_countOf_28 (by decide) ?_
        rw [show cnt (fun k => fn k == x) i = cnt (fun k => fn k == x) (i + 1) from (cnt_f (by simpa using c19)).symm]
        exact ih (i + 1) (by omega)
      · refine j_iinc2 (pc := 22) h dX3_countOf_22 rfl (inc_n _) ?_
        refine j_iinc3 (pc := 25) h dX3_countOf_25 rfl (inc_n _) ?_
        refine j_goto (pc := 28) (tgt := 4) h dX3_countOf_28 (by decide) ?_
        rw [show cnt (fun k => fn k == x) i + 1 = cnt (fun k => fn k == x) (i + 1) from (cnt_t (by simpa using c19)).symm]
        exact ih (i + 1) (by omega)
  refine j_iconst (pc := 0) h dX3_countOf_0 ic_0 ?_
  refine j_istore2 (pc := 1) h dX3_countOf_1 rfl ?_
  refine j_iconst (pc := 2) h dX3_countOf_2 ic_0 ?_
  refine j_istore3 (pc := 3) h dX3_countOf_3 rfl ?_
  exact lp nn 0 (by omega)
theorem k_X3_countThere (f7 : C 7 = some (oNa ad nn)) (f8 : C 8 = some (eI g 100 fn)) (hn : nn ≤ 100) : Cr l g yX3_countThere cX3_countThere 1 (some .int) 2 [.ref (ad 7)] ad C (.int (nI (nn - cnt (fun k => fn k == -1) nn))) := by
  refine Ct_of [some (.ref (ad 7))] (by decide) rfl rfl (Nat.le_of_ble_eq_true rfl) rfl rfl (fun X hX h => ?_)
  subst hX
  refine j_aload0 (pc := 0) h dX3_countThere_0 ?_
  refine j_getf (pc := 1) h dX3_countThere_1 (f7) fl_X3_18 rfl ?_
  refine j_aload0 (pc := 4) h dX3_countThere_4 ?_
  refine j_iconst (pc := 5) h dX3_countThere_5 ic_m1 ?_
  refine j_callVr (pc := 6) h dX3_countThere_6 (k_X3_countOf f7 f8 hn) mv_X3_26 (f7) rfl rfl (by decide) (Nat.le_of_ble_eq_true rfl) (Nat.le_of_ble_eq_true rfl) (Nat.le_of_ble_eq_true rfl) ?_
  refine j_isubN (pc := 9) h dX3_countThere_9 (cnt_le _ _) ?_
  refine j_iretr (pc := 10) h dX3_countThere_10 (rfl)
theorem k_X3_hasRoom (f7 : C 7 = some (oNa ad nn)) (hn : nn ≤ 100) : Cr l g yX3_hasRoom cX3_hasRoom 1 (some .boolean) 1 [.ref (ad 7)] ad C (.int (bI (decide (nn < 100)))) := by
  refine Ct_of [some (.ref (ad 7))] (by decide) rfl rfl (Nat.le_of_ble_eq_true rfl) rfl rfl (fun X hX h => ?_)
  subst hX
  refine j_aload0 (pc := 0) h dX3_hasRoom_0 ?_
  refine j_getf (pc := 1) h dX3_hasRoom_1 (f7) fl_X3_18 rfl ?_
  refine j_bipush (pc := 4) h dX3_hasRoom_4 bp_100 ?_
  refine j_icmp_ge (pc := 6) (tgt := 13) h dX3_hasRoom_6 (by decide) (fun c6 => ?_) (fun c6 => ?_)
  · refine j_iconst (pc := 13) h dX3_hasRoom_13 ic_0 ?_
    refine j_zretr (pc := 14) h dX3_hasRoom_14 (by decide) (bI_f (by have := nI_le_of c6 (by omega) (by omega); simp; omega))
  · refine j_iconst (pc := 9) h dX3_hasRoom_9 ic_1 ?_
    refine j_goto (pc := 10) (tgt := 14) h dX3_hasRoom_10 (by decide) ?_
    refine j_zretr (pc := 14) h dX3_hasRoom_14 (by decide) (bI_t (by have h1 : ¬ 100 ≤ nn := fun q => c6 (nI_le q (by omega)); simp; omega))
theorem k_X3_fileOf_no {x : Int32} (f7 : C 7 = some (oNa ad nn)) (hn : nn ≤ 100) (hx : inN x nn = false) : Cr l g yX3_fileOf cX3_fileOf 2 (some .int) 1 [.ref (ad 7), .int x] ad C (.int (-1)) := by
  refine Ct_of [some (.ref (ad 7)), some (.int x)] (by decide) rfl rfl (Nat.le_of_ble_eq_true rfl) rfl rfl (fun X hX h => ?_)
  subst hX
  refine j_iload1 (pc := 0) h dX3_fileOf_0 ?_
  refine j_if_lt (pc := 1) (tgt := 21) h dX3_fileOf_1 (by decide) (fun c1 => ?_) (fun c1 => ?_)
  · refine j_iconst (pc := 21) h dX3_fileOf_21 ic_m1 ?_
    refine j_iretr (pc := 22) h dX3_fileOf_22 (rfl)
  · refine j_iload1 (pc := 4) h dX3_fileOf_4 ?_
    refine j_aload0 (pc := 5) h dX3_fileOf_5 ?_
    refine j_getf (pc := 6) h dX3_fileOf_6 (f7) fl_X3_18 rfl ?_
    refine j_icmp_ge (pc := 9) (tgt := 21) h dX3_fileOf_9 (by decide) (fun c9 => ?_) (fun c9 => ?_)
    · refine j_iconst (pc := 21) h dX3_fileOf_21 ic_m1 ?_
      refine j_iretr (pc := 22) h dX3_fileOf_22 (rfl)
    · exact absurd (inN_yes (by omega) c1 c9) (by rw [hx]; decide)
theorem k_X3_fileOf {i : Nat} (f7 : C 7 = some (oNa ad nn)) (f8 : C 8 = some (eI g 100 fn)) (hn : nn ≤ 100) (hi : i < nn) : Cr l g yX3_fileOf cX3_fileOf 2 (some .int) 1 [.ref (ad 7), .int (nI i)] ad C (.int (fn i)) := by
  refine Ct_of [some (.ref (ad 7)), some (.int (nI i))] (by decide) rfl rfl (Nat.le_of_ble_eq_true rfl) rfl rfl (fun X hX h => ?_)
  subst hX
  refine j_iload1 (pc := 0) h dX3_fileOf_0 ?_
  refine j_if_lt (pc := 1) (tgt := 21) h dX3_fileOf_1 (by decide) (fun c1 => absurd c1 (nI_pos (by omega))) (fun c1 => ?_)
  refine j_iload1 (pc := 4) h dX3_fileOf_4 ?_
  refine j_aload0 (pc := 5) h dX3_fileOf_5 ?_
  refine j_getf (pc := 6) h dX3_fileOf_6 (f7) fl_X3_18 rfl ?_
  refine j_icmp_ge (pc := 9) (tgt := 21) h dX3_fileOf_9 (by decide) (fun c9 => absurd c9 (nI_ge (by omega) (by omega))) (fun c9 => ?_)
  refine j_aload0 (pc := 12) h dX3_fileOf_12 ?_
  refine j_getf (pc := 13) h dX3_fileOf_13 (f7) fl_X3_9 rfl ?_
  refine j_iload1 (pc := 16) h dX3_fileOf_16 ?_
  refine j_iald (pc := 17) h dX3_fileOf_17 (f8) (by omega) (by decide) ?_
  refine j_goto (pc := 18) (tgt := 22) h dX3_fileOf_18 (by decide) ?_
  refine j_iretr (pc := 22) h dX3_fileOf_22 (rfl)
theorem k_X3_remove {i : Nat} (f7 : C 7 = some (oNa ad nn)) (f8 : C 8 = some (eI g 100 fn)) (hn : nn ≤ 100) (hi : i < nn) : Cw l g yX3_remove cX3_remove 2 none 1 [.ref (ad 7), .int (nI i)] ad C none (va_up C 8 (some (eI g 100 (upd fn i (-1))))) := by
  refine Ct_of [some (.ref (ad 7)), some (.int (nI i))] (by decide) rfl rfl (Nat.le_of_ble_eq_true rfl) rfl rfl (fun X hX h => ?_)
  subst hX
  refine j_iload1 (pc := 0) h dX3_remove_0 ?_
  refine j_if_lt (pc := 1) (tgt := 19) h dX3_remove_1 (by decide) (fun c1 => absurd c1 (nI_pos (by omega))) (fun c1 => ?_)
  refine j_iload1 (pc := 4) h dX3_remove_4 ?_
  refine j_aload0 (pc := 5) h dX3_remove_5 ?_
  refine j_getf (pc := 6) h dX3_remove_6 (f7) fl_X3_18 rfl ?_
  refine j_icmp_ge (pc := 9) (tgt := 19) h dX3_remove_9 (by decide) (fun c9 => absurd c9 (nI_ge (by omega) (by omega))) (fun c9 => ?_)
  refine j_aload0 (pc := 12) h dX3_remove_12 ?_
  refine j_getf (pc := 13) h dX3_remove_13 (f7) fl_X3_9 rfl ?_
  refine j_iload1 (pc := 16) h dX3_remove_16 ?_
  refine j_iconst (pc := 17) h dX3_remove_17 ic_m1 ?_
  refine j_iast (pc := 18) h dX3_remove_18 (f8) (by omega) (by decide) ?_
  refine j_vret (pc := 19) h dX3_remove_19 (⟨rfl, rfl, rfl⟩)
theorem k_X3_add {x y : Int32} (f7 : C 7 = some (oNa ad nn)) (f8 : C 8 = some (eI g 100 fn)) (f9 : C 9 = some (eI g 100 fo)) (hn : nn < 100) : Cw l g yX3_add cX3_add 3 (some .int) 2 [.ref (ad 7), .int x, .int y] ad C (some (.int (nI nn))) (va_up (va_up (va_up C 8 (some (eI g 100 (upd fn nn x)))) 9 (some (eI g 100 (upd fo nn y)))) 7 (some (oNa ad (nn + 1)))) := by
  refine Ct_of [some (.ref (ad 7)), some (.int x), some (.int y)] (by decide) rfl rfl (Nat.le_of_ble_eq_true rfl) rfl rfl (fun X hX h => ?_)
  subst hX
  refine j_aload0 (pc := 0) h dX3_add_0 ?_
  refine j_callVr (pc := 1) h dX3_add_1 (k_X3_hasRoom f7 (by omega)) mv_X3_22 (f7) rfl rfl (by decide) (Nat.le_of_ble_eq_true rfl) (Nat.le_of_ble_eq_true rfl) (Nat.le_of_ble_eq_true rfl) ?_
  refine j_if_neB (pc := 4) (tgt := 9) h dX3_add_4 (by decide) (fun c4 => ?_) (fun c4 => absurd c4 (by simp; omega))
  refine j_aload0 (pc := 9) h dX3_add_9 ?_
  refine j_getf (pc := 10) h dX3_add_10 (f7) fl_X3_9 rfl ?_
  refine j_aload0 (pc := 13) h dX3_add_13 ?_
  refine j_getf (pc := 14) h dX3_add_14 (f7) fl_X3_18 rfl ?_
  refine j_iload1 (pc := 17) h dX3_add_17 ?_
  refine j_iast (pc := 18) h dX3_add_18 (f8) (by omega) (by decide) ?_
  refine j_aload0 (pc := 19) h dX3_add_19 ?_
  refine j_getf (pc := 20) h dX3_add_20 (f7) fl_X3_15 rfl ?_
  refine j_aload0 (pc := 23) h dX3_add_23 ?_
  refine j_getf (pc := 24) h dX3_add_24 (f7) fl_X3_18 rfl ?_
  refine j_iload2 (pc := 27) h dX3_add_27 ?_
  refine j_iast (pc := 28) h dX3_add_28 (f9) (by omega) (by decide) ?_
  refine j_aload0 (pc := 29) h dX3_add_29 ?_
  refine j_dupR (pc := 30) h dX3_add_30 ?_
  refine j_getf (pc := 31) h dX3_add_31 (f7) fl_X3_18 rfl ?_
  refine j_iconst (pc := 34) h dX3_add_34 ic_1 ?_
  refine j_iaddN (pc := 35) h dX3_add_35 ?_
  refine j_putv (pc := 36) h dX3_add_36 (f7) pl_X3_18 rfl rfl (Nat.le_of_ble_eq_true rfl) ?_
  refine j_aload0 (pc := 39) h dX3_add_39 ?_
  refine j_getf (pc := 40) h dX3_add_40 (rfl) fl_X3_18 rfl ?_
  refine j_iconst (pc := 43) h dX3_add_43 ic_1 ?_
  refine j_isubN (pc := 44) h dX3_add_44 (by omega) ?_
  refine j_iret (pc := 45) h dX3_add_45 (⟨rfl, rfl, rfl⟩)
theorem k_X3_add_no {x y : Int32} (f7 : C 7 = some (oNa ad nn)) (hn : nn = 100) : Cr l g yX3_add cX3_add 3 (some .int) 2 [.ref (ad 7), .int x, .int y] ad C (.int (-1)) := by
  refine Ct_of [some (.ref (ad 7)), some (.int x), some (.int y)] (by decide) rfl rfl (Nat.le_of_ble_eq_true rfl) rfl rfl (fun X hX h => ?_)
  subst hX
  refine j_aload0 (pc := 0) h dX3_add_0 ?_
  refine j_callVr (pc := 1) h dX3_add_1 (k_X3_hasRoom f7 (by omega)) mv_X3_22 (f7) rfl rfl (by decide) (Nat.le_of_ble_eq_true rfl) (Nat.le_of_ble_eq_true rfl) (Nat.le_of_ble_eq_true rfl) ?_
  refine j_if_neB (pc := 4) (tgt := 9) h dX3_add_4 (by decide) (fun c4 => absurd c4 (by simp; omega)) (fun c4 => ?_)
  refine j_iconst (pc := 7) h dX3_add_7 ic_m1 ?_
  refine j_iretr (pc := 8) h dX3_add_8 (rfl)
theorem k_X3_memberIn {x y : Int32} (f7 : C 7 = some (oNa ad nn)) (f8 : C 8 = some (eI g 100 fn)) (f9 : C 9 = some (eI g 100 fo)) (hn : nn ≤ 100) : Cr l g yX3_memberIn cX3_memberIn 5 (some .int) 1 [.ref (ad 7), .int x, .int y] ad C (.int (scan (fun k => fn k != -1 && fo k == x) y 0 nn)) := by
  refine Ct_of [some (.ref (ad 7)), some (.int x), some (.int y), none, none] (by decide) rfl rfl (Nat.le_of_ble_eq_true rfl) rfl rfl (fun X hX h => ?_)
  subst hX
  have lp : ∀ m i, i + m = nn → scan (fun k => fn k != -1 && fo k == x) y i m = scan (fun k => fn k != -1 && fo k == x) y 0 nn → J X g 5 (QR X g ad C (.int (scan (fun k => fn k != -1 && fo k == x) y 0 nn))) 0 0 ad C 5 [some (.ref (ad 7)), some (.int x), some (.int y), some (.int (nI (cnt (fun k => fn k != -1 && fo k == x) i))), some (.int (nI i))] [] := by
    intro m
    induction m with
    | zero =>
      intro i hi hs
      refine j_iload4 (pc := 5) h dX3_memberIn_5 ?_
      refine j_aload0 (pc := 7) h dX3_memberIn_7 ?_
      refine j_getf (pc := 8) h dX3_memberIn_8 (f7) fl_X3_18 rfl ?_
      refine j_icmp_ge (pc := 11) (tgt := 53) h dX3_memberIn_11 (by decide) (fun c11 => ?_) (fun c11 => absurd (nI_le (by omega) (by omega)) c11)
      refine j_iconst (pc := 53) h dX3_memberIn_53 ic_m1 ?_
      refine j_iretr (pc := 54) h dX3_memberIn_54 (hs)
    | succ m ih =>
      intro i hi hs
      have no : (fun k => fn k != -1 && fo k == x) i = false → J X g 5 (QR X g ad C (.int (scan (fun k => fn k != -1 && fo k == x) y 0 nn))) 0 0 ad C 47 [some (.ref (ad 7)), some (.int x), some (.int y), some (.int (nI (cnt (fun k => fn k != -1 && fo k == x) i))), some (.int (nI i))] [] := by
        intro hf
        refine j_iinc4 (pc := 47) h dX3_memberIn_47 rfl (inc_n _) ?_
        refine j_goto (pc := 50) (tgt := 5) h dX3_memberIn_50 (by decide) ?_
        rw [show cnt (fun k => fn k != -1 && fo k == x) i = cnt (fun k => fn k != -1 && fo k == x) (i + 1) from (cnt_f hf).symm]
        exact ih (i + 1) (by omega) (by rw [← hs, scan, if_neg]; intro q; exact absurd (hf.symm.trans q.1) (by decide))
      refine j_iload4 (pc := 5) h dX3_memberIn_5 ?_
      refine j_aload0 (pc := 7) h dX3_memberIn_7 ?_
      refine j_getf (pc := 8) h dX3_memberIn_8 (f7) fl_X3_18 rfl ?_
      refine j_icmp_ge (pc := 11) (tgt := 53) h dX3_memberIn_11 (by decide) (fun c11 => absurd c11 (nI_ge (by omega) (by omega))) (fun c11 => ?_)
      refine j_aload0 (pc := 14) h dX3_memberIn_14 ?_
      refine j_getf (pc := 15) h dX3_memberIn_15 (f7) fl_X3_9 rfl ?_
      refine j_iload4 (pc := 18) h dX3_memberIn_18 ?_
      refine j_iald (pc := 20) h dX3_memberIn_20 (f8) (by omega) (by decide) ?_
      refine j_iconst (pc := 21) h dX3_memberIn_21 ic_m1 ?_
      refine j_icmp_eq (pc := 22) (tgt := 47) h dX3_memberIn_22 (by decide) (fun c22 => ?_) (fun c22 => ?_)
      · exact no (by simp [c22])
      · refine j_aload0 (pc := 25) h dX3_memberIn_25 ?_
        refine j_getf (pc := 26) h dX3_memberIn_26 (f7) fl_X3_15 rfl ?_
        refine j_iload4 (pc := 29) h dX3_memberIn_29 ?_
        refine j_iald (pc := 31) h dX3_memberIn_31 (f9) (by omega) (by decide) ?_
        refine j_iload1 (pc := 32) h dX3_memberIn_32 ?_
        refine j_icmp_ne (pc := 33) (tgt := 47) h dX3_memberIn_33 (by decide) (fun c33 => ?_) (fun c33 => ?_)
        · exact no (by simp [c33])
        · have hf : (fun k => fn k != -1 && fo k == x) i = true := by simp [c33, c22]
          refine j_iload3 (pc := 36) h dX3_memberIn_36 ?_
          refine j_iload2 (pc := 37) h dX3_memberIn_37 ?_
          refine j_icmp_ne (pc := 38) (tgt := 44) h dX3_memberIn_38 (by decide) (fun c38 => ?_) (fun c38 => ?_)
          · refine j_iinc3 (pc := 44) h dX3_memberIn_44 rfl (inc_n _) ?_
            refine j_iinc4 (pc := 47) h dX3_memberIn_47 rfl (inc_n _) ?_
            refine j_goto (pc := 50) (tgt := 5) h dX3_memberIn_50 (by decide) ?_
            rw [show cnt (fun k => fn k != -1 && fo k == x) i + 1 = cnt (fun k => fn k != -1 && fo k == x) (i + 1) from (cnt_t hf).symm]
            exact ih (i + 1) (by omega) (by rw [← hs, scan, if_neg]; intro q; exact c38 q.2)
          · refine j_iload4 (pc := 41) h dX3_memberIn_41 ?_
            refine j_iretr (pc := 43) h dX3_memberIn_43 (by rw [← hs, scan, if_pos ⟨hf, c38⟩])
  refine j_iconst (pc := 0) h dX3_memberIn_0 ic_0 ?_
  refine j_istore3 (pc := 1) h dX3_memberIn_1 rfl ?_
  refine j_iconst (pc := 2) h dX3_memberIn_2 ic_0 ?_
  refine j_istore4 (pc := 3) h dX3_memberIn_3 rfl ?_
  exact lp nn 0 (by omega) rfl
theorem k_X3_filesWithin {x : Int32} (f7 : C 7 = some (oNa ad nn)) (f8 : C 8 = some (eI g 100 fn)) (f9 : C 9 = some (eI g 100 fo)) (hn : nn ≤ 100) : Cr l g yX3_filesWithin cX3_filesWithin 5 (some .long) 2 [.ref (ad 7), .int x] ad C (.long (orr (fun k => if (fn k != -1 && mbr x.toInt64 (fo k)) = true then b1 (fn k) else 0) nn)) := by
  refine Ct_of [some (.ref (ad 7)), some (.int x), none, none, none] (by decide) rfl rfl (Nat.le_of_ble_eq_true rfl) rfl rfl (fun X hX h => ?_)
  subst hX
  have lp : ∀ m i, i + m = nn → J X g 5 (QR X g ad C (.long (orr (fun k => if (fn k != -1 && mbr x.toInt64 (fo k)) = true then b1 (fn k) else 0) nn))) 0 0 ad C 5 [some (.ref (ad 7)), some (.int x), some (.long (orr (fun k => if (fn k != -1 && mbr x.toInt64 (fo k)) = true then b1 (fn k) else 0) i)), none, some (.int (nI i))] [] := by
    intro m
    induction m with
    | zero =>
      intro i hi
      refine j_iload4 (pc := 5) h dX3_filesWithin_5 ?_
      refine j_aload0 (pc := 7) h dX3_filesWithin_7 ?_
      refine j_getf (pc := 8) h dX3_filesWithin_8 (f7) fl_X3_18 rfl ?_
      refine j_icmp_ge (pc := 11) (tgt := 58) h dX3_filesWithin_11 (by decide) (fun c11 => ?_) (fun c11 => absurd (nI_le (by omega) (by omega)) c11)
      refine j_lload2 (pc := 58) h dX3_filesWithin_58 ?_
      refine j_lretr (pc := 59) h dX3_filesWithin_59 (by rw [show i = nn by omega])
    | succ m ih =>
      intro i hi
      have no : (fn i != -1 && mbr x.toInt64 (fo i)) = false → J X g 5 (QR X g ad C (.long (orr (fun k => if (fn k != -1 && mbr x.toInt64 (fo k)) = true then b1 (fn k) else 0) nn))) 0 0 ad C 52 [some (.ref (ad 7)), some (.int x), some (.long (orr (fun k => if (fn k != -1 && mbr x.toInt64 (fo k)) = true then b1 (fn k) else 0) i)), none, some (.int (nI i))] [] := by
        intro hf
        refine j_iinc4 (pc := 52) h dX3_filesWithin_52 rfl (inc_n _) ?_
        refine j_goto (pc := 55) (tgt := 5) h dX3_filesWithin_55 (by decide) ?_
        rw [show orr (fun k => if (fn k != -1 && mbr x.toInt64 (fo k)) = true then b1 (fn k) else 0) i = orr (fun k => if (fn k != -1 && mbr x.toInt64 (fo k)) = true then b1 (fn k) else 0) (i + 1) from by rw [orr, if_neg (by rw [hf]; decide)]; simp]
        exact ih (i + 1) (by omega)
      refine j_iload4 (pc := 5) h dX3_filesWithin_5 ?_
      refine j_aload0 (pc := 7) h dX3_filesWithin_7 ?_
      refine j_getf (pc := 8) h dX3_filesWithin_8 (f7) fl_X3_18 rfl ?_
      refine j_icmp_ge (pc := 11) (tgt := 58) h dX3_filesWithin_11 (by decide) (fun c11 => absurd c11 (nI_ge (by omega) (by omega))) (fun c11 => ?_)
      refine j_aload0 (pc := 14) h dX3_filesWithin_14 ?_
      refine j_getf (pc := 15) h dX3_filesWithin_15 (f7) fl_X3_9 rfl ?_
      refine j_iload4 (pc := 18) h dX3_filesWithin_18 ?_
      refine j_iald (pc := 20) h dX3_filesWithin_20 (f8) (by omega) (by decide) ?_
      refine j_iconst (pc := 21) h dX3_filesWithin_21 ic_m1 ?_
      refine j_icmp_eq (pc := 22) (tgt := 52) h dX3_filesWithin_22 (by decide) (fun c22 => ?_) (fun c22 => ?_)
      · exact no (by simp [c22])
      · refine j_iload1 (pc := 25) h dX3_filesWithin_25 ?_
        refine j_i2l (pc := 26) h dX3_filesWithin_26 ?_
        refine j_aload0 (pc := 27) h dX3_filesWithin_27 ?_
        refine j_getf (pc := 28) h dX3_filesWithin_28 (f7) fl_X3_15 rfl ?_
        refine j_iload4 (pc := 31) h dX3_filesWithin_31 ?_
        refine j_iald (pc := 33) h dX3_filesWithin_33 (f9) (by omega) (by decide) ?_
        refine j_callSr (pc := 34) h dX3_filesWithin_34 (k_X7_isMember) ms_X3_30 rfl rfl (by decide) (Nat.le_of_ble_eq_true rfl) (Nat.le_of_ble_eq_true rfl) (Nat.le_of_ble_eq_true rfl) ?_
        refine j_if_eqB (pc := 37) (tgt := 52) h dX3_filesWithin_37 (by decide) (fun c37 => ?_) (fun c37 => ?_)
        · exact no (by rw [c37]; simp)
        · have hf : (fn i != -1 && mbr x.toInt64 (fo i)) = true := by rw [c37]; simp [c22]
          refine j_lload2 (pc := 40) h dX3_filesWithin_40 ?_
          refine j_lconst (pc := 41) h dX3_filesWithin_41 lc_1 ?_
          refine j_aload0 (pc := 42) h dX3_filesWithin_42 ?_
          refine j_getf (pc := 43) h dX3_filesWithin_43 (f7) fl_X3_9 rfl ?_
          refine j_iload4 (pc := 46) h dX3_filesWithin_46 ?_
          refine j_iald (pc := 48) h dX3_filesWithin_48 (f8) (by omega) (by decide) ?_
          refine j_lshl (pc := 49) h dX3_filesWithin_49 ?_
          refine j_lor (pc := 50) h dX3_filesWithin_50 ?_
          refine j_lstore2 (pc := 51) h dX3_filesWithin_51 rfl ?_
          refine j_iinc4 (pc := 52) h dX3_filesWithin_52 rfl (inc_n _) ?_
          refine j_goto (pc := 55) (tgt := 5) h dX3_filesWithin_55 (by decide) ?_
          rw [show orr (fun k => if (fn k != -1 && mbr x.toInt64 (fo k)) = true then b1 (fn k) else 0) i ||| (1 <<< ((fn i).toInt64 &&& 63)) = orr (fun k => if (fn k != -1 && mbr x.toInt64 (fo k)) = true then b1 (fn k) else 0) (i + 1) from by rw [orr, if_pos hf]; rfl]
          exact ih (i + 1) (by omega)
  refine j_lconst (pc := 0) h dX3_filesWithin_0 lc_0 ?_
  refine j_lstore2 (pc := 1) h dX3_filesWithin_1 rfl ?_
  refine j_iconst (pc := 2) h dX3_filesWithin_2 ic_0 ?_
  refine j_istore4 (pc := 3) h dX3_filesWithin_3 rfl ?_
  exact lp nn 0 (by omega)
end NA

