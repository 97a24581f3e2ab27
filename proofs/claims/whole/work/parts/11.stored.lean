theorem dX6_init_0 : decode cX6_init 0 = .ok (.aload_n 0, 1) := by decide +kernel
theorem dX6_init_1 : decode cX6_init 1 = .ok (.invokespecial 3, 3) := by decide +kernel
theorem dX6_init_4 : decode cX6_init 4 = .ok (.aload_n 0, 1) := by decide +kernel
theorem dX6_init_5 : decode cX6_init 5 = .ok (.bipush 60, 2) := by decide +kernel
theorem dX6_init_7 : decode cX6_init 7 = .ok (.newarray .int, 2) := by decide +kernel
theorem dX6_init_9 : decode cX6_init 9 = .ok (.putfield 9, 3) := by decide +kernel
theorem dX6_init_12 : decode cX6_init 12 = .ok (.aload_n 0, 1) := by decide +kernel
theorem dX6_init_13 : decode cX6_init 13 = .ok (.iload_n 1, 1) := by decide +kernel
theorem dX6_init_14 : decode cX6_init 14 = .ok (.putfield 15, 3) := by decide +kernel
theorem dX6_init_17 : decode cX6_init 17 = .ok (.aload_n 0, 1) := by decide +kernel
theorem dX6_init_18 : decode cX6_init 18 = .ok (.iload_n 2, 1) := by decide +kernel
theorem dX6_init_19 : decode cX6_init 19 = .ok (.putfield 19, 3) := by decide +kernel
theorem dX6_init_22 : decode cX6_init 22 = .ok (.aload_n 0, 1) := by decide +kernel
theorem dX6_init_23 : decode cX6_init 23 = .ok (.iload_n 3, 1) := by decide +kernel
theorem dX6_init_24 : decode cX6_init 24 = .ok (.putfield 22, 3) := by decide +kernel
theorem dX6_init_27 : decode cX6_init 27 = .ok (.return_, 1) := by decide +kernel
theorem dX6_duplicate_0 : decode cX6_duplicate 0 = .ok (.new 10, 3) := by decide +kernel
theorem dX6_duplicate_3 : decode cX6_duplicate 3 = .ok (.dup, 1) := by decide +kernel
theorem dX6_duplicate_4 : decode cX6_duplicate 4 = .ok (.aload_n 0, 1) := by decide +kernel
theorem dX6_duplicate_5 : decode cX6_duplicate 5 = .ok (.getfield 15, 3) := by decide +kernel
theorem dX6_duplicate_8 : decode cX6_duplicate 8 = .ok (.aload_n 0, 1) := by decide +kernel
theorem dX6_duplicate_9 : decode cX6_duplicate 9 = .ok (.getfield 19, 3) := by decide +kernel
theorem dX6_duplicate_12 : decode cX6_duplicate 12 = .ok (.iload_n 1, 1) := by decide +kernel
theorem dX6_duplicate_13 : decode cX6_duplicate 13 = .ok (.invokespecial 25, 3) := by decide +kernel
theorem dX6_duplicate_16 : decode cX6_duplicate 16 = .ok (.astore_n 2, 1) := by decide +kernel
theorem dX6_duplicate_17 : decode cX6_duplicate 17 = .ok (.iconst 0, 1) := by decide +kernel
theorem dX6_duplicate_18 : decode cX6_duplicate 18 = .ok (.istore_n 3, 1) := by decide +kernel
theorem dX6_duplicate_19 : decode cX6_duplicate 19 = .ok (.iload_n 3, 1) := by decide +kernel
theorem dX6_duplicate_20 : decode cX6_duplicate 20 = .ok (.aload_n 0, 1) := by decide +kernel
theorem dX6_duplicate_21 : decode cX6_duplicate 21 = .ok (.getfield 28, 3) := by decide +kernel
theorem dX6_duplicate_24 : decode cX6_duplicate 24 = .ok (.if_icmp .ge 27, 3) := by decide +kernel
theorem dX6_duplicate_27 : decode cX6_duplicate 27 = .ok (.iload_n 3, 1) := by decide +kernel
theorem dX6_duplicate_28 : decode cX6_duplicate 28 = .ok (.bipush 60, 2) := by decide +kernel
theorem dX6_duplicate_30 : decode cX6_duplicate 30 = .ok (.if_icmp .ge 21, 3) := by decide +kernel
theorem dX6_duplicate_33 : decode cX6_duplicate 33 = .ok (.aload_n 2, 1) := by decide +kernel
theorem dX6_duplicate_34 : decode cX6_duplicate 34 = .ok (.getfield 9, 3) := by decide +kernel
theorem dX6_duplicate_37 : decode cX6_duplicate 37 = .ok (.iload_n 3, 1) := by decide +kernel
theorem dX6_duplicate_38 : decode cX6_duplicate 38 = .ok (.aload_n 0, 1) := by decide +kernel
theorem dX6_duplicate_39 : decode cX6_duplicate 39 = .ok (.getfield 9, 3) := by decide +kernel
theorem dX6_duplicate_42 : decode cX6_duplicate 42 = .ok (.iload_n 3, 1) := by decide +kernel
theorem dX6_duplicate_43 : decode cX6_duplicate 43 = .ok (.iaload, 1) := by decide +kernel
theorem dX6_duplicate_44 : decode cX6_duplicate 44 = .ok (.iastore, 1) := by decide +kernel
theorem dX6_duplicate_45 : decode cX6_duplicate 45 = .ok (.iinc 3 1, 3) := by decide +kernel
theorem dX6_duplicate_48 : decode cX6_duplicate 48 = .ok (.goto (-29), 3) := by decide +kernel
theorem dX6_duplicate_51 : decode cX6_duplicate 51 = .ok (.aload_n 2, 1) := by decide +kernel
theorem dX6_duplicate_52 : decode cX6_duplicate 52 = .ok (.aload_n 0, 1) := by decide +kernel
theorem dX6_duplicate_53 : decode cX6_duplicate 53 = .ok (.getfield 28, 3) := by decide +kernel
theorem dX6_duplicate_56 : decode cX6_duplicate 56 = .ok (.putfield 28, 3) := by decide +kernel
theorem dX6_duplicate_59 : decode cX6_duplicate 59 = .ok (.aload_n 2, 1) := by decide +kernel
theorem dX6_duplicate_60 : decode cX6_duplicate 60 = .ok (.aload_n 0, 1) := by decide +kernel
theorem dX6_duplicate_61 : decode cX6_duplicate 61 = .ok (.getfield 31, 3) := by decide +kernel
theorem dX6_duplicate_64 : decode cX6_duplicate 64 = .ok (.putfield 31, 3) := by decide +kernel
theorem dX6_duplicate_67 : decode cX6_duplicate 67 = .ok (.aload_n 2, 1) := by decide +kernel
theorem dX6_duplicate_68 : decode cX6_duplicate 68 = .ok (.areturn, 1) := by decide +kernel
theorem dX6_canPutAt_0 : decode cX6_canPutAt 0 = .ok (.iload_n 1, 1) := by decide +kernel
theorem dX6_canPutAt_1 : decode cX6_canPutAt 1 = .ok (.ifCond .lt 21, 3) := by decide +kernel
theorem dX6_canPutAt_4 : decode cX6_canPutAt 4 = .ok (.iload_n 1, 1) := by decide +kernel
theorem dX6_canPutAt_5 : decode cX6_canPutAt 5 = .ok (.aload_n 0, 1) := by decide +kernel
theorem dX6_canPutAt_6 : decode cX6_canPutAt 6 = .ok (.getfield 28, 3) := by decide +kernel
theorem dX6_canPutAt_9 : decode cX6_canPutAt 9 = .ok (.if_icmp .gt 13, 3) := by decide +kernel
theorem dX6_canPutAt_12 : decode cX6_canPutAt 12 = .ok (.iload_n 1, 1) := by decide +kernel
theorem dX6_canPutAt_13 : decode cX6_canPutAt 13 = .ok (.bipush 60, 2) := by decide +kernel
theorem dX6_canPutAt_15 : decode cX6_canPutAt 15 = .ok (.if_icmp .ge 7, 3) := by decide +kernel
theorem dX6_canPutAt_18 : decode cX6_canPutAt 18 = .ok (.iconst 1, 1) := by decide +kernel
theorem dX6_canPutAt_19 : decode cX6_canPutAt 19 = .ok (.goto 4, 3) := by decide +kernel
theorem dX6_canPutAt_22 : decode cX6_canPutAt 22 = .ok (.iconst 0, 1) := by decide +kernel
theorem dX6_canPutAt_23 : decode cX6_canPutAt 23 = .ok (.ireturn, 1) := by decide +kernel
theorem dX6_blockAt_0 : decode cX6_blockAt 0 = .ok (.iload_n 1, 1) := by decide +kernel
theorem dX6_blockAt_1 : decode cX6_blockAt 1 = .ok (.ifCond .lt 26, 3) := by decide +kernel
theorem dX6_blockAt_4 : decode cX6_blockAt 4 = .ok (.iload_n 1, 1) := by decide +kernel
theorem dX6_blockAt_5 : decode cX6_blockAt 5 = .ok (.aload_n 0, 1) := by decide +kernel
theorem dX6_blockAt_6 : decode cX6_blockAt 6 = .ok (.getfield 28, 3) := by decide +kernel
theorem dX6_blockAt_9 : decode cX6_blockAt 9 = .ok (.if_icmp .ge 18, 3) := by decide +kernel
theorem dX6_blockAt_12 : decode cX6_blockAt 12 = .ok (.iload_n 1, 1) := by decide +kernel
theorem dX6_blockAt_13 : decode cX6_blockAt 13 = .ok (.bipush 60, 2) := by decide +kernel
theorem dX6_blockAt_15 : decode cX6_blockAt 15 = .ok (.if_icmp .ge 12, 3) := by decide +kernel
theorem dX6_blockAt_18 : decode cX6_blockAt 18 = .ok (.aload_n 0, 1) := by decide +kernel
theorem dX6_blockAt_19 : decode cX6_blockAt 19 = .ok (.getfield 9, 3) := by decide +kernel
theorem dX6_blockAt_22 : decode cX6_blockAt 22 = .ok (.iload_n 1, 1) := by decide +kernel
theorem dX6_blockAt_23 : decode cX6_blockAt 23 = .ok (.iaload, 1) := by decide +kernel
theorem dX6_blockAt_24 : decode cX6_blockAt 24 = .ok (.goto 4, 3) := by decide +kernel
theorem dX6_blockAt_27 : decode cX6_blockAt 27 = .ok (.iconst (-1), 1) := by decide +kernel
theorem dX6_blockAt_28 : decode cX6_blockAt 28 = .ok (.ireturn, 1) := by decide +kernel
theorem dX6_put_0 : decode cX6_put 0 = .ok (.aload_n 0, 1) := by decide +kernel
theorem dX6_put_1 : decode cX6_put 1 = .ok (.iload_n 1, 1) := by decide +kernel
theorem dX6_put_2 : decode cX6_put 2 = .ok (.invokevirtual 35, 3) := by decide +kernel
theorem dX6_put_5 : decode cX6_put 5 = .ok (.ifCond .ne 4, 3) := by decide +kernel
theorem dX6_put_8 : decode cX6_put 8 = .ok (.return_, 1) := by decide +kernel
theorem dX6_put_9 : decode cX6_put 9 = .ok (.aload_n 0, 1) := by decide +kernel
theorem dX6_put_10 : decode cX6_put 10 = .ok (.getfield 9, 3) := by decide +kernel
theorem dX6_put_13 : decode cX6_put 13 = .ok (.iload_n 1, 1) := by decide +kernel
theorem dX6_put_14 : decode cX6_put 14 = .ok (.iload_n 2, 1) := by decide +kernel
theorem dX6_put_15 : decode cX6_put 15 = .ok (.iastore, 1) := by decide +kernel
theorem dX6_put_16 : decode cX6_put 16 = .ok (.aload_n 0, 1) := by decide +kernel
theorem dX6_put_17 : decode cX6_put 17 = .ok (.aload_n 0, 1) := by decide +kernel
theorem dX6_put_18 : decode cX6_put 18 = .ok (.getfield 28, 3) := by decide +kernel
theorem dX6_put_21 : decode cX6_put 21 = .ok (.iload_n 1, 1) := by decide +kernel
theorem dX6_put_22 : decode cX6_put 22 = .ok (.iconst 1, 1) := by decide +kernel
theorem dX6_put_23 : decode cX6_put 23 = .ok (.iadd, 1) := by decide +kernel
theorem dX6_put_24 : decode cX6_put 24 = .ok (.invokestatic 39, 3) := by decide +kernel
theorem dX6_put_27 : decode cX6_put 27 = .ok (.putfield 28, 3) := by decide +kernel
theorem dX6_put_30 : decode cX6_put 30 = .ok (.aload_n 0, 1) := by decide +kernel
theorem dX6_put_31 : decode cX6_put 31 = .ok (.iload_n 3, 1) := by decide +kernel
theorem dX6_put_32 : decode cX6_put 32 = .ok (.invokevirtual 45, 3) := by decide +kernel
theorem dX6_put_35 : decode cX6_put 35 = .ok (.return_, 1) := by decide +kernel
theorem dX6_shorten_0 : decode cX6_shorten 0 = .ok (.aload_n 0, 1) := by decide +kernel
theorem dX6_shorten_1 : decode cX6_shorten 1 = .ok (.iload_n 1, 1) := by decide +kernel
theorem dX6_shorten_2 : decode cX6_shorten 2 = .ok (.putfield 28, 3) := by decide +kernel
theorem dX6_shorten_5 : decode cX6_shorten 5 = .ok (.aload_n 0, 1) := by decide +kernel
theorem dX6_shorten_6 : decode cX6_shorten 6 = .ok (.iload_n 2, 1) := by decide +kernel
theorem dX6_shorten_7 : decode cX6_shorten 7 = .ok (.invokevirtual 45, 3) := by decide +kernel
theorem dX6_shorten_10 : decode cX6_shorten 10 = .ok (.return_, 1) := by decide +kernel
theorem dX6_countHoles_0 : decode cX6_countHoles 0 = .ok (.iconst 0, 1) := by decide +kernel
theorem dX6_countHoles_1 : decode cX6_countHoles 1 = .ok (.istore_n 1, 1) := by decide +kernel
theorem dX6_countHoles_2 : decode cX6_countHoles 2 = .ok (.iconst 0, 1) := by decide +kernel
theorem dX6_countHoles_3 : decode cX6_countHoles 3 = .ok (.istore_n 2, 1) := by decide +kernel
theorem dX6_countHoles_4 : decode cX6_countHoles 4 = .ok (.iload_n 2, 1) := by decide +kernel
theorem dX6_countHoles_5 : decode cX6_countHoles 5 = .ok (.aload_n 0, 1) := by decide +kernel
theorem dX6_countHoles_6 : decode cX6_countHoles 6 = .ok (.getfield 28, 3) := by decide +kernel
theorem dX6_countHoles_9 : decode cX6_countHoles 9 = .ok (.if_icmp .ge 21, 3) := by decide +kernel
theorem dX6_countHoles_12 : decode cX6_countHoles 12 = .ok (.aload_n 0, 1) := by decide +kernel
theorem dX6_countHoles_13 : decode cX6_countHoles 13 = .ok (.iload_n 2, 1) := by decide +kernel
theorem dX6_countHoles_14 : decode cX6_countHoles 14 = .ok (.invokevirtual 49, 3) := by decide +kernel
theorem dX6_countHoles_17 : decode cX6_countHoles 17 = .ok (.iconst (-1), 1) := by decide +kernel
theorem dX6_countHoles_18 : decode cX6_countHoles 18 = .ok (.if_icmp .ne 6, 3) := by decide +kernel
theorem dX6_countHoles_21 : decode cX6_countHoles 21 = .ok (.iinc 1 1, 3) := by decide +kernel
theorem dX6_countHoles_24 : decode cX6_countHoles 24 = .ok (.iinc 2 1, 3) := by decide +kernel
theorem dX6_countHoles_27 : decode cX6_countHoles 27 = .ok (.goto (-23), 3) := by decide +kernel
theorem dX6_countHoles_30 : decode cX6_countHoles 30 = .ok (.iload_n 1, 1) := by decide +kernel
theorem dX6_countHoles_31 : decode cX6_countHoles 31 = .ok (.ireturn, 1) := by decide +kernel
theorem dX6_noteChange_0 : decode cX6_noteChange 0 = .ok (.aload_n 0, 1) := by decide +kernel
theorem dX6_noteChange_1 : decode cX6_noteChange 1 = .ok (.iload_n 1, 1) := by decide +kernel
theorem dX6_noteChange_2 : decode cX6_noteChange 2 = .ok (.putfield 22, 3) := by decide +kernel
theorem dX6_noteChange_5 : decode cX6_noteChange 5 = .ok (.aload_n 0, 1) := by decide +kernel
theorem dX6_noteChange_6 : decode cX6_noteChange 6 = .ok (.lconst 0, 1) := by decide +kernel
theorem dX6_noteChange_7 : decode cX6_noteChange 7 = .ok (.putfield 31, 3) := by decide +kernel
theorem dX6_noteChange_10 : decode cX6_noteChange 10 = .ok (.iconst 0, 1) := by decide +kernel
theorem dX6_noteChange_11 : decode cX6_noteChange 11 = .ok (.istore_n 2, 1) := by decide +kernel
theorem dX6_noteChange_12 : decode cX6_noteChange 12 = .ok (.iload_n 2, 1) := by decide +kernel
theorem dX6_noteChange_13 : decode cX6_noteChange 13 = .ok (.aload_n 0, 1) := by decide +kernel
theorem dX6_noteChange_14 : decode cX6_noteChange 14 = .ok (.getfield 28, 3) := by decide +kernel
theorem dX6_noteChange_17 : decode cX6_noteChange 17 = .ok (.if_icmp .ge 32, 3) := by decide +kernel
theorem dX6_noteChange_20 : decode cX6_noteChange 20 = .ok (.aload_n 0, 1) := by decide +kernel
theorem dX6_noteChange_21 : decode cX6_noteChange 21 = .ok (.iload_n 2, 1) := by decide +kernel
theorem dX6_noteChange_22 : decode cX6_noteChange 22 = .ok (.invokevirtual 49, 3) := by decide +kernel
theorem dX6_noteChange_25 : decode cX6_noteChange 25 = .ok (.istore_n 3, 1) := by decide +kernel
theorem dX6_noteChange_26 : decode cX6_noteChange 26 = .ok (.iload_n 3, 1) := by decide +kernel
theorem dX6_noteChange_27 : decode cX6_noteChange 27 = .ok (.iconst (-1), 1) := by decide +kernel
theorem dX6_noteChange_28 : decode cX6_noteChange 28 = .ok (.if_icmp .eq 15, 3) := by decide +kernel
theorem dX6_noteChange_31 : decode cX6_noteChange 31 = .ok (.aload_n 0, 1) := by decide +kernel
theorem dX6_noteChange_32 : decode cX6_noteChange 32 = .ok (.dup, 1) := by decide +kernel
theorem dX6_noteChange_33 : decode cX6_noteChange 33 = .ok (.getfield 31, 3) := by decide +kernel
theorem dX6_noteChange_36 : decode cX6_noteChange 36 = .ok (.lconst 1, 1) := by decide +kernel
theorem dX6_noteChange_37 : decode cX6_noteChange 37 = .ok (.iload_n 3, 1) := by decide +kernel
theorem dX6_noteChange_38 : decode cX6_noteChange 38 = .ok (.lshl, 1) := by decide +kernel
theorem dX6_noteChange_39 : decode cX6_noteChange 39 = .ok (.lor, 1) := by decide +kernel
theorem dX6_noteChange_40 : decode cX6_noteChange 40 = .ok (.putfield 31, 3) := by decide +kernel
theorem dX6_noteChange_43 : decode cX6_noteChange 43 = .ok (.iinc 2 1, 3) := by decide +kernel
theorem dX6_noteChange_46 : decode cX6_noteChange 46 = .ok (.goto (-34), 3) := by decide +kernel
theorem dX6_noteChange_49 : decode cX6_noteChange 49 = .ok (.return_, 1) := by decide +kernel
/-! StoredFile: the object at name j, its row at name j + 1 -/
def oSt (ad : AD) (j : Nat) (ow wo : Int32) (ln : Nat) (ch : Int32) (bl : Int64) : va_E := eC 6 [.int ow, .int wo, .ref (ad (j + 1)), .int (nI ln), .int ch, .long bl]
/-- places that can be written -/
def cpl (ln : Nat) : Nat := if ln < 60 then ln + 1 else 60
theorem cpl_le (ln : Nat) : cpl ln ≤ 60 := by unfold cpl; split <;> omega
theorem cp_gt {x : Int32} {ln : Nat} (hl : ln ≤ 60) (c : nI ln < x) : inN x (cpl ln) = false := by
  rcases inN_cases x (cpl ln) with q | ⟨i, hi, rfl⟩
  · exact q
  · exfalso
    have h1 := cpl_le ln
    have h2 := nI_lt_of c (by omega) (by omega)
    unfold cpl at hi
    split at hi <;> omega
theorem cp_60 {x : Int32} {ln : Nat} (c : nI 60 ≤ x) : inN x (cpl ln) = false := by
  rcases inN_cases x (cpl ln) with q | ⟨i, hi, rfl⟩
  · exact q
  · exfalso
    have h1 := cpl_le ln
    have h2 := nI_le_of c (by omega) (by omega)
    omega
theorem cp_yes {x : Int32} {ln : Nat} (hl : ln ≤ 60) (a : ¬ x < 0) (b : ¬ nI ln < x) (c : ¬ nI 60 ≤ x) : inN x (cpl ln) = true := by
  obtain ⟨i, hi, rfl⟩ := inN_of (inN_yes (n := 60) (by decide) a c)
  rw [inN_nI (by omega)]
  have h2 : ¬ ln < i := fun q => b (nI_lt q (by omega))
  unfold cpl
  simp
  split <;> omega
section SF
variable {l : Launch} {g : GG} {ad : AD} {C : CC} {j ln : Nat} {ow wo ch : Int32} {bl : Int64} {pl : Nat → Int32}
theorem k_X6_canPutAt {x : Int32} (fs : C j = some (oSt ad j ow wo ln ch bl)) (hl : ln ≤ 60) : Cr l g yX6_canPutAt cX6_canPutAt 2 (some .boolean) 1 [.ref (ad j), .int x] ad C (.int (bI (inN x (cpl ln)))) := by
  refine Ct_of [some (.ref (ad j)), some (.int x)] (by decide) rfl rfl (Nat.le_of_ble_eq_true rfl) rfl rfl (fun X hX h => ?_)
  subst hX
  refine j_iload1 (pc := 0) h dX6_canPutAt_0 ?_
  refine j_if_lt (pc := 1) (tgt := 22) h dX6_canPutAt_1 (by decide) (fun c1 => ?_) (fun c1 => ?_)
  · refine j_iconst (pc := 22) h dX6_canPutAt_22 ic_0 ?_
    refine j_zretr (pc := 23) h dX6_canPutAt_23 (by decide) (bI_f (inN_no0 c1))
  · refine j_iload1 (pc := 4) h dX6_canPutAt_4 ?_
    refine j_aload0 (pc := 5) h dX6_canPutAt_5 ?_
    refine j_getf (pc := 6) h dX6_canPutAt_6 (fs) fl_X6_28 rfl ?_
    refine j_icmp_gt (pc := 9) (tgt := 22) h dX6_canPutAt_9 (by decide) (fun c9 => ?_) (fun c9 => ?_)
    · refine j_iconst (pc := 22) h dX6_canPutAt_22 ic_0 ?_
      refine j_zretr (pc := 23) h dX6_canPutAt_23 (by decide) (bI_f (cp_gt hl c9))
    · refine j_iload1 (pc := 12) h dX6_canPutAt_12 ?_
      refine j_bipush (pc := 13) h dX6_canPutAt_13 bp_60 ?_
      refine j_icmp_ge (pc := 15) (tgt := 22) h dX6_canPutAt_15 (by decide) (fun c15 => ?_) (fun c15 => ?_)
      · refine j_iconst (pc := 22) h dX6_canPutAt_22 ic_0 ?_
        refine j_zretr (pc := 23) h dX6_canPutAt_23 (by decide) (bI_f (cp_60 c15))
      · refine j_iconst (pc := 18) h dX6_canPutAt_18 ic_1 ?_
        refine j_goto (pc := 19) (tgt := 23) h dX6_canPutAt_19 (by decide) ?_
        refine j_zretr (pc := 23) h dX6_canPutAt_23 (by decide) (bI_t (cp_yes hl c1 c9 c15))
theorem k_X6_blockAt_no {x : Int32} (fs : C j = some (oSt ad j ow wo ln ch bl)) (hl : ln ≤ 60) (hx : inN x ln = false) : Cr l g yX6_blockAt cX6_blockAt 2 (some .int) 1 [.ref (ad j), .int x] ad C (.int (-1)) := by
  refine Ct_of [some (.ref (ad j)), some (.int x)] (by decide) rfl rfl (Nat.le_of_ble_eq_true rfl) rfl rfl (fun X hX h => ?_)
  subst hX
  refine j_iload1 (pc := 0) h dX6_blockAt_0 ?_
  refine j_if_lt (pc := 1) (tgt := 27) h dX6_blockAt_1 (by decide) (fun c1 => ?_) (fun c1 => ?_)
  · refine j_iconst (pc := 27) h dX6_blockAt_27 ic_m1 ?_
    refine j_iretr (pc := 28) h dX6_blockAt_28 (rfl)
  · refine j_iload1 (pc := 4) h dX6_blockAt_4 ?_
    refine j_aload0 (pc := 5) h dX6_blockAt_5 ?_
    refine j_getf (pc := 6) h dX6_blockAt_6 (fs) fl_X6_28 rfl ?_
    refine j_icmp_ge (pc := 9) (tgt := 27) h dX6_blockAt_9 (by decide) (fun c9 => ?_) (fun c9 => ?_)
    · refine j_iconst (pc := 27) h dX6_blockAt_27 ic_m1 ?_
      refine j_iretr (pc := 28) h dX6_blockAt_28 (rfl)
    · exact absurd (inN_yes (by omega) c1 c9) (by rw [hx]; decide)
theorem k_X6_blockAt {i : Nat} (fs : C j = some (oSt ad j ow wo ln ch bl)) (fsp : C (j + 1) = some (eI g 60 pl)) (hl : ln ≤ 60) (hi : i < ln) : Cr l g yX6_blockAt cX6_blockAt 2 (some .int) 1 [.ref (ad j), .int (nI i)] ad C (.int (pl i)) := by
  refine Ct_of [some (.ref (ad j)), some (.int (nI i))] (by decide) rfl rfl (Nat.le_of_ble_eq_true rfl) rfl rfl (fun X hX h => ?_)
  subst hX
  refine j_iload1 (pc := 0) h dX6_blockAt_0 ?_
  refine j_if_lt (pc := 1) (tgt := 27) h dX6_blockAt_1 (by decide) (fun c1 => absurd c1 (nI_pos (by omega))) (fun c1 => ?_)
  refine j_iload1 (pc := 4) h dX6_blockAt_4 ?_
  refine j_aload0 (pc := 5) h dX6_blockAt_5 ?_
  refine j_getf (pc := 6) h dX6_blockAt_6 (fs) fl_X6_28 rfl ?_
  refine j_icmp_ge (pc := 9) (tgt := 27) h dX6_blockAt_9 (by decide) (fun c9 => absurd c9 (nI_ge (by omega) (by omega))) (fun c9 => ?_)
  refine j_iload1 (pc := 12) h dX6_blockAt_12 ?_
  refine j_bipush (pc := 13) h dX6_blockAt_13 bp_60 ?_
  refine j_icmp_ge (pc := 15) (tgt := 27) h dX6_blockAt_15 (by decide) (fun c15 => absurd c15 (nI_ge (by omega) (by omega))) (fun c15 => ?_)
  refine j_aload0 (pc := 18) h dX6_blockAt_18 ?_
  refine j_getf (pc := 19) h dX6_blockAt_19 (fs) fl_X6_9 rfl ?_
  refine j_iload1 (pc := 22) h dX6_blockAt_22 ?_
  refine j_iald (pc := 23) h dX6_blockAt_23 (fsp) (by omega) (by decide) ?_
  refine j_goto (pc := 24) (tgt := 28) h dX6_blockAt_24 (by decide) ?_
  refine j_iretr (pc := 28) h dX6_blockAt_28 (rfl)
theorem k_X6_countHoles (fs : C j = some (oSt ad j ow wo ln ch bl)) (fsp : C (j + 1) = some (eI g 60 pl)) (hl : ln ≤ 60) : Cr l g yX6_countHoles cX6_countHoles 3 (some .int) 2 [.ref (ad j)] ad C (.int (nI (cnt (fun i => pl i == -1) ln))) := by
  refine Ct_of [some (.ref (ad j)), none, none] (by decide) rfl rfl (Nat.le_of_ble_eq_true rfl) rfl rfl (fun X hX h => ?_)
  subst hX
  have lp : ∀ m i, i + m = ln → J X g 3 (QR X g ad C (.int (nI (cnt (fun i => pl i == -1) ln)))) 0 0 ad C 4 [some (.ref (ad j)), some (.int (nI (cnt (fun i => pl i == -1) i))), some (.int (nI i))] [] := by
    intro m
    induction m with
    | zero =>
      intro i hi
      refine j_iload2 (pc := 4) h dX6_countHoles_4 ?_
      refine j_aload0 (pc := 5) h dX6_countHoles_5 ?_
      refine j_getf (pc := 6) h dX6_countHoles_6 (fs) fl_X6_28 rfl ?_
      refine j_icmp_ge (pc := 9) (tgt := 30) h dX6_countHoles_9 (by decide) (fun c9 => ?_) (fun c9 => absurd (nI_le (by omega) (by omega)) c9)
      refine j_iload1 (pc := 30) h dX6_countHoles_30 ?_
      refine j_iretr (pc := 31) h dX6_countHoles_31 (by rw [show i = ln by omega])
    | succ m ih =>
      intro i hi
      refine j_iload2 (pc := 4) h dX6_countHoles_4 ?_
      refine j_aload0 (pc := 5) h dX6_countHoles_5 ?_
      refine j_getf (pc := 6) h dX6_countHoles_6 (fs) fl_X6_28 rfl ?_
      refine j_icmp_ge (pc := 9) (tgt := 30) h dX6_countHoles_9 (by decide) (fun c9 => absurd c9 (nI_ge (by omega) (by omega))) (fun c9 => ?_)
      refine j_aload0 (pc := 12) h dX6_countHoles_12 ?_
      refine j_iload2 (pc := 13) h dX6_countHoles_13 ?_
      refine j_callVr (pc := 14) h dX6_countHoles_14 (k_X6_blockAt (i := i) fs fsp hl (by omega)) mv_X6_49 (fs) rfl rfl (by decide) (Nat.le_of_ble_eq_true rfl) (Nat.le_of_ble_eq_true rfl) (Nat.le_of_ble_eq_true rfl) ?_
      refine j_iconst (pc := 17) h dX6_countHoles_17 ic_m1 ?_
      refine j_icmp_ne (pc := 18) (tgt := 24) h dX6_countHoles_18 (by decide) (fun c18 => ?_) (fun c18 => ?_)
      · refine j_iinc2 (pc := 24) h dX6_countHoles_24 rfl (inc_n _) ?_
        refine j_goto (pc := 27) (tgt := 4) h dX6_countHoles_27 (by decide) ?_
        rw [show cnt (fun i => pl i == -1) i = cnt (fun i => pl i == -1) (i + 1) from (cnt_f (by simpa using c18)).symm]
        exact ih (i + 1) (by omega)
      · refine j_iinc1 (pc := 21) h dX6_countHoles_21 rfl (inc_n _) ?_
        refine j_iinc2 (pc := 24) h dX6_countHoles_24 rfl (inc_n _) ?_
        refine j_goto (pc := 27) (tgt := 4) h dX6_countHoles_27 (by decide) ?_
        rw [show cnt (fun i => pl i == -1) i + 1 = cnt (fun i => pl i == -1) (i + 1) from (cnt_t (by simpa using c18)).symm]
        exact ih (i + 1) (by omega)
  refine j_iconst (pc := 0) h dX6_countHoles_0 ic_0 ?_
  refine j_istore1 (pc := 1) h dX6_countHoles_1 rfl ?_
  refine j_iconst (pc := 2) h dX6_countHoles_2 ic_0 ?_
  refine j_istore2 (pc := 3) h dX6_countHoles_3 rfl ?_
  exact lp ln 0 (by omega)
def blF (pl : Nat → Int32) : Nat → Int64 := fun i => if pl i = -1 then 0 else b1 (pl i)
theorem up_up {α : Type} (f : Nat → α) (k : Nat) (v w : α) : va_up (va_up f k v) k w = va_up f k w := bx_uu f k v w
theorem k_X6_noteChange {day : Int32} (fs : C j = some (oSt ad j ow wo ln ch bl)) (fsp : C (j + 1) = some (eI g 60 pl)) (hl : ln ≤ 60) : Cw l g yX6_noteChange cX6_noteChange 4 none 2 [.ref (ad j), .int day] ad C none (va_up C j (some (oSt ad j ow wo ln day (orr (blF pl) ln)))) := by
  refine Ct_of [some (.ref (ad j)), some (.int day), none, none] (by decide) rfl rfl (Nat.le_of_ble_eq_true rfl) rfl rfl (fun X hX h => ?_)
  subst hX
  have lp : ∀ m i z, i + m = ln → J X g 4 (QW X g none ad (va_up C j (some (oSt ad j ow wo ln day (orr (blF pl) ln))))) 0 0 ad (va_up C j (some (oSt ad j ow wo ln day (orr (blF pl) i)))) 12 [some (.ref (ad j)), some (.int day), some (.int (nI i)), z] [] := by
    intro m
    induction m with
    | zero =>
      intro i z hi
      refine j_iload2 (pc := 12) h dX6_noteChange_12 ?_
      refine j_aload0 (pc := 13) h dX6_noteChange_13 ?_
      refine j_getf (pc := 14) h dX6_noteChange_14 (va_up_self _ _ _) fl_X6_28 rfl ?_
      refine j_icmp_ge (pc := 17) (tgt := 49) h dX6_noteChange_17 (by decide) (fun c17 => ?_) (fun c17 => absurd (nI_le (by omega) (by omega)) c17)
      refine j_vret (pc := 49) h dX6_noteChange_49 (⟨rfl, rfl, by rw [show i = ln by omega]⟩)
    | succ m ih =>
      intro i z hi
      refine j_iload2 (pc := 12) h dX6_noteChange_12 ?_
      refine j_aload0 (pc := 13) h dX6_noteChange_13 ?_
      refine j_getf (pc := 14) h dX6_noteChange_14 (va_up_self _ _ _) fl_X6_28 rfl ?_
      refine j_icmp_ge (pc := 17) (tgt := 49) h dX6_noteChange_17 (by decide) (fun c17 => absurd c17 (nI_ge (by omega) (by omega))) (fun c17 => ?_)
      refine j_aload0 (pc := 20) h dX6_noteChange_20 ?_
      refine j_iload2 (pc := 21) h dX6_noteChange_21 ?_
      refine j_callVr (pc := 22) h dX6_noteChange_22 (k_X6_blockAt (i := i) (pl := pl) (va_up_self _ _ _) (upn fsp (by omega)) hl (by omega)) mv_X6_49 (va_up_self _ _ _) rfl rfl (by decide) (Nat.le_of_ble_eq_true rfl) (Nat.le_of_ble_eq_true rfl) (Nat.le_of_ble_eq_true rfl) ?_
      refine j_istore3 (pc := 25) h dX6_noteChange_25 rfl ?_
      refine j_iload3 (pc := 26) h dX6_noteChange_26 ?_
      refine j_iconst (pc := 27) h dX6_noteChange_27 ic_m1 ?_
      refine j_icmp_eq (pc := 28) (tgt := 43) h dX6_noteChange_28 (by decide) (fun c28 => ?_) (fun c28 => ?_)
      · refine j_iinc2 (pc := 43) h dX6_noteChange_43 rfl (inc_n _) ?_
        refine j_goto (pc := 46) (tgt := 12) h dX6_noteChange_46 (by decide) ?_
        rw [show orr (blF pl) i = orr (blF pl) (i + 1) from orr_no (by simp [blF, c28])]
        exact ih (i + 1) _ (by omega)
      · refine j_aload0 (pc := 31) h dX6_noteChange_31 ?_
        refine j_dupR (pc := 32) h dX6_noteChange_32 ?_
        refine j_getf (pc := 33) h dX6_noteChange_33 (va_up_self _ _ _) fl_X6_31 rfl ?_
        refine j_lconst (pc := 36) h dX6_noteChange_36 lc_1 ?_
        refine j_iload3 (pc := 37) h dX6_noteChange_37 ?_
        refine j_lshl (pc := 38) h dX6_noteChange_38 ?_
        refine j_lor (pc := 39) h dX6_noteChange_39 ?_
        refine j_putv (pc := 40) h dX6_noteChange_40 (va_up_self _ _ _) pl_X6_31 rfl rfl (Nat.le_of_ble_eq_true rfl) ?_
        refine j_mem (up_up _ _ _ _) ?_
        refine j_iinc2 (pc := 43) h dX6_noteChange_43 rfl (inc_n _) ?_
        refine j_goto (pc := 46) (tgt := 12) h dX6_noteChange_46 (by decide) ?_
        have e : orr (blF pl) (i + 1) = orr (blF pl) i ||| (1 <<< ((pl i).toInt64 &&& 63)) := by rw [orr, blF, if_neg c28]; rfl
        exact j_mem (C' := va_up C j (some (oSt ad j ow wo ln day (orr (blF pl) (i + 1))))) (by rw [e]; rfl) (ih (i + 1) _ (by omega))
  refine j_aload0 (pc := 0) h dX6_noteChange_0 ?_
  refine j_iload1 (pc := 1) h dX6_noteChange_1 ?_
  refine j_putv (pc := 2) h dX6_noteChange_2 (fs) pl_X6_22 rfl rfl (Nat.le_of_ble_eq_true rfl) ?_
  refine j_aload0 (pc := 5) h dX6_noteChange_5 ?_
  refine j_lconst (pc := 6) h dX6_noteChange_6 lc_0 ?_
  refine j_putv (pc := 7) h dX6_noteChange_7 (va_up_self _ _ _) pl_X6_31 rfl rfl (Nat.le_of_ble_eq_true rfl) ?_
  refine j_mem (up_up _ _ _ _) ?_
  refine j_iconst (pc := 10) h dX6_noteChange_10 ic_0 ?_
  refine j_istore2 (pc := 11) h dX6_noteChange_11 rfl ?_
  exact lp ln 0 none (by omega)
theorem k_X6_put {p : Nat} {x day : Int32} (fs : C j = some (oSt ad j ow wo ln ch bl)) (fsp : C (j + 1) = some (eI g 60 pl)) (hl : ln ≤ 60) (hp : p < cpl ln) : Cw l g yX6_put cX6_put 4 none 3 [.ref (ad j), .int (nI p), .int x, .int day] ad C none (va_up (va_up C (j + 1) (some (eI g 60 (upd pl p x)))) j (some (oSt ad j ow wo (if p < ln then ln else p + 1) day (orr (blF (upd pl p x)) (if p < ln then ln else p + 1))))) := by
  have hp6 := cpl_le ln
  have hpl : p ≤ ln := by unfold cpl at hp; split at hp <;> omega
  refine Ct_of [some (.ref (ad j)), some (.int (nI p)), some (.int x), some (.int day)] (by decide) rfl rfl (Nat.le_of_ble_eq_true rfl) rfl rfl (fun X hX h => ?_)
  subst hX
  refine j_aload0 (pc := 0) h dX6_put_0 ?_
  refine j_iload1 (pc := 1) h dX6_put_1 ?_
  refine j_callVr (pc := 2) h dX6_put_2 (k_X6_canPutAt fs hl) mv_X6_35 (fs) rfl rfl (by decide) (Nat.le_of_ble_eq_true rfl) (Nat.le_of_ble_eq_true rfl) (Nat.le_of_ble_eq_true rfl) ?_
  refine j_if_neB (pc := 5) (tgt := 9) h dX6_put_5 (by decide) (fun c5 => ?_) (fun c5 => absurd c5 (by rw [inN_nI (by omega)]; simpa using hp))
  refine j_aload0 (pc := 9) h dX6_put_9 ?_
  refine j_getf (pc := 10) h dX6_put_10 (fs) fl_X6_9 rfl ?_
  refine j_iload1 (pc := 13) h dX6_put_13 ?_
  refine j_iload2 (pc := 14) h dX6_put_14 ?_
  refine j_iast (pc := 15) h dX6_put_15 (fsp) (by omega) (by decide) ?_
  have fs1 : va_up C (j + 1) (some (eI g 60 (upd pl p x))) j = some (oSt ad j ow wo ln ch bl) := upn fs (by omega)
  have e0 : (if nI ln < nI (p + 1) then nI (p + 1) else nI ln) = nI (if p < ln then ln else p + 1) := by
    by_cases q : p < ln
    · rw [if_pos q, if_neg (nI_nlt (by omega) (by omega))]
    · rw [if_neg q, if_pos (nI_lt (by omega) (by omega))]
  refine j_aload0 (pc := 16) h dX6_put_16 ?_
  refine j_aload0 (pc := 17) h dX6_put_17 ?_
  refine j_getf (pc := 18) h dX6_put_18 (fs1) fl_X6_28 rfl ?_
  refine j_iload1 (pc := 21) h dX6_put_21 ?_
  refine j_iconst (pc := 22) h dX6_put_22 ic_1 ?_
  refine j_iaddN (pc := 23) h dX6_put_23 ?_
  refine j_callSr (pc := 24) h dX6_put_24 (k_J9_max_7cf53) ms_X6_39 rfl rfl (by decide) (Nat.le_of_ble_eq_true rfl) (Nat.le_of_ble_eq_true rfl) (Nat.le_of_ble_eq_true rfl) ?_
  refine j_topi (e0) ?_
  refine j_putv (pc := 27) h dX6_put_27 (fs1) pl_X6_28 rfl rfl (Nat.le_of_ble_eq_true rfl) ?_
  refine j_aload0 (pc := 30) h dX6_put_30 ?_
  refine j_iload3 (pc := 31) h dX6_put_31 ?_
  refine j_callV (pc := 32) h dX6_put_32 (k_X6_noteChange (ln := if p < ln then ln else p + 1) (va_up_self _ _ _) (upn (va_up_self _ _ _) (by omega)) (by split <;> omega)) mv_X6_45 (va_up_self _ _ _) rfl rfl (by decide) (Nat.le_of_ble_eq_true rfl) (Nat.le_of_ble_eq_true rfl) (Nat.le_of_ble_eq_true rfl) (fun v32 ad32 C32 hp32 => ?_)
  obtain ⟨rfl, rfl, rfl⟩ := hp32
  refine j_vret (pc := 35) h dX6_put_35 (⟨rfl, rfl, up_up _ _ _ _⟩)
theorem k_X6_shorten {n : Nat} {day : Int32} (fs : C j = some (oSt ad j ow wo ln ch bl)) (fsp : C (j + 1) = some (eI g 60 pl)) (hl : n ≤ 60) : Cw l g yX6_shorten cX6_shorten 3 none 3 [.ref (ad j), .int (nI n), .int day] ad C none (va_up C j (some (oSt ad j ow wo n day (orr (blF pl) n)))) := by
  refine Ct_of [some (.ref (ad j)), some (.int (nI n)), some (.int day)] (by decide) rfl rfl (Nat.le_of_ble_eq_true rfl) rfl rfl (fun X hX h => ?_)
  subst hX
  refine j_aload0 (pc := 0) h dX6_shorten_0 ?_
  refine j_iload1 (pc := 1) h dX6_shorten_1 ?_
  refine j_putv (pc := 2) h dX6_shorten_2 (fs) pl_X6_28 rfl rfl (Nat.le_of_ble_eq_true rfl) ?_
  refine j_aload0 (pc := 5) h dX6_shorten_5 ?_
  refine j_iload2 (pc := 6) h dX6_shorten_6 ?_
  refine j_callV (pc := 7) h dX6_shorten_7 (k_X6_noteChange (ln := n) (va_up_self _ _ _) (upn fsp (by omega)) hl) mv_X6_45 (va_up_self _ _ _) rfl rfl (by decide) (Nat.le_of_ble_eq_true rfl) (Nat.le_of_ble_eq_true rfl) (Nat.le_of_ble_eq_true rfl) (fun v7 ad7 C7 hp7 => ?_)
  obtain ⟨rfl, rfl, rfl⟩ := hp7
  refine j_vret (pc := 10) h dX6_shorten_10 (⟨rfl, rfl, up_up _ _ _ _⟩)
end SF

