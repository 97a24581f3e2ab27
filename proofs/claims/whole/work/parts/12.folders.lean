theorem dX1_init_0 : decode cX1_init 0 = .ok (.aload_n 0, 1) := by decide +kernel
theorem dX1_init_1 : decode cX1_init 1 = .ok (.invokespecial 3, 3) := by decide +kernel
theorem dX1_init_4 : decode cX1_init 4 = .ok (.aload_n 0, 1) := by decide +kernel
theorem dX1_init_5 : decode cX1_init 5 = .ok (.bipush 30, 2) := by decide +kernel
theorem dX1_init_7 : decode cX1_init 7 = .ok (.newarray .int, 2) := by decide +kernel
theorem dX1_init_9 : decode cX1_init 9 = .ok (.putfield 9, 3) := by decide +kernel
theorem dX1_init_12 : decode cX1_init 12 = .ok (.aload_n 0, 1) := by decide +kernel
theorem dX1_init_13 : decode cX1_init 13 = .ok (.bipush 30, 2) := by decide +kernel
theorem dX1_init_15 : decode cX1_init 15 = .ok (.newarray .int, 2) := by decide +kernel
theorem dX1_init_17 : decode cX1_init 17 = .ok (.putfield 15, 3) := by decide +kernel
theorem dX1_init_20 : decode cX1_init 20 = .ok (.aload_n 0, 1) := by decide +kernel
theorem dX1_init_21 : decode cX1_init 21 = .ok (.bipush 30, 2) := by decide +kernel
theorem dX1_init_23 : decode cX1_init 23 = .ok (.newarray .boolean, 2) := by decide +kernel
theorem dX1_init_25 : decode cX1_init 25 = .ok (.putfield 18, 3) := by decide +kernel
theorem dX1_init_28 : decode cX1_init 28 = .ok (.aload_n 0, 1) := by decide +kernel
theorem dX1_init_29 : decode cX1_init 29 = .ok (.getfield 9, 3) := by decide +kernel
theorem dX1_init_32 : decode cX1_init 32 = .ok (.iconst 0, 1) := by decide +kernel
theorem dX1_init_33 : decode cX1_init 33 = .ok (.iconst (-1), 1) := by decide +kernel
theorem dX1_init_34 : decode cX1_init 34 = .ok (.iastore, 1) := by decide +kernel
theorem dX1_init_35 : decode cX1_init 35 = .ok (.aload_n 0, 1) := by decide +kernel
theorem dX1_init_36 : decode cX1_init 36 = .ok (.iconst 1, 1) := by decide +kernel
theorem dX1_init_37 : decode cX1_init 37 = .ok (.putfield 22, 3) := by decide +kernel
theorem dX1_init_40 : decode cX1_init 40 = .ok (.return_, 1) := by decide +kernel
theorem dX1_has_0 : decode cX1_has 0 = .ok (.iload_n 1, 1) := by decide +kernel
theorem dX1_has_1 : decode cX1_has 1 = .ok (.ifCond .lt 15, 3) := by decide +kernel
theorem dX1_has_4 : decode cX1_has 4 = .ok (.iload_n 1, 1) := by decide +kernel
theorem dX1_has_5 : decode cX1_has 5 = .ok (.aload_n 0, 1) := by decide +kernel
theorem dX1_has_6 : decode cX1_has 6 = .ok (.getfield 22, 3) := by decide +kernel
theorem dX1_has_9 : decode cX1_has 9 = .ok (.if_icmp .ge 7, 3) := by decide +kernel
theorem dX1_has_12 : decode cX1_has 12 = .ok (.iconst 1, 1) := by decide +kernel
theorem dX1_has_13 : decode cX1_has 13 = .ok (.goto 4, 3) := by decide +kernel
theorem dX1_has_16 : decode cX1_has 16 = .ok (.iconst 0, 1) := by decide +kernel
theorem dX1_has_17 : decode cX1_has 17 = .ok (.ireturn, 1) := by decide +kernel
theorem dX1_add_0 : decode cX1_add 0 = .ok (.aload_n 0, 1) := by decide +kernel
theorem dX1_add_1 : decode cX1_add 1 = .ok (.getfield 22, 3) := by decide +kernel
theorem dX1_add_4 : decode cX1_add 4 = .ok (.bipush 30, 2) := by decide +kernel
theorem dX1_add_6 : decode cX1_add 6 = .ok (.if_icmp .lt 5, 3) := by decide +kernel
theorem dX1_add_9 : decode cX1_add 9 = .ok (.iconst (-1), 1) := by decide +kernel
theorem dX1_add_10 : decode cX1_add 10 = .ok (.ireturn, 1) := by decide +kernel
theorem dX1_add_11 : decode cX1_add 11 = .ok (.aload_n 0, 1) := by decide +kernel
theorem dX1_add_12 : decode cX1_add 12 = .ok (.getfield 9, 3) := by decide +kernel
theorem dX1_add_15 : decode cX1_add 15 = .ok (.aload_n 0, 1) := by decide +kernel
theorem dX1_add_16 : decode cX1_add 16 = .ok (.getfield 22, 3) := by decide +kernel
theorem dX1_add_19 : decode cX1_add 19 = .ok (.iload_n 1, 1) := by decide +kernel
theorem dX1_add_20 : decode cX1_add 20 = .ok (.iastore, 1) := by decide +kernel
theorem dX1_add_21 : decode cX1_add 21 = .ok (.aload_n 0, 1) := by decide +kernel
theorem dX1_add_22 : decode cX1_add 22 = .ok (.getfield 15, 3) := by decide +kernel
theorem dX1_add_25 : decode cX1_add 25 = .ok (.aload_n 0, 1) := by decide +kernel
theorem dX1_add_26 : decode cX1_add 26 = .ok (.getfield 22, 3) := by decide +kernel
theorem dX1_add_29 : decode cX1_add 29 = .ok (.iload_n 2, 1) := by decide +kernel
theorem dX1_add_30 : decode cX1_add 30 = .ok (.iastore, 1) := by decide +kernel
theorem dX1_add_31 : decode cX1_add 31 = .ok (.aload_n 0, 1) := by decide +kernel
theorem dX1_add_32 : decode cX1_add 32 = .ok (.getfield 18, 3) := by decide +kernel
theorem dX1_add_35 : decode cX1_add 35 = .ok (.aload_n 0, 1) := by decide +kernel
theorem dX1_add_36 : decode cX1_add 36 = .ok (.getfield 22, 3) := by decide +kernel
theorem dX1_add_39 : decode cX1_add 39 = .ok (.iload_n 3, 1) := by decide +kernel
theorem dX1_add_40 : decode cX1_add 40 = .ok (.bastore, 1) := by decide +kernel
theorem dX1_add_41 : decode cX1_add 41 = .ok (.aload_n 0, 1) := by decide +kernel
theorem dX1_add_42 : decode cX1_add 42 = .ok (.dup, 1) := by decide +kernel
theorem dX1_add_43 : decode cX1_add 43 = .ok (.getfield 22, 3) := by decide +kernel
theorem dX1_add_46 : decode cX1_add 46 = .ok (.iconst 1, 1) := by decide +kernel
theorem dX1_add_47 : decode cX1_add 47 = .ok (.iadd, 1) := by decide +kernel
theorem dX1_add_48 : decode cX1_add 48 = .ok (.putfield 22, 3) := by decide +kernel
theorem dX1_add_51 : decode cX1_add 51 = .ok (.aload_n 0, 1) := by decide +kernel
theorem dX1_add_52 : decode cX1_add 52 = .ok (.getfield 22, 3) := by decide +kernel
theorem dX1_add_55 : decode cX1_add 55 = .ok (.iconst 1, 1) := by decide +kernel
theorem dX1_add_56 : decode cX1_add 56 = .ok (.isub, 1) := by decide +kernel
theorem dX1_add_57 : decode cX1_add 57 = .ok (.ireturn, 1) := by decide +kernel
theorem dX1_putIn_0 : decode cX1_putIn 0 = .ok (.aload_n 0, 1) := by decide +kernel
theorem dX1_putIn_1 : decode cX1_putIn 1 = .ok (.iload_n 1, 1) := by decide +kernel
theorem dX1_putIn_2 : decode cX1_putIn 2 = .ok (.invokevirtual 26, 3) := by decide +kernel
theorem dX1_putIn_5 : decode cX1_putIn 5 = .ok (.ifCond .eq 10, 3) := by decide +kernel
theorem dX1_putIn_8 : decode cX1_putIn 8 = .ok (.aload_n 0, 1) := by decide +kernel
theorem dX1_putIn_9 : decode cX1_putIn 9 = .ok (.getfield 9, 3) := by decide +kernel
theorem dX1_putIn_12 : decode cX1_putIn 12 = .ok (.iload_n 1, 1) := by decide +kernel
theorem dX1_putIn_13 : decode cX1_putIn 13 = .ok (.iload_n 2, 1) := by decide +kernel
theorem dX1_putIn_14 : decode cX1_putIn 14 = .ok (.iastore, 1) := by decide +kernel
theorem dX1_putIn_15 : decode cX1_putIn 15 = .ok (.return_, 1) := by decide +kernel
theorem dX1_isInTree_0 : decode cX1_isInTree 0 = .ok (.iload_n 1, 1) := by decide +kernel
theorem dX1_isInTree_1 : decode cX1_isInTree 1 = .ok (.istore_n 3, 1) := by decide +kernel
theorem dX1_isInTree_2 : decode cX1_isInTree 2 = .ok (.iconst 0, 1) := by decide +kernel
theorem dX1_isInTree_3 : decode cX1_isInTree 3 = .ok (.istore 4, 2) := by decide +kernel
theorem dX1_isInTree_5 : decode cX1_isInTree 5 = .ok (.iload 4, 2) := by decide +kernel
theorem dX1_isInTree_7 : decode cX1_isInTree 7 = .ok (.bipush 30, 2) := by decide +kernel
theorem dX1_isInTree_9 : decode cX1_isInTree 9 = .ok (.if_icmp .ge 31, 3) := by decide +kernel
theorem dX1_isInTree_12 : decode cX1_isInTree 12 = .ok (.aload_n 0, 1) := by decide +kernel
theorem dX1_isInTree_13 : decode cX1_isInTree 13 = .ok (.iload_n 3, 1) := by decide +kernel
theorem dX1_isInTree_14 : decode cX1_isInTree 14 = .ok (.invokevirtual 26, 3) := by decide +kernel
theorem dX1_isInTree_17 : decode cX1_isInTree 17 = .ok (.ifCond .eq 23, 3) := by decide +kernel
theorem dX1_isInTree_20 : decode cX1_isInTree 20 = .ok (.iload_n 3, 1) := by decide +kernel
theorem dX1_isInTree_21 : decode cX1_isInTree 21 = .ok (.iload_n 2, 1) := by decide +kernel
theorem dX1_isInTree_22 : decode cX1_isInTree 22 = .ok (.if_icmp .ne 5, 3) := by decide +kernel
theorem dX1_isInTree_25 : decode cX1_isInTree 25 = .ok (.iconst 1, 1) := by decide +kernel
theorem dX1_isInTree_26 : decode cX1_isInTree 26 = .ok (.ireturn, 1) := by decide +kernel
theorem dX1_isInTree_27 : decode cX1_isInTree 27 = .ok (.aload_n 0, 1) := by decide +kernel
theorem dX1_isInTree_28 : decode cX1_isInTree 28 = .ok (.getfield 9, 3) := by decide +kernel
theorem dX1_isInTree_31 : decode cX1_isInTree 31 = .ok (.iload_n 3, 1) := by decide +kernel
theorem dX1_isInTree_32 : decode cX1_isInTree 32 = .ok (.iaload, 1) := by decide +kernel
theorem dX1_isInTree_33 : decode cX1_isInTree 33 = .ok (.istore_n 3, 1) := by decide +kernel
theorem dX1_isInTree_34 : decode cX1_isInTree 34 = .ok (.iinc 4 1, 3) := by decide +kernel
theorem dX1_isInTree_37 : decode cX1_isInTree 37 = .ok (.goto (-32), 3) := by decide +kernel
theorem dX1_isInTree_40 : decode cX1_isInTree 40 = .ok (.iconst 0, 1) := by decide +kernel
theorem dX1_isInTree_41 : decode cX1_isInTree 41 = .ok (.ireturn, 1) := by decide +kernel
theorem dX1_treeOf_0 : decode cX1_treeOf 0 = .ok (.iconst 0, 1) := by decide +kernel
theorem dX1_treeOf_1 : decode cX1_treeOf 1 = .ok (.istore_n 2, 1) := by decide +kernel
theorem dX1_treeOf_2 : decode cX1_treeOf 2 = .ok (.iconst 0, 1) := by decide +kernel
theorem dX1_treeOf_3 : decode cX1_treeOf 3 = .ok (.istore_n 3, 1) := by decide +kernel
theorem dX1_treeOf_4 : decode cX1_treeOf 4 = .ok (.iload_n 3, 1) := by decide +kernel
theorem dX1_treeOf_5 : decode cX1_treeOf 5 = .ok (.aload_n 0, 1) := by decide +kernel
theorem dX1_treeOf_6 : decode cX1_treeOf 6 = .ok (.getfield 22, 3) := by decide +kernel
theorem dX1_treeOf_9 : decode cX1_treeOf 9 = .ok (.if_icmp .ge 24, 3) := by decide +kernel
theorem dX1_treeOf_12 : decode cX1_treeOf 12 = .ok (.aload_n 0, 1) := by decide +kernel
theorem dX1_treeOf_13 : decode cX1_treeOf 13 = .ok (.iload_n 3, 1) := by decide +kernel
theorem dX1_treeOf_14 : decode cX1_treeOf 14 = .ok (.iload_n 1, 1) := by decide +kernel
theorem dX1_treeOf_15 : decode cX1_treeOf 15 = .ok (.invokevirtual 30, 3) := by decide +kernel
theorem dX1_treeOf_18 : decode cX1_treeOf 18 = .ok (.ifCond .eq 9, 3) := by decide +kernel
theorem dX1_treeOf_21 : decode cX1_treeOf 21 = .ok (.iload_n 2, 1) := by decide +kernel
theorem dX1_treeOf_22 : decode cX1_treeOf 22 = .ok (.iconst 1, 1) := by decide +kernel
theorem dX1_treeOf_23 : decode cX1_treeOf 23 = .ok (.iload_n 3, 1) := by decide +kernel
theorem dX1_treeOf_24 : decode cX1_treeOf 24 = .ok (.ishl, 1) := by decide +kernel
theorem dX1_treeOf_25 : decode cX1_treeOf 25 = .ok (.ior, 1) := by decide +kernel
theorem dX1_treeOf_26 : decode cX1_treeOf 26 = .ok (.istore_n 2, 1) := by decide +kernel
theorem dX1_treeOf_27 : decode cX1_treeOf 27 = .ok (.iinc 3 1, 3) := by decide +kernel
theorem dX1_treeOf_30 : decode cX1_treeOf 30 = .ok (.goto (-26), 3) := by decide +kernel
theorem dX1_treeOf_33 : decode cX1_treeOf 33 = .ok (.iload_n 2, 1) := by decide +kernel
theorem dX1_treeOf_34 : decode cX1_treeOf 34 = .ok (.ireturn, 1) := by decide +kernel
theorem dX1_isSeen_0 : decode cX1_isSeen 0 = .ok (.iload_n 1, 1) := by decide +kernel
theorem dX1_isSeen_1 : decode cX1_isSeen 1 = .ok (.istore_n 3, 1) := by decide +kernel
theorem dX1_isSeen_2 : decode cX1_isSeen 2 = .ok (.iconst 0, 1) := by decide +kernel
theorem dX1_isSeen_3 : decode cX1_isSeen 3 = .ok (.istore 4, 2) := by decide +kernel
theorem dX1_isSeen_5 : decode cX1_isSeen 5 = .ok (.iload 4, 2) := by decide +kernel
theorem dX1_isSeen_7 : decode cX1_isSeen 7 = .ok (.bipush 30, 2) := by decide +kernel
theorem dX1_isSeen_9 : decode cX1_isSeen 9 = .ok (.if_icmp .ge 45, 3) := by decide +kernel
theorem dX1_isSeen_12 : decode cX1_isSeen 12 = .ok (.aload_n 0, 1) := by decide +kernel
theorem dX1_isSeen_13 : decode cX1_isSeen 13 = .ok (.iload_n 3, 1) := by decide +kernel
theorem dX1_isSeen_14 : decode cX1_isSeen 14 = .ok (.invokevirtual 26, 3) := by decide +kernel
theorem dX1_isSeen_17 : decode cX1_isSeen 17 = .ok (.ifCond .eq 37, 3) := by decide +kernel
theorem dX1_isSeen_20 : decode cX1_isSeen 20 = .ok (.aload_n 0, 1) := by decide +kernel
theorem dX1_isSeen_21 : decode cX1_isSeen 21 = .ok (.getfield 18, 3) := by decide +kernel
theorem dX1_isSeen_24 : decode cX1_isSeen 24 = .ok (.iload_n 3, 1) := by decide +kernel
theorem dX1_isSeen_25 : decode cX1_isSeen 25 = .ok (.baload, 1) := by decide +kernel
theorem dX1_isSeen_26 : decode cX1_isSeen 26 = .ok (.ifCond .eq 15, 3) := by decide +kernel
theorem dX1_isSeen_29 : decode cX1_isSeen 29 = .ok (.aload_n 0, 1) := by decide +kernel
theorem dX1_isSeen_30 : decode cX1_isSeen 30 = .ok (.getfield 15, 3) := by decide +kernel
theorem dX1_isSeen_33 : decode cX1_isSeen 33 = .ok (.iload_n 3, 1) := by decide +kernel
theorem dX1_isSeen_34 : decode cX1_isSeen 34 = .ok (.iaload, 1) := by decide +kernel
theorem dX1_isSeen_35 : decode cX1_isSeen 35 = .ok (.iload_n 2, 1) := by decide +kernel
theorem dX1_isSeen_36 : decode cX1_isSeen 36 = .ok (.if_icmp .eq 5, 3) := by decide +kernel
theorem dX1_isSeen_39 : decode cX1_isSeen 39 = .ok (.iconst 0, 1) := by decide +kernel
theorem dX1_isSeen_40 : decode cX1_isSeen 40 = .ok (.ireturn, 1) := by decide +kernel
theorem dX1_isSeen_41 : decode cX1_isSeen 41 = .ok (.aload_n 0, 1) := by decide +kernel
theorem dX1_isSeen_42 : decode cX1_isSeen 42 = .ok (.getfield 9, 3) := by decide +kernel
theorem dX1_isSeen_45 : decode cX1_isSeen 45 = .ok (.iload_n 3, 1) := by decide +kernel
theorem dX1_isSeen_46 : decode cX1_isSeen 46 = .ok (.iaload, 1) := by decide +kernel
theorem dX1_isSeen_47 : decode cX1_isSeen 47 = .ok (.istore_n 3, 1) := by decide +kernel
theorem dX1_isSeen_48 : decode cX1_isSeen 48 = .ok (.iinc 4 1, 3) := by decide +kernel
theorem dX1_isSeen_51 : decode cX1_isSeen 51 = .ok (.goto (-46), 3) := by decide +kernel
theorem dX1_isSeen_54 : decode cX1_isSeen 54 = .ok (.iconst 1, 1) := by decide +kernel
theorem dX1_isSeen_55 : decode cX1_isSeen 55 = .ok (.ireturn, 1) := by decide +kernel
theorem dX1_maySum_0 : decode cX1_maySum 0 = .ok (.aload_n 0, 1) := by decide +kernel
theorem dX1_maySum_1 : decode cX1_maySum 1 = .ok (.iload_n 1, 1) := by decide +kernel
theorem dX1_maySum_2 : decode cX1_maySum 2 = .ok (.invokevirtual 26, 3) := by decide +kernel
theorem dX1_maySum_5 : decode cX1_maySum 5 = .ok (.ifCond .eq 30, 3) := by decide +kernel
theorem dX1_maySum_8 : decode cX1_maySum 8 = .ok (.aload_n 0, 1) := by decide +kernel
theorem dX1_maySum_9 : decode cX1_maySum 9 = .ok (.iload_n 1, 1) := by decide +kernel
theorem dX1_maySum_10 : decode cX1_maySum 10 = .ok (.iload_n 2, 1) := by decide +kernel
theorem dX1_maySum_11 : decode cX1_maySum 11 = .ok (.invokevirtual 34, 3) := by decide +kernel
theorem dX1_maySum_14 : decode cX1_maySum 14 = .ok (.ifCond .ne 17, 3) := by decide +kernel
theorem dX1_maySum_17 : decode cX1_maySum 17 = .ok (.aload_n 0, 1) := by decide +kernel
theorem dX1_maySum_18 : decode cX1_maySum 18 = .ok (.aload_n 0, 1) := by decide +kernel
theorem dX1_maySum_19 : decode cX1_maySum 19 = .ok (.getfield 9, 3) := by decide +kernel
theorem dX1_maySum_22 : decode cX1_maySum 22 = .ok (.iload_n 1, 1) := by decide +kernel
theorem dX1_maySum_23 : decode cX1_maySum 23 = .ok (.iaload, 1) := by decide +kernel
theorem dX1_maySum_24 : decode cX1_maySum 24 = .ok (.iload_n 2, 1) := by decide +kernel
theorem dX1_maySum_25 : decode cX1_maySum 25 = .ok (.invokevirtual 34, 3) := by decide +kernel
theorem dX1_maySum_28 : decode cX1_maySum 28 = .ok (.ifCond .eq 7, 3) := by decide +kernel
theorem dX1_maySum_31 : decode cX1_maySum 31 = .ok (.iconst 1, 1) := by decide +kernel
theorem dX1_maySum_32 : decode cX1_maySum 32 = .ok (.goto 4, 3) := by decide +kernel
theorem dX1_maySum_35 : decode cX1_maySum 35 = .ok (.iconst 0, 1) := by decide +kernel
theorem dX1_maySum_36 : decode cX1_maySum 36 = .ok (.ireturn, 1) := by decide +kernel
/-! Folders -/
def oFo (ad : AD) (nf : Nat) : va_E := eC 1 [.ref (ad 2), .ref (ad 3), .ref (ad 4), .int (nI nf)]
theorem anc_eq {pr : Nat → Nat} {n j t : Nat} (h : j = t) : anc pr n j t = true := by cases n <;> simp [anc, h]
theorem anc_0 {pr : Nat → Nat} {n t : Nat} (h : ¬ 0 = t) : anc pr n 0 t = false := by cases n <;> simp [anc, h]
theorem anc_s {pr : Nat → Nat} {n j t : Nat} (h : ¬ j = t) (h0 : j ≠ 0) : anc pr (n + 1) j t = anc pr n (pr j) t := by
  have e1 : (j == t) = false := by simpa using h
  have e2 : (j != 0) = true := by simpa using h0
  rw [anc, e1, e2]; simp
theorem parF_0 {pr : Nat → Nat} : parF pr 0 = -1 := rfl
theorem parF_s {pr : Nat → Nat} {j : Nat} (h : j ≠ 0) : parF pr j = nI (pr j) := by simp [parF, h]
theorem inN_m1 {n : Nat} : inN (-1) n = false := inN_no0 (by decide)
theorem okc_s {pr : Nat → Nat} {nf n j : Nat} (h : okc pr nf n j) (h0 : j ≠ 0) : ∃ m, n = m + 1 ∧ pr j < nf ∧ okc pr nf m (pr j) := by
  cases n with
  | zero => exact absurd h h0
  | succ m => rcases h with h | h; exact absurd h h0; exact ⟨m, rfl, h⟩
section FO
variable {l : Launch} {g : GG} {ad : AD} {C : CC} {nf : Nat} {pr : Nat → Nat} {par fow hid : Nat → Int32} {hd : Nat → Bool}
theorem k_X1_has {x : Int32} (f1 : C 1 = some (oFo ad nf)) (hn : nf ≤ 30) : Cr l g yX1_has cX1_has 2 (some .boolean) 1 [.ref (ad 1), .int x] ad C (.int (bI (inN x nf))) := by
  refine Ct_of [some (.ref (ad 1)), some (.int x)] (by decide) rfl rfl (Nat.le_of_ble_eq_true rfl) rfl rfl (fun X hX h => ?_)
  subst hX
  refine j_iload1 (pc := 0) h dX1_has_0 ?_
  refine j_if_lt (pc := 1) (tgt := 16) h dX1_has_1 (by decide) (fun c1 => ?_) (fun c1 => ?_)
  · refine j_iconst (pc := 16) h dX1_has_16 ic_0 ?_
    refine j_zretr (pc := 17) h dX1_has_17 (by decide) (bI_f (inN_no0 c1))
  · refine j_iload1 (pc := 4) h dX1_has_4 ?_
    refine j_aload0 (pc := 5) h dX1_has_5 ?_
    refine j_getf (pc := 6) h dX1_has_6 (f1) fl_X1_22 rfl ?_
    refine j_icmp_ge (pc := 9) (tgt := 16) h dX1_has_9 (by decide) (fun c9 => ?_) (fun c9 => ?_)
    · refine j_iconst (pc := 16) h dX1_has_16 ic_0 ?_
      refine j_zretr (pc := 17) h dX1_has_17 (by decide) (bI_f (inN_noN (by omega) c9))
    · refine j_iconst (pc := 12) h dX1_has_12 ic_1 ?_
      refine j_goto (pc := 13) (tgt := 17) h dX1_has_13 (by decide) ?_
      refine j_zretr (pc := 17) h dX1_has_17 (by decide) (bI_t (inN_yes (by omega) c1 c9))
theorem k_X1_isInTree {a t : Nat} (f1 : C 1 = some (oFo ad nf)) (f2 : C 2 = some (eI g 30 (parF pr))) (hn : nf ≤ 30) (ha : a < nf) (hok : okc pr nf 29 a) (ht : t < nf) : Cr l g yX1_isInTree cX1_isInTree 5 (some .boolean) 2 [.ref (ad 1), .int (nI a), .int (nI t)] ad C (.int (bI (anc pr 29 a t))) := by
  refine Ct_of [some (.ref (ad 1)), some (.int (nI a)), some (.int (nI t)), none, none] (by decide) rfl rfl (Nat.le_of_ble_eq_true rfl) rfl rfl (fun X hX h => ?_)
  subst hX
  have ex : ∀ s, s ≤ 30 → anc pr 29 a t = false → J X g 5 (QR X g ad C (.int (bI (anc pr 29 a t)))) 0 0 ad C 5 [some (.ref (ad 1)), some (.int (nI a)), some (.int (nI t)), some (.int (-1)), some (.int (nI s))] [] := by
    intro s hs hB
    refine j_iload4 (pc := 5) h dX1_isInTree_5 ?_
    refine j_bipush (pc := 7) h dX1_isInTree_7 bp_30 ?_
    refine j_icmp_ge (pc := 9) (tgt := 40) h dX1_isInTree_9 (by decide) (fun c9 => ?_) (fun c9 => ?_)
    · refine j_iconst (pc := 40) h dX1_isInTree_40 ic_0 ?_
      refine j_zretr (pc := 41) h dX1_isInTree_41 (by decide) (bI_f hB)
    · refine j_aload0 (pc := 12) h dX1_isInTree_12 ?_
      refine j_iload3 (pc := 13) h dX1_isInTree_13 ?_
      refine j_callVr (pc := 14) h dX1_isInTree_14 (k_X1_has f1 hn) mv_X1_26 (f1) rfl rfl (by decide) (Nat.le_of_ble_eq_true rfl) (Nat.le_of_ble_eq_true rfl) (Nat.le_of_ble_eq_true rfl) ?_
      refine j_if_eqB (pc := 17) (tgt := 40) h dX1_isInTree_17 (by decide) (fun c17 => ?_) (fun c17 => absurd c17 (by rw [inN_m1]; decide))
      refine j_iconst (pc := 40) h dX1_isInTree_40 ic_0 ?_
      refine j_zretr (pc := 41) h dX1_isInTree_41 (by decide) (bI_f hB)
  have lp : ∀ n s j, s + n + 1 ≤ 30 → okc pr nf n j → j < nf → anc pr n j t = anc pr 29 a t → J X g 5 (QR X g ad C (.int (bI (anc pr 29 a t)))) 0 0 ad C 5 [some (.ref (ad 1)), some (.int (nI a)), some (.int (nI t)), some (.int (nI j)), some (.int (nI s))] [] := by
    intro n
    induction n with
    | zero =>
      intro s j hs ho hj hB
      obtain rfl : j = 0 := ho
      refine j_iload4 (pc := 5) h dX1_isInTree_5 ?_
      refine j_bipush (pc := 7) h dX1_isInTree_7 bp_30 ?_
      refine j_icmp_ge (pc := 9) (tgt := 40) h dX1_isInTree_9 (by decide) (fun c9 => absurd c9 (nI_ge (by omega) (by omega))) (fun c9 => ?_)
      refine j_aload0 (pc := 12) h dX1_isInTree_12 ?_
      refine j_iload3 (pc := 13) h dX1_isInTree_13 ?_
      refine j_callVr (pc := 14) h dX1_isInTree_14 (k_X1_has f1 hn) mv_X1_26 (f1) rfl rfl (by decide) (Nat.le_of_ble_eq_true rfl) (Nat.le_of_ble_eq_true rfl) (Nat.le_of_ble_eq_true rfl) ?_
      refine j_if_eqB (pc := 17) (tgt := 40) h dX1_isInTree_17 (by decide) (fun c17 => absurd c17 (by rw [inN_nI (by omega)]; simp; omega)) (fun c17 => ?_)
      refine j_iload3 (pc := 20) h dX1_isInTree_20 ?_
      refine j_iload2 (pc := 21) h dX1_isInTree_21 ?_
      refine j_icmp_ne (pc := 22) (tgt := 27) h dX1_isInTree_22 (by decide) (fun c22 => ?_) (fun c22 => ?_)
      · refine j_aload0 (pc := 27) h dX1_isInTree_27 ?_
        refine j_getf (pc := 28) h dX1_isInTree_28 (f1) fl_X1_9 rfl ?_
        refine j_iload3 (pc := 31) h dX1_isInTree_31 ?_
        refine j_iald (pc := 32) h dX1_isInTree_32 (f2) (by omega) (by decide) ?_
        refine j_istore3 (pc := 33) h dX1_isInTree_33 rfl ?_
        refine j_iinc4 (pc := 34) h dX1_isInTree_34 rfl (inc_n _) ?_
        refine j_goto (pc := 37) (tgt := 5) h dX1_isInTree_37 (by decide) ?_
        exact ex (s + 1) (by omega) (by rw [← hB]; exact anc_0 (fun q => c22 (by rw [q])))
      · refine j_iconst (pc := 25) h dX1_isInTree_25 ic_1 ?_
        refine j_zretr (pc := 26) h dX1_isInTree_26 (by decide) (bI_t (by rw [← hB]; exact anc_eq (nI_inj c22 (by omega) (by omega))))
    | succ n ih =>
      intro s j hs ho hj hB
      refine j_iload4 (pc := 5) h dX1_isInTree_5 ?_
      refine j_bipush (pc := 7) h dX1_isInTree_7 bp_30 ?_
      refine j_icmp_ge (pc := 9) (tgt := 40) h dX1_isInTree_9 (by decide) (fun c9 => absurd c9 (nI_ge (by omega) (by omega))) (fun c9 => ?_)
      refine j_aload0 (pc := 12) h dX1_isInTree_12 ?_
      refine j_iload3 (pc := 13) h dX1_isInTree_13 ?_
      refine j_callVr (pc := 14) h dX1_isInTree_14 (k_X1_has f1 hn) mv_X1_26 (f1) rfl rfl (by decide) (Nat.le_of_ble_eq_true rfl) (Nat.le_of_ble_eq_true rfl) (Nat.le_of_ble_eq_true rfl) ?_
      refine j_if_eqB (pc := 17) (tgt := 40) h dX1_isInTree_17 (by decide) (fun c17 => absurd c17 (by rw [inN_nI (by omega)]; simp; omega)) (fun c17 => ?_)
      refine j_iload3 (pc := 20) h dX1_isInTree_20 ?_
      refine j_iload2 (pc := 21) h dX1_isInTree_21 ?_
      refine j_icmp_ne (pc := 22) (tgt := 27) h dX1_isInTree_22 (by decide) (fun c22 => ?_) (fun c22 => ?_)
      · by_cases h0 : j = 0
        · subst h0
          refine j_aload0 (pc := 27) h dX1_isInTree_27 ?_
          refine j_getf (pc := 28) h dX1_isInTree_28 (f1) fl_X1_9 rfl ?_
          refine j_iload3 (pc := 31) h dX1_isInTree_31 ?_
          refine j_iald (pc := 32) h dX1_isInTree_32 (f2) (by omega) (by decide) ?_
          refine j_istore3 (pc := 33) h dX1_isInTree_33 rfl ?_
          refine j_iinc4 (pc := 34) h dX1_isInTree_34 rfl (inc_n _) ?_
          refine j_goto (pc := 37) (tgt := 5) h dX1_isInTree_37 (by decide) ?_
          exact ex (s + 1) (by omega) (by rw [← hB]; exact anc_0 (fun q => c22 (by rw [q])))
        · obtain ⟨m, hm, h1, h2⟩ := okc_s ho h0
          obtain rfl : n = m := by omega
          refine j_aload0 (pc := 27) h dX1_isInTree_27 ?_
          refine j_getf (pc := 28) h dX1_isInTree_28 (f1) fl_X1_9 rfl ?_
          refine j_iload3 (pc := 31) h dX1_isInTree_31 ?_
          refine j_iald (pc := 32) h dX1_isInTree_32 (f2) (by omega) (by decide) ?_
          refine j_topi (parF_s h0) ?_
          refine j_istore3 (pc := 33) h dX1_isInTree_33 rfl ?_
          refine j_iinc4 (pc := 34) h dX1_isInTree_34 rfl (inc_n _) ?_
          refine j_goto (pc := 37) (tgt := 5) h dX1_isInTree_37 (by decide) ?_
          exact ih (s + 1) (pr j) (by omega) h2 h1 (by rw [← hB]; exact (anc_s (fun q => c22 (by rw [q])) h0).symm)
      · refine j_iconst (pc := 25) h dX1_isInTree_25 ic_1 ?_
        refine j_zretr (pc := 26) h dX1_isInTree_26 (by decide) (bI_t (by rw [← hB]; exact anc_eq (nI_inj c22 (by omega) (by omega))))
  refine j_iload1 (pc := 0) h dX1_isInTree_0 ?_
  refine j_istore3 (pc := 1) h dX1_isInTree_1 rfl ?_
  refine j_iconst (pc := 2) h dX1_isInTree_2 ic_0 ?_
  refine j_istore4 (pc := 3) h dX1_isInTree_3 rfl ?_
  exact lp 29 0 a (by omega) hok ha rfl
theorem k_X1_treeOf {t : Nat} (f1 : C 1 = some (oFo ad nf)) (f2 : C 2 = some (eI g 30 (parF pr))) (hn : nf ≤ 30) (hok : ∀ j, j < nf → okc pr nf 29 j) (ht : t < nf) : Cr l g yX1_treeOf cX1_treeOf 4 (some .int) 3 [.ref (ad 1), .int (nI t)] ad C (.int (bitsI (fun j => anc pr 29 j t) nf)) := by
  refine Ct_of [some (.ref (ad 1)), some (.int (nI t)), none, none] (by decide) rfl rfl (Nat.le_of_ble_eq_true rfl) rfl rfl (fun X hX h => ?_)
  subst hX
  have lp : ∀ m i, i + m = nf → J X g 4 (QR X g ad C (.int (bitsI (fun j => anc pr 29 j t) nf))) 0 0 ad C 4 [some (.ref (ad 1)), some (.int (nI t)), some (.int (bitsI (fun j => anc pr 29 j t) i)), some (.int (nI i))] [] := by
    intro m
    induction m with
    | zero =>
      intro i hi
      refine j_iload3 (pc := 4) h dX1_treeOf_4 ?_
      refine j_aload0 (pc := 5) h dX1_treeOf_5 ?_
      refine j_getf (pc := 6) h dX1_treeOf_6 (f1) fl_X1_22 rfl ?_
      refine j_icmp_ge (pc := 9) (tgt := 33) h dX1_treeOf_9 (by decide) (fun c9 => ?_) (fun c9 => absurd (nI_le (by omega) (by omega)) c9)
      refine j_iload2 (pc := 33) h dX1_treeOf_33 ?_
      refine j_iretr (pc := 34) h dX1_treeOf_34 (by rw [show i = nf by omega])
    | succ m ih =>
      intro i hi
      refine j_iload3 (pc := 4) h dX1_treeOf_4 ?_
      refine j_aload0 (pc := 5) h dX1_treeOf_5 ?_
      refine j_getf (pc := 6) h dX1_treeOf_6 (f1) fl_X1_22 rfl ?_
      refine j_icmp_ge (pc := 9) (tgt := 33) h dX1_treeOf_9 (by decide) (fun c9 => absurd c9 (nI_ge (by omega) (by omega))) (fun c9 => ?_)
      refine j_aload0 (pc := 12) h dX1_treeOf_12 ?_
      refine j_iload3 (pc := 13) h dX1_treeOf_13 ?_
      refine j_iload1 (pc := 14) h dX1_treeOf_14 ?_
      refine j_callVr (pc := 15) h dX1_treeOf_15 (k_X1_isInTree f1 f2 hn (by omega) (hok i (by omega)) ht) mv_X1_30 (f1) rfl rfl (by decide) (Nat.le_of_ble_eq_true rfl) (Nat.le_of_ble_eq_true rfl) (Nat.le_of_ble_eq_true rfl) ?_
      refine j_if_eqB (pc := 18) (tgt := 27) h dX1_treeOf_18 (by decide) (fun c18 => ?_) (fun c18 => ?_)
      · refine j_iinc3 (pc := 27) h dX1_treeOf_27 rfl (inc_n _) ?_
        refine j_goto (pc := 30) (tgt := 4) h dX1_treeOf_30 (by decide) ?_
        rw [show bitsI (fun j => anc pr 29 j t) i = bitsI (fun j => anc pr 29 j t) (i + 1) from by rw [bitsI, if_neg (by rw [c18]; decide)]]
        exact ih (i + 1) (by omega)
      · refine j_iload2 (pc := 21) h dX1_treeOf_21 ?_
        refine j_iconst (pc := 22) h dX1_treeOf_22 ic_1 ?_
        refine j_iload3 (pc := 23) h dX1_treeOf_23 ?_
        refine j_ishl (pc := 24) h dX1_treeOf_24 ?_
        refine j_ior (pc := 25) h dX1_treeOf_25 ?_
        refine j_istore2 (pc := 26) h dX1_treeOf_26 rfl ?_
        refine j_iinc3 (pc := 27) h dX1_treeOf_27 rfl (inc_n _) ?_
        refine j_goto (pc := 30) (tgt := 4) h dX1_treeOf_30 (by decide) ?_
        rw [show bitsI (fun j => anc pr 29 j t) i ||| (nI 1 <<< (nI i &&& 31)) = bitsI (fun j => anc pr 29 j t) (i + 1) from by rw [bitsI, if_pos c18]]
        exact ih (i + 1) (by omega)
  refine j_iconst (pc := 0) h dX1_treeOf_0 ic_0 ?_
  refine j_istore2 (pc := 1) h dX1_treeOf_1 rfl ?_
  refine j_iconst (pc := 2) h dX1_treeOf_2 ic_0 ?_
  refine j_istore3 (pc := 3) h dX1_treeOf_3 rfl ?_
  exact lp nf 0 (by omega)
theorem k_X1_isSeen_m1 {who : Int32} (f1 : C 1 = some (oFo ad nf)) (hn : nf ≤ 30) : Cr l g yX1_isSeen cX1_isSeen 5 (some .boolean) 2 [.ref (ad 1), .int (-1), .int who] ad C (.int (bI true)) := by
  refine Ct_of [some (.ref (ad 1)), some (.int (-1)), some (.int who), none, none] (by decide) rfl rfl (Nat.le_of_ble_eq_true rfl) rfl rfl (fun X hX h => ?_)
  subst hX
  refine j_iload1 (pc := 0) h dX1_isSeen_0 ?_
  refine j_istore3 (pc := 1) h dX1_isSeen_1 rfl ?_
  refine j_iconst (pc := 2) h dX1_isSeen_2 ic_0 ?_
  refine j_istore4 (pc := 3) h dX1_isSeen_3 rfl ?_
  refine j_iload4 (pc := 5) h dX1_isSeen_5 ?_
  refine j_bipush (pc := 7) h dX1_isSeen_7 bp_30 ?_
  refine j_icmp_ge (pc := 9) (tgt := 54) h dX1_isSeen_9 (by decide) (fun c9 => absurd c9 (nI_ge (by omega) (by omega))) (fun c9 => ?_)
  refine j_aload0 (pc := 12) h dX1_isSeen_12 ?_
  refine j_iload3 (pc := 13) h dX1_isSeen_13 ?_
  refine j_callVr (pc := 14) h dX1_isSeen_14 (k_X1_has f1 hn) mv_X1_26 (f1) rfl rfl (by decide) (Nat.le_of_ble_eq_true rfl) (Nat.le_of_ble_eq_true rfl) (Nat.le_of_ble_eq_true rfl) ?_
  refine j_if_eqB (pc := 17) (tgt := 54) h dX1_isSeen_17 (by decide) (fun c17 => ?_) (fun c17 => absurd c17 (by rw [inN_m1]; decide))
  refine j_iconst (pc := 54) h dX1_isSeen_54 ic_1 ?_
  refine j_zretr (pc := 55) h dX1_isSeen_55 (by decide) (rfl)
theorem k_X1_isSeen {a : Nat} {who : Int32} (f1 : C 1 = some (oFo ad nf)) (f2 : C 2 = some (eI g 30 (parF pr))) (f3 : C 3 = some (eI g 30 fow)) (f4 : C 4 = some (eZ g 30 (bF hd))) (hn : nf ≤ 30) (ha : a < nf) (hok : okc pr nf 29 a) : Cr l g yX1_isSeen cX1_isSeen 5 (some .boolean) 2 [.ref (ad 1), .int (nI a), .int who] ad C (.int (bI (sees pr hd fow who 29 a))) := by
  refine Ct_of [some (.ref (ad 1)), some (.int (nI a)), some (.int who), none, none] (by decide) rfl rfl (Nat.le_of_ble_eq_true rfl) rfl rfl (fun X hX h => ?_)
  subst hX
  have ex : ∀ s, s ≤ 30 → sees pr hd fow who 29 a = true → J X g 5 (QR X g ad C (.int (bI (sees pr hd fow who 29 a)))) 0 0 ad C 5 [some (.ref (ad 1)), some (.int (nI a)), some (.int who), some (.int (-1)), some (.int (nI s))] [] := by
    intro s hs hB
    refine j_iload4 (pc := 5) h dX1_isSeen_5 ?_
    refine j_bipush (pc := 7) h dX1_isSeen_7 bp_30 ?_
    refine j_icmp_ge (pc := 9) (tgt := 54) h dX1_isSeen_9 (by decide) (fun c9 => ?_) (fun c9 => ?_)
    · refine j_iconst (pc := 54) h dX1_isSeen_54 ic_1 ?_
      refine j_zretr (pc := 55) h dX1_isSeen_55 (by decide) (bI_t hB)
    · refine j_aload0 (pc := 12) h dX1_isSeen_12 ?_
      refine j_iload3 (pc := 13) h dX1_isSeen_13 ?_
      refine j_callVr (pc := 14) h dX1_isSeen_14 (k_X1_has f1 hn) mv_X1_26 (f1) rfl rfl (by decide) (Nat.le_of_ble_eq_true rfl) (Nat.le_of_ble_eq_true rfl) (Nat.le_of_ble_eq_true rfl) ?_
      refine j_if_eqB (pc := 17) (tgt := 54) h dX1_isSeen_17 (by decide) (fun c17 => ?_) (fun c17 => absurd c17 (by rw [inN_m1]; decide))
      refine j_iconst (pc := 54) h dX1_isSeen_54 ic_1 ?_
      refine j_zretr (pc := 55) h dX1_isSeen_55 (by decide) (bI_t hB)
  have lp : ∀ n s j, s + n + 1 ≤ 30 → okc pr nf n j → j < nf → sees pr hd fow who n j = sees pr hd fow who 29 a → J X g 5 (QR X g ad C (.int (bI (sees pr hd fow who 29 a)))) 0 0 ad C 5 [some (.ref (ad 1)), some (.int (nI a)), some (.int who), some (.int (nI j)), some (.int (nI s))] [] := by
    intro n
    induction n with
    | zero =>
      intro s j hs ho hj hB
      obtain rfl : j = 0 := ho
      have nx : (hd 0 && fow 0 != who) = false → J X g 5 (QR X g ad C (.int (bI (sees pr hd fow who 29 a)))) 0 0 ad C 41 [some (.ref (ad 1)), some (.int (nI a)), some (.int who), some (.int (nI 0)), some (.int (nI s))] [] := by
        intro hq
        refine j_aload0 (pc := 41) h dX1_isSeen_41 ?_
        refine j_getf (pc := 42) h dX1_isSeen_42 (f1) fl_X1_9 rfl ?_
        refine j_iload3 (pc := 45) h dX1_isSeen_45 ?_
        refine j_iald (pc := 46) h dX1_isSeen_46 (f2) (by omega) (by decide) ?_
        refine j_istore3 (pc := 47) h dX1_isSeen_47 rfl ?_
        refine j_iinc4 (pc := 48) h dX1_isSeen_48 rfl (inc_n _) ?_
        refine j_goto (pc := 51) (tgt := 5) h dX1_isSeen_51 (by decide) ?_
        exact ex (s + 1) (by omega) (by rw [← hB, sees, hq]; rfl)
      refine j_iload4 (pc := 5) h dX1_isSeen_5 ?_
      refine j_bipush (pc := 7) h dX1_isSeen_7 bp_30 ?_
      refine j_icmp_ge (pc := 9) (tgt := 54) h dX1_isSeen_9 (by decide) (fun c9 => absurd c9 (nI_ge (by omega) (by omega))) (fun c9 => ?_)
      refine j_aload0 (pc := 12) h dX1_isSeen_12 ?_
      refine j_iload3 (pc := 13) h dX1_isSeen_13 ?_
      refine j_callVr (pc := 14) h dX1_isSeen_14 (k_X1_has f1 hn) mv_X1_26 (f1) rfl rfl (by decide) (Nat.le_of_ble_eq_true rfl) (Nat.le_of_ble_eq_true rfl) (Nat.le_of_ble_eq_true rfl) ?_
      refine j_if_eqB (pc := 17) (tgt := 54) h dX1_isSeen_17 (by decide) (fun c17 => absurd c17 (by rw [inN_nI (by omega)]; simp; omega)) (fun c17 => ?_)
      refine j_aload0 (pc := 20) h dX1_isSeen_20 ?_
      refine j_getf (pc := 21) h dX1_isSeen_21 (f1) fl_X1_18 rfl ?_
      refine j_iload3 (pc := 24) h dX1_isSeen_24 ?_
      refine j_zald (pc := 25) h dX1_isSeen_25 (f4) (by omega) (by decide) ?_
      refine j_if_eq (pc := 26) (tgt := 41) h dX1_isSeen_26 (by decide) (fun c26 => ?_) (fun c26 => ?_)
      · exact nx (by rw [bI_0.mp c26]; rfl)
      · have hh : hd 0 = true := by cases q : hd 0 with | true => rfl | false => exact absurd (show bI (hd 0) = 0 by rw [q]; rfl) c26
        refine j_aload0 (pc := 29) h dX1_isSeen_29 ?_
        refine j_getf (pc := 30) h dX1_isSeen_30 (f1) fl_X1_15 rfl ?_
        refine j_iload3 (pc := 33) h dX1_isSeen_33 ?_
        refine j_iald (pc := 34) h dX1_isSeen_34 (f3) (by omega) (by decide) ?_
        refine j_iload2 (pc := 35) h dX1_isSeen_35 ?_
        refine j_icmp_eq (pc := 36) (tgt := 41) h dX1_isSeen_36 (by decide) (fun c36 => ?_) (fun c36 => ?_)
        · exact nx (by simp [c36])
        · refine j_iconst (pc := 39) h dX1_isSeen_39 ic_0 ?_
          refine j_zretr (pc := 40) h dX1_isSeen_40 (by decide) (bI_f (by rw [← hB, sees, hh]; simp [c36]))
    | succ n ih =>
      intro s j hs ho hj hB
      have nx : (hd j && fow j != who) = false → J X g 5 (QR X g ad C (.int (bI (sees pr hd fow who 29 a)))) 0 0 ad C 41 [some (.ref (ad 1)), some (.int (nI a)), some (.int who), some (.int (nI j)), some (.int (nI s))] [] := by
        intro hq
        by_cases h0 : j = 0
        · subst h0
          refine j_aload0 (pc := 41) h dX1_isSeen_41 ?_
          refine j_getf (pc := 42) h dX1_isSeen_42 (f1) fl_X1_9 rfl ?_
          refine j_iload3 (pc := 45) h dX1_isSeen_45 ?_
          refine j_iald (pc := 46) h dX1_isSeen_46 (f2) (by omega) (by decide) ?_
          refine j_istore3 (pc := 47) h dX1_isSeen_47 rfl ?_
          refine j_iinc4 (pc := 48) h dX1_isSeen_48 rfl (inc_n _) ?_
          refine j_goto (pc := 51) (tgt := 5) h dX1_isSeen_51 (by decide) ?_
          exact ex (s + 1) (by omega) (by rw [← hB, sees, hq]; rfl)
        · obtain ⟨m, hm, h1, h2⟩ := okc_s ho h0
          obtain rfl : n = m := by omega
          refine j_aload0 (pc := 41) h dX1_isSeen_41 ?_
          refine j_getf (pc := 42) h dX1_isSeen_42 (f1) fl_X1_9 rfl ?_
          refine j_iload3 (pc := 45) h dX1_isSeen_45 ?_
          refine j_iald (pc := 46) h dX1_isSeen_46 (f2) (by omega) (by decide) ?_
          refine j_topi (parF_s h0) ?_
          refine j_istore3 (pc := 47) h dX1_isSeen_47 rfl ?_
          refine j_iinc4 (pc := 48) h dX1_isSeen_48 rfl (inc_n _) ?_
          refine j_goto (pc := 51) (tgt := 5) h dX1_isSeen_51 (by decide) ?_
          exact ih (s + 1) (pr j) (by omega) h2 h1 (by rw [← hB, sees, hq]; simp [h0])
      refine j_iload4 (pc := 5) h dX1_isSeen_5 ?_
      refine j_bipush (pc := 7) h dX1_isSeen_7 bp_30 ?_
      refine j_icmp_ge (pc := 9) (tgt := 54) h dX1_isSeen_9 (by decide) (fun c9 => absurd c9 (nI_ge (by omega) (by omega))) (fun c9 => ?_)
      refine j_aload0 (pc := 12) h dX1_isSeen_12 ?_
      refine j_iload3 (pc := 13) h dX1_isSeen_13 ?_
      refine j_callVr (pc := 14) h dX1_isSeen_14 (k_X1_has f1 hn) mv_X1_26 (f1) rfl rfl (by decide) (Nat.le_of_ble_eq_true rfl) (Nat.le_of_ble_eq_true rfl) (Nat.le_of_ble_eq_true rfl) ?_
      refine j_if_eqB (pc := 17) (tgt := 54) h dX1_isSeen_17 (by decide) (fun c17 => absurd c17 (by rw [inN_nI (by omega)]; simp; omega)) (fun c17 => ?_)
      refine j_aload0 (pc := 20) h dX1_isSeen_20 ?_
      refine j_getf (pc := 21) h dX1_isSeen_21 (f1) fl_X1_18 rfl ?_
      refine j_iload3 (pc := 24) h dX1_isSeen_24 ?_
      refine j_zald (pc := 25) h dX1_isSeen_25 (f4) (by omega) (by decide) ?_
      refine j_if_eq (pc := 26) (tgt := 41) h dX1_isSeen_26 (by decide) (fun c26 => ?_) (fun c26 => ?_)
      · exact nx (by rw [bI_0.mp c26]; rfl)
      · have hh : hd j = true := by cases q : hd j with | true => rfl | false => exact absurd (show bI (hd j) = 0 by rw [q]; rfl) c26
        refine j_aload0 (pc := 29) h dX1_isSeen_29 ?_
        refine j_getf (pc := 30) h dX1_isSeen_30 (f1) fl_X1_15 rfl ?_
        refine j_iload3 (pc := 33) h dX1_isSeen_33 ?_
        refine j_iald (pc := 34) h dX1_isSeen_34 (f3) (by omega) (by decide) ?_
        refine j_iload2 (pc := 35) h dX1_isSeen_35 ?_
        refine j_icmp_eq (pc := 36) (tgt := 41) h dX1_isSeen_36 (by decide) (fun c36 => ?_) (fun c36 => ?_)
        · exact nx (by simp [c36])
        · refine j_iconst (pc := 39) h dX1_isSeen_39 ic_0 ?_
          refine j_zretr (pc := 40) h dX1_isSeen_40 (by decide) (bI_f (by rw [← hB, sees, hh]; simp [c36]))
  refine j_iload1 (pc := 0) h dX1_isSeen_0 ?_
  refine j_istore3 (pc := 1) h dX1_isSeen_1 rfl ?_
  refine j_iconst (pc := 2) h dX1_isSeen_2 ic_0 ?_
  refine j_istore4 (pc := 3) h dX1_isSeen_3 rfl ?_
  exact lp 29 0 a (by omega) hok ha rfl
theorem k_X1_maySum {a : Nat} {who : Int32} (f1 : C 1 = some (oFo ad nf)) (f2 : C 2 = some (eI g 30 (parF pr))) (f3 : C 3 = some (eI g 30 fow)) (f4 : C 4 = some (eZ g 30 (bF hd))) (hn : nf ≤ 30) (ha : a < nf) (hok : ∀ j, j < nf → okc pr nf 29 j) (hpr : ∀ j, j < nf → j ≠ 0 → pr j < nf) : Cr l g yX1_maySum cX1_maySum 3 (some .boolean) 3 [.ref (ad 1), .int (nI a), .int who] ad C (.int (bI (sees pr hd fow who 29 a || (a == 0 || sees pr hd fow who 29 (pr a))))) := by
  refine Ct_of [some (.ref (ad 1)), some (.int (nI a)), some (.int who)] (by decide) rfl rfl (Nat.le_of_ble_eq_true rfl) rfl rfl (fun X hX h => ?_)
  subst hX
  refine j_aload0 (pc := 0) h dX1_maySum_0 ?_
  refine j_iload1 (pc := 1) h dX1_maySum_1 ?_
  refine j_callVr (pc := 2) h dX1_maySum_2 (k_X1_has f1 hn) mv_X1_26 (f1) rfl rfl (by decide) (Nat.le_of_ble_eq_true rfl) (Nat.le_of_ble_eq_true rfl) (Nat.le_of_ble_eq_true rfl) ?_
  refine j_if_eqB (pc := 5) (tgt := 35) h dX1_maySum_5 (by decide) (fun c5 => absurd c5 (by rw [inN_nI (by omega)]; simpa using ha)) (fun c5 => ?_)
  refine j_aload0 (pc := 8) h dX1_maySum_8 ?_
  refine j_iload1 (pc := 9) h dX1_maySum_9 ?_
  refine j_iload2 (pc := 10) h dX1_maySum_10 ?_
  refine j_callVr (pc := 11) h dX1_maySum_11 (k_X1_isSeen f1 f2 f3 f4 hn ha (hok a ha)) mv_X1_34 (f1) rfl rfl (by decide) (Nat.le_of_ble_eq_true rfl) (Nat.le_of_ble_eq_true rfl) (Nat.le_of_ble_eq_true rfl) ?_
  refine j_if_neB (pc := 14) (tgt := 31) h dX1_maySum_14 (by decide) (fun c14 => ?_) (fun c14 => ?_)
  · refine j_iconst (pc := 31) h dX1_maySum_31 ic_1 ?_
    refine j_goto (pc := 32) (tgt := 36) h dX1_maySum_32 (by decide) ?_
    refine j_zretr (pc := 36) h dX1_maySum_36 (by decide) (bI_t (by rw [c14]; rfl))
  · by_cases h0 : a = 0
    · subst h0
      refine j_aload0 (pc := 17) h dX1_maySum_17 ?_
      refine j_aload0 (pc := 18) h dX1_maySum_18 ?_
      refine j_getf (pc := 19) h dX1_maySum_19 (f1) fl_X1_9 rfl ?_
      refine j_iload1 (pc := 22) h dX1_maySum_22 ?_
      refine j_iald (pc := 23) h dX1_maySum_23 (f2) (by omega) (by decide) ?_
      refine j_iload2 (pc := 24) h dX1_maySum_24 ?_
      refine j_callVr (pc := 25) h dX1_maySum_25 (k_X1_isSeen_m1 f1 hn) mv_X1_34 (f1) rfl rfl (by decide) (Nat.le_of_ble_eq_true rfl) (Nat.le_of_ble_eq_true rfl) (Nat.le_of_ble_eq_true rfl) ?_
      refine j_if_eqB (pc := 28) (tgt := 35) h dX1_maySum_28 (by decide) (fun c28 => absurd c28 (by decide)) (fun c28 => ?_)
      refine j_iconst (pc := 31) h dX1_maySum_31 ic_1 ?_
      refine j_goto (pc := 32) (tgt := 36) h dX1_maySum_32 (by decide) ?_
      refine j_zretr (pc := 36) h dX1_maySum_36 (by decide) (bI_t (by simp))
    · have h1 := hpr a ha h0
      refine j_aload0 (pc := 17) h dX1_maySum_17 ?_
      refine j_aload0 (pc := 18) h dX1_maySum_18 ?_
      refine j_getf (pc := 19) h dX1_maySum_19 (f1) fl_X1_9 rfl ?_
      refine j_iload1 (pc := 22) h dX1_maySum_22 ?_
      refine j_iald (pc := 23) h dX1_maySum_23 (f2) (by omega) (by decide) ?_
      refine j_topi (parF_s h0) ?_
      refine j_iload2 (pc := 24) h dX1_maySum_24 ?_
      refine j_callVr (pc := 25) h dX1_maySum_25 (k_X1_isSeen f1 f2 f3 f4 hn h1 (hok _ h1)) mv_X1_34 (f1) rfl rfl (by decide) (Nat.le_of_ble_eq_true rfl) (Nat.le_of_ble_eq_true rfl) (Nat.le_of_ble_eq_true rfl) ?_
      refine j_if_eqB (pc := 28) (tgt := 35) h dX1_maySum_28 (by decide) (fun c28 => ?_) (fun c28 => ?_)
      · refine j_iconst (pc := 35) h dX1_maySum_35 ic_0 ?_
        refine j_zretr (pc := 36) h dX1_maySum_36 (by decide) (bI_f (by rw [c14, c28]; simp [h0]))
      · refine j_iconst (pc := 31) h dX1_maySum_31 ic_1 ?_
        refine j_goto (pc := 32) (tgt := 36) h dX1_maySum_32 (by decide) ?_
        refine j_zretr (pc := 36) h dX1_maySum_36 (by decide) (bI_t (by rw [c28]; simp))
theorem k_X1_add {x y : Int32} {b : Bool} (f1 : C 1 = some (oFo ad nf)) (f2 : C 2 = some (eI g 30 par)) (f3 : C 3 = some (eI g 30 fow)) (f4 : C 4 = some (eZ g 30 hid)) (hn : nf < 30) : Cw l g yX1_add cX1_add 4 (some .int) 1 [.ref (ad 1), .int x, .int y, .int (bI b)] ad C (some (.int (nI nf))) (va_up (va_up (va_up (va_up C 2 (some (eI g 30 (upd par nf x)))) 3 (some (eI g 30 (upd fow nf y)))) 4 (some (eZ g 30 (upd hid nf (bI b))))) 1 (some (oFo ad (nf + 1)))) := by
  refine Ct_of [some (.ref (ad 1)), some (.int x), some (.int y), some (.int (bI b))] (by decide) rfl rfl (Nat.le_of_ble_eq_true rfl) rfl rfl (fun X hX h => ?_)
  subst hX
  refine j_aload0 (pc := 0) h dX1_add_0 ?_
  refine j_getf (pc := 1) h dX1_add_1 (f1) fl_X1_22 rfl ?_
  refine j_bipush (pc := 4) h dX1_add_4 bp_30 ?_
  refine j_icmp_lt (pc := 6) (tgt := 11) h dX1_add_6 (by decide) (fun c6 => ?_) (fun c6 => absurd (nI_lt (by omega) (by omega)) c6)
  refine j_aload0 (pc := 11) h dX1_add_11 ?_
  refine j_getf (pc := 12) h dX1_add_12 (f1) fl_X1_9 rfl ?_
  refine j_aload0 (pc := 15) h dX1_add_15 ?_
  refine j_getf (pc := 16) h dX1_add_16 (f1) fl_X1_22 rfl ?_
  refine j_iload1 (pc := 19) h dX1_add_19 ?_
  refine j_iast (pc := 20) h dX1_add_20 (f2) (by omega) (by decide) ?_
  refine j_aload0 (pc := 21) h dX1_add_21 ?_
  refine j_getf (pc := 22) h dX1_add_22 (f1) fl_X1_15 rfl ?_
  refine j_aload0 (pc := 25) h dX1_add_25 ?_
  refine j_getf (pc := 26) h dX1_add_26 (f1) fl_X1_22 rfl ?_
  refine j_iload2 (pc := 29) h dX1_add_29 ?_
  refine j_iast (pc := 30) h dX1_add_30 (f3) (by omega) (by decide) ?_
  refine j_aload0 (pc := 31) h dX1_add_31 ?_
  refine j_getf (pc := 32) h dX1_add_32 (f1) fl_X1_18 rfl ?_
  refine j_aload0 (pc := 35) h dX1_add_35 ?_
  refine j_getf (pc := 36) h dX1_add_36 (f1) fl_X1_22 rfl ?_
  refine j_iload3 (pc := 39) h dX1_add_39 ?_
  refine j_zast (pc := 40) h dX1_add_40 (f4) (by omega) (by decide) (bI_nar b) ?_
  refine j_aload0 (pc := 41) h dX1_add_41 ?_
  refine j_dupR (pc := 42) h dX1_add_42 ?_
  refine j_getf (pc := 43) h dX1_add_43 (f1) fl_X1_22 rfl ?_
  refine j_iconst (pc := 46) h dX1_add_46 ic_1 ?_
  refine j_iaddN (pc := 47) h dX1_add_47 ?_
  refine j_putv (pc := 48) h dX1_add_48 (f1) pl_X1_22 rfl rfl (Nat.le_of_ble_eq_true rfl) ?_
  refine j_aload0 (pc := 51) h dX1_add_51 ?_
  refine j_getf (pc := 52) h dX1_add_52 (rfl) fl_X1_22 rfl ?_
  refine j_iconst (pc := 55) h dX1_add_55 ic_1 ?_
  refine j_isubN (pc := 56) h dX1_add_56 (by omega) ?_
  refine j_iret (pc := 57) h dX1_add_57 (⟨rfl, rfl, rfl⟩)
theorem k_X1_add_no {x y z : Int32} (f1 : C 1 = some (oFo ad nf)) (hn : nf = 30) : Cr l g yX1_add cX1_add 4 (some .int) 1 [.ref (ad 1), .int x, .int y, .int z] ad C (.int (-1)) := by
  refine Ct_of [some (.ref (ad 1)), some (.int x), some (.int y), some (.int z)] (by decide) rfl rfl (Nat.le_of_ble_eq_true rfl) rfl rfl (fun X hX h => ?_)
  subst hX
  refine j_aload0 (pc := 0) h dX1_add_0 ?_
  refine j_getf (pc := 1) h dX1_add_1 (f1) fl_X1_22 rfl ?_
  refine j_bipush (pc := 4) h dX1_add_4 bp_30 ?_
  refine j_icmp_lt (pc := 6) (tgt := 11) h dX1_add_6 (by decide) (fun c6 => absurd c6 (nI_nlt (by omega) (by omega))) (fun c6 => ?_)
  refine j_iconst (pc := 9) h dX1_add_9 ic_m1 ?_
  refine j_iretr (pc := 10) h dX1_add_10 (rfl)
theorem k_X1_putIn {a : Nat} {y : Int32} (f1 : C 1 = some (oFo ad nf)) (f2 : C 2 = some (eI g 30 par)) (hn : nf ≤ 30) (ha : a < nf) : Cw l g yX1_putIn cX1_putIn 3 none 2 [.ref (ad 1), .int (nI a), .int y] ad C none (va_up C 2 (some (eI g 30 (upd par a y)))) := by
  refine Ct_of [some (.ref (ad 1)), some (.int (nI a)), some (.int y)] (by decide) rfl rfl (Nat.le_of_ble_eq_true rfl) rfl rfl (fun X hX h => ?_)
  subst hX
  refine j_aload0 (pc := 0) h dX1_putIn_0 ?_
  refine j_iload1 (pc := 1) h dX1_putIn_1 ?_
  refine j_callVr (pc := 2) h dX1_putIn_2 (k_X1_has f1 hn) mv_X1_26 (f1) rfl rfl (by decide) (Nat.le_of_ble_eq_true rfl) (Nat.le_of_ble_eq_true rfl) (Nat.le_of_ble_eq_true rfl) ?_
  refine j_if_eqB (pc := 5) (tgt := 15) h dX1_putIn_5 (by decide) (fun c5 => absurd c5 (by rw [inN_nI (by omega)]; simpa using ha)) (fun c5 => ?_)
  refine j_aload0 (pc := 8) h dX1_putIn_8 ?_
  refine j_getf (pc := 9) h dX1_putIn_9 (f1) fl_X1_9 rfl ?_
  refine j_iload1 (pc := 12) h dX1_putIn_12 ?_
  refine j_iload2 (pc := 13) h dX1_putIn_13 ?_
  refine j_iast (pc := 14) h dX1_putIn_14 (f2) (by omega) (by decide) ?_
  refine j_vret (pc := 15) h dX1_putIn_15 (⟨rfl, rfl, rfl⟩)
end FO

