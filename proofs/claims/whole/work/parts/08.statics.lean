theorem dJ9_floorDiv_7cf53_0 : decode cJ9_floorDiv_7cf53 0 = .ok (.iload_n 0, 1) := by decide +kernel
theorem dJ9_floorDiv_7cf53_1 : decode cJ9_floorDiv_7cf53 1 = .ok (.iload_n 1, 1) := by decide +kernel
theorem dJ9_floorDiv_7cf53_2 : decode cJ9_floorDiv_7cf53 2 = .ok (.idiv, 1) := by decide +kernel
theorem dJ9_floorDiv_7cf53_3 : decode cJ9_floorDiv_7cf53 3 = .ok (.istore_n 2, 1) := by decide +kernel
theorem dJ9_floorDiv_7cf53_4 : decode cJ9_floorDiv_7cf53 4 = .ok (.iload_n 0, 1) := by decide +kernel
theorem dJ9_floorDiv_7cf53_5 : decode cJ9_floorDiv_7cf53 5 = .ok (.iload_n 1, 1) := by decide +kernel
theorem dJ9_floorDiv_7cf53_6 : decode cJ9_floorDiv_7cf53 6 = .ok (.ixor, 1) := by decide +kernel
theorem dJ9_floorDiv_7cf53_7 : decode cJ9_floorDiv_7cf53 7 = .ok (.ifCond .ge 14, 3) := by decide +kernel
theorem dJ9_floorDiv_7cf53_10 : decode cJ9_floorDiv_7cf53 10 = .ok (.iload_n 2, 1) := by decide +kernel
theorem dJ9_floorDiv_7cf53_11 : decode cJ9_floorDiv_7cf53 11 = .ok (.iload_n 1, 1) := by decide +kernel
theorem dJ9_floorDiv_7cf53_12 : decode cJ9_floorDiv_7cf53 12 = .ok (.imul, 1) := by decide +kernel
theorem dJ9_floorDiv_7cf53_13 : decode cJ9_floorDiv_7cf53 13 = .ok (.iload_n 0, 1) := by decide +kernel
theorem dJ9_floorDiv_7cf53_14 : decode cJ9_floorDiv_7cf53 14 = .ok (.if_icmp .eq 7, 3) := by decide +kernel
theorem dJ9_floorDiv_7cf53_17 : decode cJ9_floorDiv_7cf53 17 = .ok (.iload_n 2, 1) := by decide +kernel
theorem dJ9_floorDiv_7cf53_18 : decode cJ9_floorDiv_7cf53 18 = .ok (.iconst 1, 1) := by decide +kernel
theorem dJ9_floorDiv_7cf53_19 : decode cJ9_floorDiv_7cf53 19 = .ok (.isub, 1) := by decide +kernel
theorem dJ9_floorDiv_7cf53_20 : decode cJ9_floorDiv_7cf53 20 = .ok (.ireturn, 1) := by decide +kernel
theorem dJ9_floorDiv_7cf53_21 : decode cJ9_floorDiv_7cf53 21 = .ok (.iload_n 2, 1) := by decide +kernel
theorem dJ9_floorDiv_7cf53_22 : decode cJ9_floorDiv_7cf53 22 = .ok (.ireturn, 1) := by decide +kernel
theorem dJ9_max_7cf53_0 : decode cJ9_max_7cf53 0 = .ok (.iload_n 0, 1) := by decide +kernel
theorem dJ9_max_7cf53_1 : decode cJ9_max_7cf53 1 = .ok (.iload_n 1, 1) := by decide +kernel
theorem dJ9_max_7cf53_2 : decode cJ9_max_7cf53 2 = .ok (.if_icmp .lt 7, 3) := by decide +kernel
theorem dJ9_max_7cf53_5 : decode cJ9_max_7cf53 5 = .ok (.iload_n 0, 1) := by decide +kernel
theorem dJ9_max_7cf53_6 : decode cJ9_max_7cf53 6 = .ok (.goto 4, 3) := by decide +kernel
theorem dJ9_max_7cf53_9 : decode cJ9_max_7cf53 9 = .ok (.iload_n 1, 1) := by decide +kernel
theorem dJ9_max_7cf53_10 : decode cJ9_max_7cf53 10 = .ok (.ireturn, 1) := by decide +kernel
theorem dJ9_min_7cf53_0 : decode cJ9_min_7cf53 0 = .ok (.iload_n 0, 1) := by decide +kernel
theorem dJ9_min_7cf53_1 : decode cJ9_min_7cf53 1 = .ok (.iload_n 1, 1) := by decide +kernel
theorem dJ9_min_7cf53_2 : decode cJ9_min_7cf53 2 = .ok (.if_icmp .gt 7, 3) := by decide +kernel
theorem dJ9_min_7cf53_5 : decode cJ9_min_7cf53 5 = .ok (.iload_n 0, 1) := by decide +kernel
theorem dJ9_min_7cf53_6 : decode cJ9_min_7cf53 6 = .ok (.goto 4, 3) := by decide +kernel
theorem dJ9_min_7cf53_9 : decode cJ9_min_7cf53 9 = .ok (.iload_n 1, 1) := by decide +kernel
theorem dJ9_min_7cf53_10 : decode cJ9_min_7cf53 10 = .ok (.ireturn, 1) := by decide +kernel
/-! Static methods without memory. -/
section ST
variable {l : Launch} {g : GG} {ad : AD} {C : CC}
theorem k_J9_max_7cf53 {x y : Int32} : Cr l g yJ9_max_7cf53 cJ9_max_7cf53 2 (some .int) 1 [.int x, .int y] ad C (.int (if x < y then y else x)) := by
  refine Ct_ofF [some (.int x), some (.int y)] (by decide +kernel) rfl rfl (Nat.le_of_ble_eq_true rfl) rfl rfl (fun X hX h => ?_)
  subst hX
  refine j_iload0 (pc := 0) h dJ9_max_7cf53_0 ?_
  refine j_iload1 (pc := 1) h dJ9_max_7cf53_1 ?_
  refine j_icmp_lt (pc := 2) (tgt := 9) h dJ9_max_7cf53_2 (by decide) (fun c2 => ?_) (fun c2 => ?_)
  · refine j_iload1 (pc := 9) h dJ9_max_7cf53_9 ?_
    refine j_iretr (pc := 10) h dJ9_max_7cf53_10 (by rw [if_pos c2])
  · refine j_iload0 (pc := 5) h dJ9_max_7cf53_5 ?_
    refine j_goto (pc := 6) (tgt := 10) h dJ9_max_7cf53_6 (by decide) ?_
    refine j_iretr (pc := 10) h dJ9_max_7cf53_10 (by rw [if_neg c2])
theorem k_J9_min_7cf53 {x y : Int32} : Cr l g yJ9_min_7cf53 cJ9_min_7cf53 2 (some .int) 1 [.int x, .int y] ad C (.int (if y < x then y else x)) := by
  refine Ct_ofF [some (.int x), some (.int y)] (by decide +kernel) rfl rfl (Nat.le_of_ble_eq_true rfl) rfl rfl (fun X hX h => ?_)
  subst hX
  refine j_iload0 (pc := 0) h dJ9_min_7cf53_0 ?_
  refine j_iload1 (pc := 1) h dJ9_min_7cf53_1 ?_
  refine j_icmp_gt (pc := 2) (tgt := 9) h dJ9_min_7cf53_2 (by decide) (fun c2 => ?_) (fun c2 => ?_)
  · refine j_iload1 (pc := 9) h dJ9_min_7cf53_9 ?_
    refine j_iretr (pc := 10) h dJ9_min_7cf53_10 (by rw [if_pos c2])
  · refine j_iload0 (pc := 5) h dJ9_min_7cf53_5 ?_
    refine j_goto (pc := 6) (tgt := 10) h dJ9_min_7cf53_6 (by decide) ?_
    refine j_iretr (pc := 10) h dJ9_min_7cf53_10 (by rw [if_neg c2])
theorem k_J9_floorDiv_7cf53 {x y : Int32} (hy : ¬ y = 0) : Cr l g yJ9_floorDiv_7cf53 cJ9_floorDiv_7cf53 3 (some .int) 1 [.int x, .int y] ad C (.int (fdv x y)) := by
  refine Ct_ofF [some (.int x), some (.int y), none] (by decide +kernel) rfl rfl (Nat.le_of_ble_eq_true rfl) rfl rfl (fun X hX h => ?_)
  subst hX
  refine j_iload0 (pc := 0) h dJ9_floorDiv_7cf53_0 ?_
  refine j_iload1 (pc := 1) h dJ9_floorDiv_7cf53_1 ?_
  refine j_idiv (pc := 2) h dJ9_floorDiv_7cf53_2 (hy) ?_
  refine j_istore2 (pc := 3) h dJ9_floorDiv_7cf53_3 rfl ?_
  refine j_iload0 (pc := 4) h dJ9_floorDiv_7cf53_4 ?_
  refine j_iload1 (pc := 5) h dJ9_floorDiv_7cf53_5 ?_
  refine j_ixor (pc := 6) h dJ9_floorDiv_7cf53_6 ?_
  refine j_if_ge (pc := 7) (tgt := 21) h dJ9_floorDiv_7cf53_7 (by decide) (fun c7 => ?_) (fun c7 => ?_)
  · refine j_iload2 (pc := 21) h dJ9_floorDiv_7cf53_21 ?_
    refine j_iretr (pc := 22) h dJ9_floorDiv_7cf53_22 (by rw [fdv, if_neg]; intro q; have h1 := Int32.lt_iff_toInt_lt.mp q.1; have h2 := Int32.le_iff_toInt_le.mp c7; omega)
  · refine j_iload2 (pc := 10) h dJ9_floorDiv_7cf53_10 ?_
    refine j_iload1 (pc := 11) h dJ9_floorDiv_7cf53_11 ?_
    refine j_imul (pc := 12) h dJ9_floorDiv_7cf53_12 ?_
    refine j_iload0 (pc := 13) h dJ9_floorDiv_7cf53_13 ?_
    refine j_icmp_eq (pc := 14) (tgt := 21) h dJ9_floorDiv_7cf53_14 (by decide) (fun c14 => ?_) (fun c14 => ?_)
    · refine j_iload2 (pc := 21) h dJ9_floorDiv_7cf53_21 ?_
      refine j_iretr (pc := 22) h dJ9_floorDiv_7cf53_22 (by rw [fdv, if_neg]; intro q; exact q.2 c14)
    · refine j_iload2 (pc := 17) h dJ9_floorDiv_7cf53_17 ?_
      refine j_iconst (pc := 18) h dJ9_floorDiv_7cf53_18 ic_1 ?_
      refine j_isub (pc := 19) h dJ9_floorDiv_7cf53_19 ?_
      refine j_iretr (pc := 20) h dJ9_floorDiv_7cf53_20 (by rw [fdv, if_pos]; refine ⟨?_, c14⟩; rw [Int32.lt_iff_toInt_lt]; rw [Int32.le_iff_toInt_le] at c7; omega)
theorem dX7_isPerson_0 : decode cX7_isPerson 0 = .ok (.iload_n 0, 1) := by decide +kernel
theorem dX7_isPerson_1 : decode cX7_isPerson 1 = .ok (.ifCond .lt 13, 3) := by decide +kernel
theorem dX7_isPerson_4 : decode cX7_isPerson 4 = .ok (.iload_n 0, 1) := by decide +kernel
theorem dX7_isPerson_5 : decode cX7_isPerson 5 = .ok (.bipush 6, 2) := by decide +kernel
theorem dX7_isPerson_7 : decode cX7_isPerson 7 = .ok (.if_icmp .ge 7, 3) := by decide +kernel
theorem dX7_isPerson_10 : decode cX7_isPerson 10 = .ok (.iconst 1, 1) := by decide +kernel
theorem dX7_isPerson_11 : decode cX7_isPerson 11 = .ok (.goto 4, 3) := by decide +kernel
theorem dX7_isPerson_14 : decode cX7_isPerson 14 = .ok (.iconst 0, 1) := by decide +kernel
theorem dX7_isPerson_15 : decode cX7_isPerson 15 = .ok (.ireturn, 1) := by decide +kernel
theorem k_X7_isPerson {x : Int32} : Cr l g yX7_isPerson cX7_isPerson 1 (some .boolean) 1 [.int x] ad C (.int (bI (inN x 6))) := by
  refine Ct_of [some (.int x)] (by decide) rfl rfl (Nat.le_of_ble_eq_true rfl) rfl rfl (fun X hX h => ?_)
  subst hX
  refine j_iload0 (pc := 0) h dX7_isPerson_0 ?_
  refine j_if_lt (pc := 1) (tgt := 14) h dX7_isPerson_1 (by decide) (fun c1 => ?_) (fun c1 => ?_)
  · refine j_iconst (pc := 14) h dX7_isPerson_14 ic_0 ?_
    refine j_zretr (pc := 15) h dX7_isPerson_15 (by decide) (bI_f (inN_no0 c1))
  · refine j_iload0 (pc := 4) h dX7_isPerson_4 ?_
    refine j_bipush (pc := 5) h dX7_isPerson_5 bp_6 ?_
    refine j_icmp_ge (pc := 7) (tgt := 14) h dX7_isPerson_7 (by decide) (fun c7 => ?_) (fun c7 => ?_)
    · refine j_iconst (pc := 14) h dX7_isPerson_14 ic_0 ?_
      refine j_zretr (pc := 15) h dX7_isPerson_15 (by decide) (bI_f (inN_noN (by decide) c7))
    · refine j_iconst (pc := 10) h dX7_isPerson_10 ic_1 ?_
      refine j_goto (pc := 11) (tgt := 15) h dX7_isPerson_11 (by decide) ?_
      refine j_zretr (pc := 15) h dX7_isPerson_15 (by decide) (bI_t (inN_yes (by decide) c1 c7))
end ST

