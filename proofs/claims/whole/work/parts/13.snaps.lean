theorem dX5_init_0 : decode cX5_init 0 = .ok (.aload_n 0, 1) := by decide +kernel
theorem dX5_init_1 : decode cX5_init 1 = .ok (.invokespecial 3, 3) := by decide +kernel
theorem dX5_init_4 : decode cX5_init 4 = .ok (.aload_n 0, 1) := by decide +kernel
theorem dX5_init_5 : decode cX5_init 5 = .ok (.bipush 8, 2) := by decide +kernel
theorem dX5_init_7 : decode cX5_init 7 = .ok (.newarray .boolean, 2) := by decide +kernel
theorem dX5_init_9 : decode cX5_init 9 = .ok (.putfield 9, 3) := by decide +kernel
theorem dX5_init_12 : decode cX5_init 12 = .ok (.aload_n 0, 1) := by decide +kernel
theorem dX5_init_13 : decode cX5_init 13 = .ok (.bipush 8, 2) := by decide +kernel
theorem dX5_init_15 : decode cX5_init 15 = .ok (.newarray .long, 2) := by decide +kernel
theorem dX5_init_17 : decode cX5_init 17 = .ok (.putfield 15, 3) := by decide +kernel
theorem dX5_init_20 : decode cX5_init 20 = .ok (.return_, 1) := by decide +kernel
theorem dX5_has_0 : decode cX5_has 0 = .ok (.iload_n 1, 1) := by decide +kernel
theorem dX5_has_1 : decode cX5_has 1 = .ok (.ifCond .lt 22, 3) := by decide +kernel
theorem dX5_has_4 : decode cX5_has 4 = .ok (.iload_n 1, 1) := by decide +kernel
theorem dX5_has_5 : decode cX5_has 5 = .ok (.bipush 8, 2) := by decide +kernel
theorem dX5_has_7 : decode cX5_has 7 = .ok (.if_icmp .ge 16, 3) := by decide +kernel
theorem dX5_has_10 : decode cX5_has 10 = .ok (.aload_n 0, 1) := by decide +kernel
theorem dX5_has_11 : decode cX5_has 11 = .ok (.getfield 9, 3) := by decide +kernel
theorem dX5_has_14 : decode cX5_has 14 = .ok (.iload_n 1, 1) := by decide +kernel
theorem dX5_has_15 : decode cX5_has 15 = .ok (.baload, 1) := by decide +kernel
theorem dX5_has_16 : decode cX5_has 16 = .ok (.ifCond .eq 7, 3) := by decide +kernel
theorem dX5_has_19 : decode cX5_has 19 = .ok (.iconst 1, 1) := by decide +kernel
theorem dX5_has_20 : decode cX5_has 20 = .ok (.goto 4, 3) := by decide +kernel
theorem dX5_has_23 : decode cX5_has 23 = .ok (.iconst 0, 1) := by decide +kernel
theorem dX5_has_24 : decode cX5_has 24 = .ok (.ireturn, 1) := by decide +kernel
theorem dX5_add_0 : decode cX5_add 0 = .ok (.iconst 0, 1) := by decide +kernel
theorem dX5_add_1 : decode cX5_add 1 = .ok (.istore_n 3, 1) := by decide +kernel
theorem dX5_add_2 : decode cX5_add 2 = .ok (.iload_n 3, 1) := by decide +kernel
theorem dX5_add_3 : decode cX5_add 3 = .ok (.bipush 8, 2) := by decide +kernel
theorem dX5_add_5 : decode cX5_add 5 = .ok (.if_icmp .ge 34, 3) := by decide +kernel
theorem dX5_add_8 : decode cX5_add 8 = .ok (.aload_n 0, 1) := by decide +kernel
theorem dX5_add_9 : decode cX5_add 9 = .ok (.getfield 9, 3) := by decide +kernel
theorem dX5_add_12 : decode cX5_add 12 = .ok (.iload_n 3, 1) := by decide +kernel
theorem dX5_add_13 : decode cX5_add 13 = .ok (.baload, 1) := by decide +kernel
theorem dX5_add_14 : decode cX5_add 14 = .ok (.ifCond .ne 19, 3) := by decide +kernel
theorem dX5_add_17 : decode cX5_add 17 = .ok (.aload_n 0, 1) := by decide +kernel
theorem dX5_add_18 : decode cX5_add 18 = .ok (.getfield 9, 3) := by decide +kernel
theorem dX5_add_21 : decode cX5_add 21 = .ok (.iload_n 3, 1) := by decide +kernel
theorem dX5_add_22 : decode cX5_add 22 = .ok (.iconst 1, 1) := by decide +kernel
theorem dX5_add_23 : decode cX5_add 23 = .ok (.bastore, 1) := by decide +kernel
theorem dX5_add_24 : decode cX5_add 24 = .ok (.aload_n 0, 1) := by decide +kernel
theorem dX5_add_25 : decode cX5_add 25 = .ok (.getfield 15, 3) := by decide +kernel
theorem dX5_add_28 : decode cX5_add 28 = .ok (.iload_n 3, 1) := by decide +kernel
theorem dX5_add_29 : decode cX5_add 29 = .ok (.lload_n 1, 1) := by decide +kernel
theorem dX5_add_30 : decode cX5_add 30 = .ok (.lastore, 1) := by decide +kernel
theorem dX5_add_31 : decode cX5_add 31 = .ok (.iload_n 3, 1) := by decide +kernel
theorem dX5_add_32 : decode cX5_add 32 = .ok (.ireturn, 1) := by decide +kernel
theorem dX5_add_33 : decode cX5_add 33 = .ok (.iinc 3 1, 3) := by decide +kernel
theorem dX5_add_36 : decode cX5_add 36 = .ok (.goto (-34), 3) := by decide +kernel
theorem dX5_add_39 : decode cX5_add 39 = .ok (.iconst (-1), 1) := by decide +kernel
theorem dX5_add_40 : decode cX5_add 40 = .ok (.ireturn, 1) := by decide +kernel
theorem dX5_remove_0 : decode cX5_remove 0 = .ok (.aload_n 0, 1) := by decide +kernel
theorem dX5_remove_1 : decode cX5_remove 1 = .ok (.iload_n 1, 1) := by decide +kernel
theorem dX5_remove_2 : decode cX5_remove 2 = .ok (.invokevirtual 19, 3) := by decide +kernel
theorem dX5_remove_5 : decode cX5_remove 5 = .ok (.ifCond .eq 10, 3) := by decide +kernel
theorem dX5_remove_8 : decode cX5_remove 8 = .ok (.aload_n 0, 1) := by decide +kernel
theorem dX5_remove_9 : decode cX5_remove 9 = .ok (.getfield 9, 3) := by decide +kernel
theorem dX5_remove_12 : decode cX5_remove 12 = .ok (.iload_n 1, 1) := by decide +kernel
theorem dX5_remove_13 : decode cX5_remove 13 = .ok (.iconst 0, 1) := by decide +kernel
theorem dX5_remove_14 : decode cX5_remove 14 = .ok (.bastore, 1) := by decide +kernel
theorem dX5_remove_15 : decode cX5_remove 15 = .ok (.return_, 1) := by decide +kernel
theorem dX5_countThere_0 : decode cX5_countThere 0 = .ok (.iconst 0, 1) := by decide +kernel
theorem dX5_countThere_1 : decode cX5_countThere 1 = .ok (.istore_n 1, 1) := by decide +kernel
theorem dX5_countThere_2 : decode cX5_countThere 2 = .ok (.iconst 0, 1) := by decide +kernel
theorem dX5_countThere_3 : decode cX5_countThere 3 = .ok (.istore_n 2, 1) := by decide +kernel
theorem dX5_countThere_4 : decode cX5_countThere 4 = .ok (.iload_n 2, 1) := by decide +kernel
theorem dX5_countThere_5 : decode cX5_countThere 5 = .ok (.bipush 8, 2) := by decide +kernel
theorem dX5_countThere_7 : decode cX5_countThere 7 = .ok (.if_icmp .ge 21, 3) := by decide +kernel
theorem dX5_countThere_10 : decode cX5_countThere 10 = .ok (.aload_n 0, 1) := by decide +kernel
theorem dX5_countThere_11 : decode cX5_countThere 11 = .ok (.getfield 9, 3) := by decide +kernel
theorem dX5_countThere_14 : decode cX5_countThere 14 = .ok (.iload_n 2, 1) := by decide +kernel
theorem dX5_countThere_15 : decode cX5_countThere 15 = .ok (.baload, 1) := by decide +kernel
theorem dX5_countThere_16 : decode cX5_countThere 16 = .ok (.ifCond .eq 6, 3) := by decide +kernel
theorem dX5_countThere_19 : decode cX5_countThere 19 = .ok (.iinc 1 1, 3) := by decide +kernel
theorem dX5_countThere_22 : decode cX5_countThere 22 = .ok (.iinc 2 1, 3) := by decide +kernel
theorem dX5_countThere_25 : decode cX5_countThere 25 = .ok (.goto (-21), 3) := by decide +kernel
theorem dX5_countThere_28 : decode cX5_countThere 28 = .ok (.iload_n 1, 1) := by decide +kernel
theorem dX5_countThere_29 : decode cX5_countThere 29 = .ok (.ireturn, 1) := by decide +kernel
theorem dX5_heldBy_0 : decode cX5_heldBy 0 = .ok (.aload_n 0, 1) := by decide +kernel
theorem dX5_heldBy_1 : decode cX5_heldBy 1 = .ok (.iload_n 1, 1) := by decide +kernel
theorem dX5_heldBy_2 : decode cX5_heldBy 2 = .ok (.invokevirtual 19, 3) := by decide +kernel
theorem dX5_heldBy_5 : decode cX5_heldBy 5 = .ok (.ifCond .eq 12, 3) := by decide +kernel
theorem dX5_heldBy_8 : decode cX5_heldBy 8 = .ok (.aload_n 0, 1) := by decide +kernel
theorem dX5_heldBy_9 : decode cX5_heldBy 9 = .ok (.getfield 15, 3) := by decide +kernel
theorem dX5_heldBy_12 : decode cX5_heldBy 12 = .ok (.iload_n 1, 1) := by decide +kernel
theorem dX5_heldBy_13 : decode cX5_heldBy 13 = .ok (.laload, 1) := by decide +kernel
theorem dX5_heldBy_14 : decode cX5_heldBy 14 = .ok (.goto 4, 3) := by decide +kernel
theorem dX5_heldBy_17 : decode cX5_heldBy 17 = .ok (.lconst 0, 1) := by decide +kernel
theorem dX5_heldBy_18 : decode cX5_heldBy 18 = .ok (.lreturn, 1) := by decide +kernel
theorem dX5_heldBesides_0 : decode cX5_heldBesides 0 = .ok (.lconst 0, 1) := by decide +kernel
theorem dX5_heldBesides_1 : decode cX5_heldBesides 1 = .ok (.lstore_n 2, 1) := by decide +kernel
theorem dX5_heldBesides_2 : decode cX5_heldBesides 2 = .ok (.iconst 0, 1) := by decide +kernel
theorem dX5_heldBesides_3 : decode cX5_heldBesides 3 = .ok (.istore 4, 2) := by decide +kernel
theorem dX5_heldBesides_5 : decode cX5_heldBesides 5 = .ok (.iload 4, 2) := by decide +kernel
theorem dX5_heldBesides_7 : decode cX5_heldBesides 7 = .ok (.bipush 8, 2) := by decide +kernel
theorem dX5_heldBesides_9 : decode cX5_heldBesides 9 = .ok (.if_icmp .ge 24, 3) := by decide +kernel
theorem dX5_heldBesides_12 : decode cX5_heldBesides 12 = .ok (.iload 4, 2) := by decide +kernel
theorem dX5_heldBesides_14 : decode cX5_heldBesides 14 = .ok (.iload_n 1, 1) := by decide +kernel
theorem dX5_heldBesides_15 : decode cX5_heldBesides 15 = .ok (.if_icmp .eq 12, 3) := by decide +kernel
theorem dX5_heldBesides_18 : decode cX5_heldBesides 18 = .ok (.lload_n 2, 1) := by decide +kernel
theorem dX5_heldBesides_19 : decode cX5_heldBesides 19 = .ok (.aload_n 0, 1) := by decide +kernel
theorem dX5_heldBesides_20 : decode cX5_heldBesides 20 = .ok (.iload 4, 2) := by decide +kernel
theorem dX5_heldBesides_22 : decode cX5_heldBesides 22 = .ok (.invokevirtual 23, 3) := by decide +kernel
theorem dX5_heldBesides_25 : decode cX5_heldBesides 25 = .ok (.lor, 1) := by decide +kernel
theorem dX5_heldBesides_26 : decode cX5_heldBesides 26 = .ok (.lstore_n 2, 1) := by decide +kernel
theorem dX5_heldBesides_27 : decode cX5_heldBesides 27 = .ok (.iinc 4 1, 3) := by decide +kernel
theorem dX5_heldBesides_30 : decode cX5_heldBesides 30 = .ok (.goto (-25), 3) := by decide +kernel
theorem dX5_heldBesides_33 : decode cX5_heldBesides 33 = .ok (.lload_n 2, 1) := by decide +kernel
theorem dX5_heldBesides_34 : decode cX5_heldBesides 34 = .ok (.lreturn, 1) := by decide +kernel
/-! Snapshots -/
def oSn (ad : AD) : va_E := eC 5 [.ref (ad 11), .ref (ad 12)]
section SN
variable {l : Launch} {g : GG} {ad : AD} {C : CC} {sb : Nat → Bool} {sh : Nat → Int64}
theorem bI_n0 {b : Bool} (h : ¬ bI b = 0) : b = true := by cases b with | true => rfl | false => exact absurd rfl h
theorem nI_lt' {a b : Nat} (h : ¬ nI b ≤ nI a) (ha : a < 2 ^ 31) : a < b := by
  rcases Nat.lt_or_ge a b with q | q
  · exact q
  · exact absurd (nI_le q ha) h
theorem k_X5_has_no {x : Int32} (f10 : C 10 = some (oSn ad)) (hx : inN x 8 = false) : Cr l g yX5_has cX5_has 2 (some .boolean) 1 [.ref (ad 10), .int x] ad C (.int (bI false)) := by
  refine Ct_of [some (.ref (ad 10)), some (.int x)] (by decide) rfl rfl (Nat.le_of_ble_eq_true rfl) rfl rfl (fun X hX h => ?_)
  subst hX
  refine j_iload1 (pc := 0) h dX5_has_0 ?_
  refine j_if_lt (pc := 1) (tgt := 23) h dX5_has_1 (by decide) (fun c1 => ?_) (fun c1 => ?_)
  · refine j_iconst (pc := 23) h dX5_has_23 ic_0 ?_
    refine j_zretr (pc := 24) h dX5_has_24 (by decide) (rfl)
  · refine j_iload1 (pc := 4) h dX5_has_4 ?_
    refine j_bipush (pc := 5) h dX5_has_5 bp_8 ?_
    refine j_icmp_ge (pc := 7) (tgt := 23) h dX5_has_7 (by decide) (fun c7 => ?_) (fun c7 => ?_)
    · refine j_iconst (pc := 23) h dX5_has_23 ic_0 ?_
      refine j_zretr (pc := 24) h dX5_has_24 (by decide) (rfl)
    · exact absurd (inN_yes (by decide) c1 c7) (by rw [hx]; decide)
theorem k_X5_has {i : Nat} (f10 : C 10 = some (oSn ad)) (f11 : C 11 = some (eZ g 8 (bF sb))) (hi : i < 8) : Cr l g yX5_has cX5_has 2 (some .boolean) 1 [.ref (ad 10), .int (nI i)] ad C (.int (bI (sb i))) := by
  refine Ct_of [some (.ref (ad 10)), some (.int (nI i))] (by decide) rfl rfl (Nat.le_of_ble_eq_true rfl) rfl rfl (fun X hX h => ?_)
  subst hX
  refine j_iload1 (pc := 0) h dX5_has_0 ?_
  refine j_if_lt (pc := 1) (tgt := 23) h dX5_has_1 (by decide) (fun c1 => absurd c1 (nI_pos (by omega))) (fun c1 => ?_)
  refine j_iload1 (pc := 4) h dX5_has_4 ?_
  refine j_bipush (pc := 5) h dX5_has_5 bp_8 ?_
  refine j_icmp_ge (pc := 7) (tgt := 23) h dX5_has_7 (by decide) (fun c7 => absurd c7 (nI_ge (by omega) (by omega))) (fun c7 => ?_)
  refine j_aload0 (pc := 10) h dX5_has_10 ?_
  refine j_getf (pc := 11) h dX5_has_11 (f10) fl_X5_9 rfl ?_
  refine j_iload1 (pc := 14) h dX5_has_14 ?_
  refine j_zald (pc := 15) h dX5_has_15 (f11) (by omega) (by decide) ?_
  refine j_if_eq (pc := 16) (tgt := 23) h dX5_has_16 (by decide) (fun c16 => ?_) (fun c16 => ?_)
  · refine j_iconst (pc := 23) h dX5_has_23 ic_0 ?_
    refine j_zretr (pc := 24) h dX5_has_24 (by decide) (bI_f (bI_0.mp c16))
  · refine j_iconst (pc := 19) h dX5_has_19 ic_1 ?_
    refine j_goto (pc := 20) (tgt := 24) h dX5_has_20 (by decide) ?_
    refine j_zretr (pc := 24) h dX5_has_24 (by decide) (bI_t (bI_n0 c16))
theorem k_X5_heldBy_no {x : Int32} (f10 : C 10 = some (oSn ad)) (hx : inN x 8 = false) : Cr l g yX5_heldBy cX5_heldBy 2 (some .long) 2 [.ref (ad 10), .int x] ad C (.long 0) := by
  refine Ct_of [some (.ref (ad 10)), some (.int x)] (by decide) rfl rfl (Nat.le_of_ble_eq_true rfl) rfl rfl (fun X hX h => ?_)
  subst hX
  refine j_aload0 (pc := 0) h dX5_heldBy_0 ?_
  refine j_iload1 (pc := 1) h dX5_heldBy_1 ?_
  refine j_callVr (pc := 2) h dX5_heldBy_2 (k_X5_has_no f10 hx) mv_X5_19 (f10) rfl rfl (by decide) (Nat.le_of_ble_eq_true rfl) (Nat.le_of_ble_eq_true rfl) (Nat.le_of_ble_eq_true rfl) ?_
  refine j_if_eqB (pc := 5) (tgt := 17) h dX5_heldBy_5 (by decide) (fun c5 => ?_) (fun c5 => absurd c5 (by decide))
  refine j_lconst (pc := 17) h dX5_heldBy_17 lc_0 ?_
  refine j_lretr (pc := 18) h dX5_heldBy_18 (rfl)
theorem k_X5_heldBy {i : Nat} (f10 : C 10 = some (oSn ad)) (f11 : C 11 = some (eZ g 8 (bF sb))) (f12 : C 12 = some (eJ g 8 sh)) (hi : i < 8) : Cr l g yX5_heldBy cX5_heldBy 2 (some .long) 2 [.ref (ad 10), .int (nI i)] ad C (.long (if sb i = true then sh i else 0)) := by
  refine Ct_of [some (.ref (ad 10)), some (.int (nI i))] (by decide) rfl rfl (Nat.le_of_ble_eq_true rfl) rfl rfl (fun X hX h => ?_)
  subst hX
  refine j_aload0 (pc := 0) h dX5_heldBy_0 ?_
  refine j_iload1 (pc := 1) h dX5_heldBy_1 ?_
  refine j_callVr (pc := 2) h dX5_heldBy_2 (k_X5_has f10 f11 hi) mv_X5_19 (f10) rfl rfl (by decide) (Nat.le_of_ble_eq_true rfl) (Nat.le_of_ble_eq_true rfl) (Nat.le_of_ble_eq_true rfl) ?_
  refine j_if_eqB (pc := 5) (tgt := 17) h dX5_heldBy_5 (by decide) (fun c5 => ?_) (fun c5 => ?_)
  · refine j_lconst (pc := 17) h dX5_heldBy_17 lc_0 ?_
    refine j_lretr (pc := 18) h dX5_heldBy_18 (by rw [if_neg (by rw [c5]; decide)])
  · refine j_aload0 (pc := 8) h dX5_heldBy_8 ?_
    refine j_getf (pc := 9) h dX5_heldBy_9 (f10) fl_X5_15 rfl ?_
    refine j_iload1 (pc := 12) h dX5_heldBy_12 ?_
    refine j_lald (pc := 13) h dX5_heldBy_13 (f12) (by omega) (by decide) ?_
    refine j_goto (pc := 14) (tgt := 18) h dX5_heldBy_14 (by decide) ?_
    refine j_lretr (pc := 18) h dX5_heldBy_18 (by rw [if_pos c5])
/-- what all snapshots but x hold -/
def shF (sb : Nat → Bool) (sh : Nat → Int64) (x : Int32) : Nat → Int64 := fun i => if sb i = true ∧ ¬ nI i = x then sh i else 0
theorem k_X5_heldBesides {x : Int32} (f10 : C 10 = some (oSn ad)) (f11 : C 11 = some (eZ g 8 (bF sb))) (f12 : C 12 = some (eJ g 8 sh)) : Cr l g yX5_heldBesides cX5_heldBesides 5 (some .long) 3 [.ref (ad 10), .int x] ad C (.long (orr (shF sb sh x) 8)) := by
  refine Ct_of [some (.ref (ad 10)), some (.int x), none, none, none] (by decide) rfl rfl (Nat.le_of_ble_eq_true rfl) rfl rfl (fun X hX h => ?_)
  subst hX
  have lp : ∀ m i, i + m = 8 → J X g 5 (QR X g ad C (.long (orr (shF sb sh x) 8))) 0 0 ad C 5 [some (.ref (ad 10)), some (.int x), some (.long (orr (shF sb sh x) i)), none, some (.int (nI i))] [] := by
    intro m
    induction m with
    | zero =>
      intro i hi
      refine j_iload4 (pc := 5) h dX5_heldBesides_5 ?_
      refine j_bipush (pc := 7) h dX5_heldBesides_7 bp_8 ?_
      refine j_icmp_ge (pc := 9) (tgt := 33) h dX5_heldBesides_9 (by decide) (fun c9 => ?_) (fun c9 => absurd (nI_le (by omega) (by omega)) c9)
      refine j_lload2 (pc := 33) h dX5_heldBesides_33 ?_
      refine j_lretr (pc := 34) h dX5_heldBesides_34 (by rw [show i = 8 by omega])
    | succ m ih =>
      intro i hi
      refine j_iload4 (pc := 5) h dX5_heldBesides_5 ?_
      refine j_bipush (pc := 7) h dX5_heldBesides_7 bp_8 ?_
      refine j_icmp_ge (pc := 9) (tgt := 33) h dX5_heldBesides_9 (by decide) (fun c9 => absurd c9 (nI_ge (by omega) (by omega))) (fun c9 => ?_)
      refine j_iload4 (pc := 12) h dX5_heldBesides_12 ?_
      refine j_iload1 (pc := 14) h dX5_heldBesides_14 ?_
      refine j_icmp_eq (pc := 15) (tgt := 27) h dX5_heldBesides_15 (by decide) (fun c15 => ?_) (fun c15 => ?_)
      · refine j_iinc4 (pc := 27) h dX5_heldBesides_27 rfl (inc_n _) ?_
        refine j_goto (pc := 30) (tgt := 5) h dX5_heldBesides_30 (by decide) ?_
        rw [show orr (shF sb sh x) i = orr (shF sb sh x) (i + 1) from orr_no (by simp [shF, c15])]
        exact ih (i + 1) (by omega)
      · refine j_lload2 (pc := 18) h dX5_heldBesides_18 ?_
        refine j_aload0 (pc := 19) h dX5_heldBesides_19 ?_
        refine j_iload4 (pc := 20) h dX5_heldBesides_20 ?_
        refine j_callVr (pc := 22) h dX5_heldBesides_22 (k_X5_heldBy f10 f11 f12 (by omega)) mv_X5_23 (f10) rfl rfl (by decide) (Nat.le_of_ble_eq_true rfl) (Nat.le_of_ble_eq_true rfl) (Nat.le_of_ble_eq_true rfl) ?_
        refine j_lor (pc := 25) h dX5_heldBesides_25 ?_
        refine j_lstore2 (pc := 26) h dX5_heldBesides_26 rfl ?_
        refine j_iinc4 (pc := 27) h dX5_heldBesides_27 rfl (inc_n _) ?_
        refine j_goto (pc := 30) (tgt := 5) h dX5_heldBesides_30 (by decide) ?_
        rw [show orr (shF sb sh x) i ||| (if sb i = true then sh i else 0) = orr (shF sb sh x) (i + 1) from by rw [orr, shF]; simp [c15]]
        exact ih (i + 1) (by omega)
  refine j_lconst (pc := 0) h dX5_heldBesides_0 lc_0 ?_
  refine j_lstore2 (pc := 1) h dX5_heldBesides_1 rfl ?_
  refine j_iconst (pc := 2) h dX5_heldBesides_2 ic_0 ?_
  refine j_istore4 (pc := 3) h dX5_heldBesides_3 rfl ?_
  exact lp 8 0 (by omega)
theorem k_X5_countThere (f10 : C 10 = some (oSn ad)) (f11 : C 11 = some (eZ g 8 (bF sb))) : Cr l g yX5_countThere cX5_countThere 3 (some .int) 1 [.ref (ad 10)] ad C (.int (nI (cnt sb 8))) := by
  refine Ct_of [some (.ref (ad 10)), none, none] (by decide) rfl rfl (Nat.le_of_ble_eq_true rfl) rfl rfl (fun X hX h => ?_)
  subst hX
  have lp : ∀ m i, i + m = 8 → J X g 3 (QR X g ad C (.int (nI (cnt sb 8)))) 0 0 ad C 4 [some (.ref (ad 10)), some (.int (nI (cnt sb i))), some (.int (nI i))] [] := by
    intro m
    induction m with
    | zero =>
      intro i hi
      refine j_iload2 (pc := 4) h dX5_countThere_4 ?_
      refine j_bipush (pc := 5) h dX5_countThere_5 bp_8 ?_
      refine j_icmp_ge (pc := 7) (tgt := 28) h dX5_countThere_7 (by decide) (fun c7 => ?_) (fun c7 => absurd (nI_le (by omega) (by omega)) c7)
      refine j_iload1 (pc := 28) h dX5_countThere_28 ?_
      refine j_iretr (pc := 29) h dX5_countThere_29 (by rw [show i = 8 by omega])
    | succ m ih =>
      intro i hi
      refine j_iload2 (pc := 4) h dX5_countThere_4 ?_
      refine j_bipush (pc := 5) h dX5_countThere_5 bp_8 ?_
      refine j_icmp_ge (pc := 7) (tgt := 28) h dX5_countThere_7 (by decide) (fun c7 => absurd c7 (nI_ge (by omega) (by omega))) (fun c7 => ?_)
      refine j_aload0 (pc := 10) h dX5_countThere_10 ?_
      refine j_getf (pc := 11) h dX5_countThere_11 (f10) fl_X5_9 rfl ?_
      refine j_iload2 (pc := 14) h dX5_countThere_14 ?_
      refine j_zald (pc := 15) h dX5_countThere_15 (f11) (by omega) (by decide) ?_
      refine j_if_eq (pc := 16) (tgt := 22) h dX5_countThere_16 (by decide) (fun c16 => ?_) (fun c16 => ?_)
      · refine j_iinc2 (pc := 22) h dX5_countThere_22 rfl (inc_n _) ?_
        refine j_goto (pc := 25) (tgt := 4) h dX5_countThere_25 (by decide) ?_
        rw [show cnt sb i = cnt sb (i + 1) from (cnt_f (bI_0.mp c16)).symm]
        exact ih (i + 1) (by omega)
      · refine j_iinc1 (pc := 19) h dX5_countThere_19 rfl (inc_n _) ?_
        refine j_iinc2 (pc := 22) h dX5_countThere_22 rfl (inc_n _) ?_
        refine j_goto (pc := 25) (tgt := 4) h dX5_countThere_25 (by decide) ?_
        rw [show cnt sb i + 1 = cnt sb (i + 1) from (cnt_t (bI_n0 c16)).symm]
        exact ih (i + 1) (by omega)
  refine j_iconst (pc := 0) h dX5_countThere_0 ic_0 ?_
  refine j_istore1 (pc := 1) h dX5_countThere_1 rfl ?_
  refine j_iconst (pc := 2) h dX5_countThere_2 ic_0 ?_
  refine j_istore2 (pc := 3) h dX5_countThere_3 rfl ?_
  exact lp 8 0 (by omega)
theorem k_X5_remove {i : Nat} (f10 : C 10 = some (oSn ad)) (f11 : C 11 = some (eZ g 8 (bF sb))) (hi : i < 8) (hb : sb i = true) : Cw l g yX5_remove cX5_remove 2 none 2 [.ref (ad 10), .int (nI i)] ad C none (va_up C 11 (some (eZ g 8 (upd (bF sb) i (nI 0))))) := by
  refine Ct_of [some (.ref (ad 10)), some (.int (nI i))] (by decide) rfl rfl (Nat.le_of_ble_eq_true rfl) rfl rfl (fun X hX h => ?_)
  subst hX
  refine j_aload0 (pc := 0) h dX5_remove_0 ?_
  refine j_iload1 (pc := 1) h dX5_remove_1 ?_
  refine j_callVr (pc := 2) h dX5_remove_2 (k_X5_has f10 f11 hi) mv_X5_19 (f10) rfl rfl (by decide) (Nat.le_of_ble_eq_true rfl) (Nat.le_of_ble_eq_true rfl) (Nat.le_of_ble_eq_true rfl) ?_
  refine j_if_eqB (pc := 5) (tgt := 15) h dX5_remove_5 (by decide) (fun c5 => absurd c5 (by rw [hb]; decide)) (fun c5 => ?_)
  refine j_aload0 (pc := 8) h dX5_remove_8 ?_
  refine j_getf (pc := 9) h dX5_remove_9 (f10) fl_X5_9 rfl ?_
  refine j_iload1 (pc := 12) h dX5_remove_12 ?_
  refine j_iconst (pc := 13) h dX5_remove_13 ic_0 ?_
  refine j_zast (pc := 14) h dX5_remove_14 (f11) (by omega) (by decide) (nar_0) ?_
  refine j_vret (pc := 15) h dX5_remove_15 (⟨rfl, rfl, rfl⟩)
theorem k_X5_remove_f {i : Nat} (f10 : C 10 = some (oSn ad)) (f11 : C 11 = some (eZ g 8 (bF sb))) (hi : i < 8) (hb : sb i = false) : Cw l g yX5_remove cX5_remove 2 none 2 [.ref (ad 10), .int (nI i)] ad C none C := by
  refine Ct_of [some (.ref (ad 10)), some (.int (nI i))] (by decide) rfl rfl (Nat.le_of_ble_eq_true rfl) rfl rfl (fun X hX h => ?_)
  subst hX
  refine j_aload0 (pc := 0) h dX5_remove_0 ?_
  refine j_iload1 (pc := 1) h dX5_remove_1 ?_
  refine j_callVr (pc := 2) h dX5_remove_2 (k_X5_has f10 f11 hi) mv_X5_19 (f10) rfl rfl (by decide) (Nat.le_of_ble_eq_true rfl) (Nat.le_of_ble_eq_true rfl) (Nat.le_of_ble_eq_true rfl) ?_
  refine j_if_eqB (pc := 5) (tgt := 15) h dX5_remove_5 (by decide) (fun c5 => ?_) (fun c5 => absurd c5 (by rw [hb]; decide))
  refine j_vret (pc := 15) h dX5_remove_15 (⟨rfl, rfl, rfl⟩)
theorem k_X5_remove_no {x : Int32} (f10 : C 10 = some (oSn ad)) (hx : inN x 8 = false) : Cw l g yX5_remove cX5_remove 2 none 2 [.ref (ad 10), .int x] ad C none C := by
  refine Ct_of [some (.ref (ad 10)), some (.int x)] (by decide) rfl rfl (Nat.le_of_ble_eq_true rfl) rfl rfl (fun X hX h => ?_)
  subst hX
  refine j_aload0 (pc := 0) h dX5_remove_0 ?_
  refine j_iload1 (pc := 1) h dX5_remove_1 ?_
  refine j_callVr (pc := 2) h dX5_remove_2 (k_X5_has_no f10 hx) mv_X5_19 (f10) rfl rfl (by decide) (Nat.le_of_ble_eq_true rfl) (Nat.le_of_ble_eq_true rfl) (Nat.le_of_ble_eq_true rfl) ?_
  refine j_if_eqB (pc := 5) (tgt := 15) h dX5_remove_5 (by decide) (fun c5 => ?_) (fun c5 => absurd c5 (by decide))
  refine j_vret (pc := 15) h dX5_remove_15 (⟨rfl, rfl, rfl⟩)
/-- the first that is free: i of 8 -/
theorem k_X5_add {a : Nat} {v : Int64} (f10 : C 10 = some (oSn ad)) (f11 : C 11 = some (eZ g 8 (bF sb))) (f12 : C 12 = some (eJ g 8 sh)) (ha : a < 8) (hb : sb a = false) (hlo : ∀ i, i < a → sb i = true) : Cw l g yX5_add cX5_add 4 (some .int) 1 [.ref (ad 10), .long v] ad C (some (.int (nI a))) (va_up (va_up C 11 (some (eZ g 8 (upd (bF sb) a (nI 1))))) 12 (some (eJ g 8 (vp_updL sh a v)))) := by
  refine Ct_of [some (.ref (ad 10)), some (.long v), none, none] (by decide) rfl rfl (Nat.le_of_ble_eq_true rfl) rfl rfl (fun X hX h => ?_)
  subst hX
  have lp : ∀ m i, i + m = a → J X g 4 (QW X g (some (.int (nI a))) ad (va_up (va_up C 11 (some (eZ g 8 (upd (bF sb) a (nI 1))))) 12 (some (eJ g 8 (vp_updL sh a v))))) 0 0 ad C 2 [some (.ref (ad 10)), some (.long v), none, some (.int (nI i))] [] := by
    intro m
    induction m with
    | zero =>
      intro i hi
      obtain rfl : i = a := by omega
      refine j_iload3 (pc := 2) h dX5_add_2 ?_
      refine j_bipush (pc := 3) h dX5_add_3 bp_8 ?_
      refine j_icmp_ge (pc := 5) (tgt := 39) h dX5_add_5 (by decide) (fun c5 => absurd c5 (nI_ge (by omega) (by omega))) (fun c5 => ?_)
      refine j_aload0 (pc := 8) h dX5_add_8 ?_
      refine j_getf (pc := 9) h dX5_add_9 (f10) fl_X5_9 rfl ?_
      refine j_iload3 (pc := 12) h dX5_add_12 ?_
      refine j_zald (pc := 13) h dX5_add_13 (f11) (by omega) (by decide) ?_
      refine j_if_ne (pc := 14) (tgt := 33) h dX5_add_14 (by decide) (fun c14 => absurd (by show bI (sb i) = 0; rw [hb]; rfl) c14) (fun c14 => ?_)
      refine j_aload0 (pc := 17) h dX5_add_17 ?_
      refine j_getf (pc := 18) h dX5_add_18 (f10) fl_X5_9 rfl ?_
      refine j_iload3 (pc := 21) h dX5_add_21 ?_
      refine j_iconst (pc := 22) h dX5_add_22 ic_1 ?_
      refine j_zast (pc := 23) h dX5_add_23 (f11) (by omega) (by decide) (nar_1) ?_
      refine j_aload0 (pc := 24) h dX5_add_24 ?_
      refine j_getf (pc := 25) h dX5_add_25 (f10) fl_X5_15 rfl ?_
      refine j_iload3 (pc := 28) h dX5_add_28 ?_
      refine j_lload1 (pc := 29) h dX5_add_29 ?_
      refine j_last (pc := 30) h dX5_add_30 (f12) (by omega) (by decide) ?_
      refine j_iload3 (pc := 31) h dX5_add_31 ?_
      refine j_iret (pc := 32) h dX5_add_32 (⟨rfl, rfl, rfl⟩)
    | succ m ih =>
      intro i hi
      refine j_iload3 (pc := 2) h dX5_add_2 ?_
      refine j_bipush (pc := 3) h dX5_add_3 bp_8 ?_
      refine j_icmp_ge (pc := 5) (tgt := 39) h dX5_add_5 (by decide) (fun c5 => absurd c5 (nI_ge (by omega) (by omega))) (fun c5 => ?_)
      refine j_aload0 (pc := 8) h dX5_add_8 ?_
      refine j_getf (pc := 9) h dX5_add_9 (f10) fl_X5_9 rfl ?_
      refine j_iload3 (pc := 12) h dX5_add_12 ?_
      refine j_zald (pc := 13) h dX5_add_13 (f11) (by omega) (by decide) ?_
      refine j_if_ne (pc := 14) (tgt := 33) h dX5_add_14 (by decide) (fun c14 => ?_) (fun c14 => absurd c14 (by show ¬ bI (sb i) = 0; rw [hlo i (by omega)]; decide))
      refine j_iinc3 (pc := 33) h dX5_add_33 rfl (inc_n _) ?_
      refine j_goto (pc := 36) (tgt := 2) h dX5_add_36 (by decide) ?_
      exact ih (i + 1) (by omega)
  refine j_iconst (pc := 0) h dX5_add_0 ic_0 ?_
  refine j_istore3 (pc := 1) h dX5_add_1 rfl ?_
  exact lp a 0 (by omega)
theorem k_X5_add_no {v : Int64} (f10 : C 10 = some (oSn ad)) (f11 : C 11 = some (eZ g 8 (bF sb))) (hlo : ∀ i, i < 8 → sb i = true) : Cr l g yX5_add cX5_add 4 (some .int) 1 [.ref (ad 10), .long v] ad C (.int (-1)) := by
  refine Ct_of [some (.ref (ad 10)), some (.long v), none, none] (by decide) rfl rfl (Nat.le_of_ble_eq_true rfl) rfl rfl (fun X hX h => ?_)
  subst hX
  have lp : ∀ m i, i + m = 8 → J X g 4 (QR X g ad C (.int (-1))) 0 0 ad C 2 [some (.ref (ad 10)), some (.long v), none, some (.int (nI i))] [] := by
    intro m
    induction m with
    | zero =>
      intro i hi
      refine j_iload3 (pc := 2) h dX5_add_2 ?_
      refine j_bipush (pc := 3) h dX5_add_3 bp_8 ?_
      refine j_icmp_ge (pc := 5) (tgt := 39) h dX5_add_5 (by decide) (fun c5 => ?_) (fun c5 => absurd (nI_le (by omega) (by omega)) c5)
      refine j_iconst (pc := 39) h dX5_add_39 ic_m1 ?_
      refine j_iretr (pc := 40) h dX5_add_40 (rfl)
    | succ m ih =>
      intro i hi
      refine j_iload3 (pc := 2) h dX5_add_2 ?_
      refine j_bipush (pc := 3) h dX5_add_3 bp_8 ?_
      refine j_icmp_ge (pc := 5) (tgt := 39) h dX5_add_5 (by decide) (fun c5 => absurd c5 (nI_ge (by omega) (by omega))) (fun c5 => ?_)
      refine j_aload0 (pc := 8) h dX5_add_8 ?_
      refine j_getf (pc := 9) h dX5_add_9 (f10) fl_X5_9 rfl ?_
      refine j_iload3 (pc := 12) h dX5_add_12 ?_
      refine j_zald (pc := 13) h dX5_add_13 (f11) (by omega) (by decide) ?_
      refine j_if_ne (pc := 14) (tgt := 33) h dX5_add_14 (by decide) (fun c14 => ?_) (fun c14 => absurd c14 (by show ¬ bI (sb i) = 0; rw [hlo i (by omega)]; decide))
      refine j_iinc3 (pc := 33) h dX5_add_33 rfl (inc_n _) ?_
      refine j_goto (pc := 36) (tgt := 2) h dX5_add_36 (by decide) ?_
      exact ih (i + 1) (by omega)
  refine j_iconst (pc := 0) h dX5_add_0 ic_0 ?_
  refine j_istore3 (pc := 1) h dX5_add_1 rfl ?_
  exact lp 8 0 (by omega)
end SN

