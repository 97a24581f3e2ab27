theorem dX7_isMember_0 : decode cX7_isMember 0 = .ok (.lload_n 0, 1) := by decide +kernel
theorem dX7_isMember_1 : decode cX7_isMember 1 = .ok (.iload_n 2, 1) := by decide +kernel
theorem dX7_isMember_2 : decode cX7_isMember 2 = .ok (.lshr, 1) := by decide +kernel
theorem dX7_isMember_3 : decode cX7_isMember 3 = .ok (.lconst 1, 1) := by decide +kernel
theorem dX7_isMember_4 : decode cX7_isMember 4 = .ok (.land, 1) := by decide +kernel
theorem dX7_isMember_5 : decode cX7_isMember 5 = .ok (.lconst 0, 1) := by decide +kernel
theorem dX7_isMember_6 : decode cX7_isMember 6 = .ok (.lcmp, 1) := by decide +kernel
theorem dX7_isMember_7 : decode cX7_isMember 7 = .ok (.ifCond .eq 7, 3) := by decide +kernel
theorem dX7_isMember_10 : decode cX7_isMember 10 = .ok (.iconst 1, 1) := by decide +kernel
theorem dX7_isMember_11 : decode cX7_isMember 11 = .ok (.goto 4, 3) := by decide +kernel
theorem dX7_isMember_14 : decode cX7_isMember 14 = .ok (.iconst 0, 1) := by decide +kernel
theorem dX7_isMember_15 : decode cX7_isMember 15 = .ok (.ireturn, 1) := by decide +kernel
theorem lg_cmp0 {x y : Int64} : lg_cmp x y = 0 ↔ x = y := by
  unfold lg_cmp
  constructor
  · intro h
    by_cases h1 : y < x
    · simp [h1] at h
    · by_cases h2 : x = y
      · exact h2
      · simp [h1, h2] at h
  · intro h
    subst h
    simp
theorem upn {α : Type} {f : Nat → α} {k j : Nat} {v e : α} (h : f j = e) (hj : j ≠ k) : va_up f k v j = e := by rw [va_up_ne _ _ hj]; exact h
theorem scan_no {p : Nat → Bool} {x : Int32} {i m : Nat} (h : p i = false) : scan p x i (m + 1) = scan p x (i + 1) m := by
  rw [scan, if_neg]; intro q; exact absurd (h.symm.trans q.1) (by decide)
theorem scan_nx {p : Nat → Bool} {x : Int32} {i m : Nat} (h : ¬ nI (cnt p i) = x) : scan p x i (m + 1) = scan p x (i + 1) m := by
  rw [scan, if_neg]; intro q; exact h q.2
theorem scan_hit {p : Nat → Bool} {x : Int32} {i m : Nat} (h : p i = true) (h2 : nI (cnt p i) = x) : scan p x i (m + 1) = nI i := by
  rw [scan, if_pos ⟨h, h2⟩]
theorem orr_no {f : Nat → Int64} {i : Nat} (h : f i = 0) : orr f i = orr f (i + 1) := by rw [orr, h]; simp
theorem j_isub1 {X : CX} {g : GG} {own nm : String} {cc : ByteArray} {nL d RC RS : Nat} {ret : Option FieldType} {Q : State → Prop} {k n : Nat} {ad : AD} {C : CC} {L : List (Option Value)} {st : List Value} {pc a : Nat} (h : Cx X g own nm cc nL d RC RS ret) (hd : decode cc pc = .ok (.isub, 1)) (kk : J X g nL Q k n ad C (pc + 1) L (.int (nI a) :: st)) : J X g nL Q k n ad C pc L (.int (nI 1) :: .int (nI (a + 1)) :: st) := j_isubN h hd (by omega) kk
section MB
variable {l : Launch} {g : GG} {ad : AD} {C : CC}
theorem k_X7_isMember {s : Int64} {x : Int32} : Cr l g yX7_isMember cX7_isMember 3 (some .boolean) 1 [.long s, .int x] ad C (.int (bI (mbr s x))) := by
  refine Ct_of [some (.long s), none, some (.int x)] (by decide) rfl rfl (Nat.le_of_ble_eq_true rfl) rfl rfl (fun X hX h => ?_)
  subst hX
  refine j_lload0 (pc := 0) h dX7_isMember_0 ?_
  refine j_iload2 (pc := 1) h dX7_isMember_1 ?_
  refine j_lshr (pc := 2) h dX7_isMember_2 ?_
  refine j_lconst (pc := 3) h dX7_isMember_3 lc_1 ?_
  refine j_land (pc := 4) h dX7_isMember_4 ?_
  refine j_lconst (pc := 5) h dX7_isMember_5 lc_0 ?_
  refine j_lcmp (pc := 6) h dX7_isMember_6 ?_
  refine j_if_eq (pc := 7) (tgt := 14) h dX7_isMember_7 (by decide) (fun c7 => ?_) (fun c7 => ?_)
  · refine j_iconst (pc := 14) h dX7_isMember_14 ic_0 ?_
    refine j_zretr (pc := 15) h dX7_isMember_15 (by decide) (bI_f (by simpa [mbr] using lg_cmp0.mp c7))
  · refine j_iconst (pc := 10) h dX7_isMember_10 ic_1 ?_
    refine j_goto (pc := 11) (tgt := 15) h dX7_isMember_11 (by decide) ?_
    refine j_zretr (pc := 15) h dX7_isMember_15 (by decide) (bI_t (by simpa [mbr] using fun q => c7 (lg_cmp0.mpr q)))
theorem dX7_memberOf_0 : decode cX7_memberOf 0 = .ok (.iconst 0, 1) := by decide +kernel
theorem dX7_memberOf_1 : decode cX7_memberOf 1 = .ok (.istore 4, 2) := by decide +kernel
theorem dX7_memberOf_3 : decode cX7_memberOf 3 = .ok (.iconst 0, 1) := by decide +kernel
theorem dX7_memberOf_4 : decode cX7_memberOf 4 = .ok (.istore 5, 2) := by decide +kernel
theorem dX7_memberOf_6 : decode cX7_memberOf 6 = .ok (.iload 5, 2) := by decide +kernel
theorem dX7_memberOf_8 : decode cX7_memberOf 8 = .ok (.iload_n 3, 1) := by decide +kernel
theorem dX7_memberOf_9 : decode cX7_memberOf 9 = .ok (.if_icmp .ge 30, 3) := by decide +kernel
theorem dX7_memberOf_12 : decode cX7_memberOf 12 = .ok (.lload_n 0, 1) := by decide +kernel
theorem dX7_memberOf_13 : decode cX7_memberOf 13 = .ok (.iload 5, 2) := by decide +kernel
theorem dX7_memberOf_15 : decode cX7_memberOf 15 = .ok (.invokestatic 245, 3) := by decide +kernel
theorem dX7_memberOf_18 : decode cX7_memberOf 18 = .ok (.ifCond .eq 15, 3) := by decide +kernel
theorem dX7_memberOf_21 : decode cX7_memberOf 21 = .ok (.iload 4, 2) := by decide +kernel
theorem dX7_memberOf_23 : decode cX7_memberOf 23 = .ok (.iload_n 2, 1) := by decide +kernel
theorem dX7_memberOf_24 : decode cX7_memberOf 24 = .ok (.if_icmp .ne 6, 3) := by decide +kernel
theorem dX7_memberOf_27 : decode cX7_memberOf 27 = .ok (.iload 5, 2) := by decide +kernel
theorem dX7_memberOf_29 : decode cX7_memberOf 29 = .ok (.ireturn, 1) := by decide +kernel
theorem dX7_memberOf_30 : decode cX7_memberOf 30 = .ok (.iinc 4 1, 3) := by decide +kernel
theorem dX7_memberOf_33 : decode cX7_memberOf 33 = .ok (.iinc 5 1, 3) := by decide +kernel
theorem dX7_memberOf_36 : decode cX7_memberOf 36 = .ok (.goto (-30), 3) := by decide +kernel
theorem dX7_memberOf_39 : decode cX7_memberOf 39 = .ok (.iconst (-1), 1) := by decide +kernel
theorem dX7_memberOf_40 : decode cX7_memberOf 40 = .ok (.ireturn, 1) := by decide +kernel
theorem k_X7_memberOf {s : Int64} {x : Int32} {n : Nat} (hn : n ≤ 64) : Cr l g yX7_memberOf cX7_memberOf 6 (some .int) 2 [.long s, .int x, .int (nI n)] ad C (.int (scan (fun i => mbr s (nI i)) x 0 n)) := by
  refine Ct_of [some (.long s), none, some (.int x), some (.int (nI n)), none, none] (by decide) rfl rfl (Nat.le_of_ble_eq_true rfl) rfl rfl (fun X hX h => ?_)
  subst hX
  have lp : ∀ m i, i + m = n → scan (fun i => mbr s (nI i)) x i m = scan (fun i => mbr s (nI i)) x 0 n → J X g 6 (QR X g ad C (.int (scan (fun i => mbr s (nI i)) x 0 n))) 0 0 ad C 6 [some (.long s), none, some (.int x), some (.int (nI n)), some (.int (nI (cnt (fun i => mbr s (nI i)) i))), some (.int (nI i))] [] := by
    intro m
    induction m with
    | zero =>
      intro i hi hs
      refine j_iload5 (pc := 6) h dX7_memberOf_6 ?_
      refine j_iload3 (pc := 8) h dX7_memberOf_8 ?_
      refine j_icmp_ge (pc := 9) (tgt := 39) h dX7_memberOf_9 (by decide) (fun c9 => ?_) (fun c9 => absurd (nI_le (by omega) (by omega)) c9)
      refine j_iconst (pc := 39) h dX7_memberOf_39 ic_m1 ?_
      refine j_iretr (pc := 40) h dX7_memberOf_40 (hs)
    | succ m ih =>
      intro i hi hs
      refine j_iload5 (pc := 6) h dX7_memberOf_6 ?_
      refine j_iload3 (pc := 8) h dX7_memberOf_8 ?_
      refine j_icmp_ge (pc := 9) (tgt := 39) h dX7_memberOf_9 (by decide) (fun c9 => absurd c9 (nI_ge (by omega) (by omega))) (fun c9 => ?_)
      refine j_lload0 (pc := 12) h dX7_memberOf_12 ?_
      refine j_iload5 (pc := 13) h dX7_memberOf_13 ?_
      refine j_callSr (pc := 15) h dX7_memberOf_15 (k_X7_isMember) ms_X7_245 rfl rfl (by decide) (Nat.le_of_ble_eq_true rfl) (Nat.le_of_ble_eq_true rfl) (Nat.le_of_ble_eq_true rfl) ?_
      refine j_if_eqB (pc := 18) (tgt := 33) h dX7_memberOf_18 (by decide) (fun c18 => ?_) (fun c18 => ?_)
      · refine j_iinc5 (pc := 33) h dX7_memberOf_33 rfl (inc_n _) ?_
        refine j_goto (pc := 36) (tgt := 6) h dX7_memberOf_36 (by decide) ?_
        rw [show cnt (fun i => mbr s (nI i)) i = cnt (fun i => mbr s (nI i)) (i + 1) from (cnt_f c18).symm]
        exact ih (i + 1) (by omega) (by rw [← hs, scan, if_neg]; intro q; rw [c18] at q; exact absurd q.1 (by decide))
      · refine j_iload4 (pc := 21) h dX7_memberOf_21 ?_
        refine j_iload2 (pc := 23) h dX7_memberOf_23 ?_
        refine j_icmp_ne (pc := 24) (tgt := 30) h dX7_memberOf_24 (by decide) (fun c24 => ?_) (fun c24 => ?_)
        · refine j_iinc4 (pc := 30) h dX7_memberOf_30 rfl (inc_n _) ?_
          refine j_iinc5 (pc := 33) h dX7_memberOf_33 rfl (inc_n _) ?_
          refine j_goto (pc := 36) (tgt := 6) h dX7_memberOf_36 (by decide) ?_
          rw [show cnt (fun i => mbr s (nI i)) i + 1 = cnt (fun i => mbr s (nI i)) (i + 1) from (cnt_t c18).symm]
          exact ih (i + 1) (by omega) (by rw [← hs, scan, if_neg]; intro q; exact c24 q.2)
        · refine j_iload5 (pc := 27) h dX7_memberOf_27 ?_
          refine j_iretr (pc := 29) h dX7_memberOf_29 (by rw [← hs, scan, if_pos ⟨c18, c24⟩])
  refine j_iconst (pc := 0) h dX7_memberOf_0 ic_0 ?_
  refine j_istore4 (pc := 1) h dX7_memberOf_1 rfl ?_
  refine j_iconst (pc := 3) h dX7_memberOf_3 ic_0 ?_
  refine j_istore5 (pc := 4) h dX7_memberOf_4 rfl ?_
  exact lp n 0 (by omega) rfl
end MB

