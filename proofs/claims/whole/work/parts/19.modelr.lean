/-! The reference: its reads -/
theorem rngF {x a b : Int32} (h : x < a) : rng x a b = false := by
  have : ¬ a ≤ x := by rw [Int32.le_iff_toInt_le]; rw [Int32.lt_iff_toInt_lt] at h; omega
  simp [rng, this]
theorem rngG {x a b : Int32} (h : b < x) : rng x a b = false := by
  have : ¬ x ≤ b := by rw [Int32.le_iff_toInt_le]; rw [Int32.lt_iff_toInt_lt] at h; omega
  simp [rng, this]
theorem rngT {x a b : Int32} (h : ¬ x < a) (h2 : ¬ b < x) : rng x a b = true := by
  have h3 : a ≤ x := by rw [Int32.le_iff_toInt_le]; rw [Int32.lt_iff_toInt_lt] at h; omega
  have h4 : x ≤ b := by rw [Int32.le_iff_toInt_le]; rw [Int32.lt_iff_toInt_lt] at h2; omega
  simp [rng, h3, h4]
section MR
variable {l : Launch} {g : GG} {ad : AD} {C : CC} {σ : Sg} {τ : Tm}
theorem k_X8_in {x a b : Int32} : Cr l g yX8_in cX8_in 3 (some .boolean) 1 [.int x, .int a, .int b] ad C (.int (bI (rng x a b))) := by
  refine Ct_of [some (.int x), some (.int a), some (.int b)] (by decide) rfl rfl (Nat.le_of_ble_eq_true rfl) rfl rfl (fun X hX h => ?_)
  subst hX
  refine j_iload0 (pc := 0) h dX8_in_0 ?_
  refine j_iload1 (pc := 1) h dX8_in_1 ?_
  refine j_icmp_lt (pc := 2) (tgt := 14) h dX8_in_2 (by decide) (fun c2 => ?_) (fun c2 => ?_)
  · refine j_iconst (pc := 14) h dX8_in_14 ic_0 ?_
    refine j_zretr (pc := 15) h dX8_in_15 (by decide) (bI_f (rngF c2))
  · refine j_iload0 (pc := 5) h dX8_in_5 ?_
    refine j_iload2 (pc := 6) h dX8_in_6 ?_
    refine j_icmp_gt (pc := 7) (tgt := 14) h dX8_in_7 (by decide) (fun c7 => ?_) (fun c7 => ?_)
    · refine j_iconst (pc := 14) h dX8_in_14 ic_0 ?_
      refine j_zretr (pc := 15) h dX8_in_15 (by decide) (bI_f (rngG c7))
    · refine j_iconst (pc := 10) h dX8_in_10 ic_1 ?_
      refine j_goto (pc := 11) (tgt := 15) h dX8_in_11 (by decide) ?_
      refine j_zretr (pc := 15) h dX8_in_15 (by decide) (bI_t (rngT c2 c7))
theorem k_X8_bits {v : Int64} : Cr l g yX8_bits cX8_bits 4 (some .int) 1 [.long v] ad C (.int (nI (p60 v))) := by
  refine Ct_of [some (.long v), none, none, none] (by decide) rfl rfl (Nat.le_of_ble_eq_true rfl) rfl rfl (fun X hX h => ?_)
  subst hX
  have lp : ∀ m i, i + m = 60 → J X g 4 (QR X g ad C (.int (nI (p60 v)))) 0 0 ad C 4 [some (.long v), none, some (.int (nI (cnt (fun i => v.toBitVec.getLsbD i) i))), some (.int (nI i))] [] := by
    intro m
    induction m with
    | zero =>
      intro i hi
      refine j_iload3 (pc := 4) h dX8_bits_4 ?_
      refine j_bipush (pc := 5) h dX8_bits_5 bp_60 ?_
      refine j_icmp_ge (pc := 7) (tgt := 25) h dX8_bits_7 (by decide) (fun c7 => ?_) (fun c7 => absurd (nI_le (by omega) (by omega)) c7)
      refine j_iload2 (pc := 25) h dX8_bits_25 ?_
      refine j_iretr (pc := 26) h dX8_bits_26 (by rw [show i = 60 by omega]; rfl)
    | succ m ih =>
      intro i hi
      refine j_iload3 (pc := 4) h dX8_bits_4 ?_
      refine j_bipush (pc := 5) h dX8_bits_5 bp_60 ?_
      refine j_icmp_ge (pc := 7) (tgt := 25) h dX8_bits_7 (by decide) (fun c7 => absurd c7 (nI_ge (by omega) (by omega))) (fun c7 => ?_)
      refine j_iload2 (pc := 10) h dX8_bits_10 ?_
      refine j_lload0 (pc := 11) h dX8_bits_11 ?_
      refine j_iload3 (pc := 12) h dX8_bits_12 ?_
      refine j_lshr (pc := 13) h dX8_bits_13 ?_
      refine j_lconst (pc := 14) h dX8_bits_14 lc_1 ?_
      refine j_land (pc := 15) h dX8_bits_15 ?_
      refine j_l2i (pc := 16) h dX8_bits_16 ?_
      refine j_topi (shr1_32 v (by omega)) ?_
      refine j_iaddN (pc := 17) h dX8_bits_17 ?_
      refine j_istore2 (pc := 18) h dX8_bits_18 rfl ?_
      refine j_iinc3 (pc := 19) h dX8_bits_19 rfl (inc_n _) ?_
      refine j_goto (pc := 22) (tgt := 4) h dX8_bits_22 (by decide) ?_
      exact ih (i + 1) (by omega)
  refine j_iconst (pc := 0) h dX8_bits_0 ic_0 ?_
  refine j_istore2 (pc := 1) h dX8_bits_1 rfl ?_
  refine j_iconst (pc := 2) h dX8_bits_2 ic_0 ?_
  refine j_istore3 (pc := 3) h dX8_bits_3 rfl ?_
  exact lp 60 0 (by omega)
theorem k_X8_bits' {v : Int64} (h : lo60 v) : Cr l g yX8_bits cX8_bits 4 (some .int) 1 [.long v] ad C (.int (nI (pcn v))) := by rw [← p60_eq h]; exact k_X8_bits
theorem k_X8_isFolder {x : Int32} (m : MW g ad σ τ C) (hI : Inv σ) : Cr l g yX8_isFolder cX8_isFolder 2 (some .boolean) 2 [.ref (ad 20), .int x] ad C (.int (bI (inN x σ.nf))) := by
  obtain ⟨f20, f21, f22, f23, f24, f25, f26, f27, f28, f29, f30, f31, f32, f33, f34, f35, f36, f37, f38⟩ := id m
  obtain ⟨hf1, hf2, hfl, hnn, hnm, hno, hc1, hc2⟩ := id hI.le
  rw [← rng_n (by omega)]
  refine Ct_of [some (.ref (ad 20)), some (.int x)] (by decide) rfl rfl (Nat.le_of_ble_eq_true rfl) rfl rfl (fun X hX h => ?_)
  subst hX
  refine j_iload1 (pc := 0) h dX8_isFolder_0 ?_
  refine j_iconst (pc := 1) h dX8_isFolder_1 ic_0 ?_
  refine j_aload0 (pc := 2) h dX8_isFolder_2 ?_
  refine j_getf (pc := 3) h dX8_isFolder_3 (f20) fl_X8_7 rfl ?_
  refine j_iconst (pc := 6) h dX8_isFolder_6 ic_1 ?_
  refine j_isub (pc := 7) h dX8_isFolder_7 ?_
  refine j_callSr (pc := 8) h dX8_isFolder_8 (k_X8_in) ms_X8_73 rfl rfl (by decide) (Nat.le_of_ble_eq_true rfl) (Nat.le_of_ble_eq_true rfl) (Nat.le_of_ble_eq_true rfl) ?_
  refine j_zretr (pc := 11) h dX8_isFolder_11 (bI_nar _) (rfl)
theorem k_X8_isOf {a t : Nat} (m : MW g ad σ τ C) (hI : Inv σ) (ha : a < σ.nf) (ht : t < σ.nf) : Cr l g yX8_isOf cX8_isOf 4 (some .boolean) 1 [.ref (ad 20), .int (nI a), .int (nI t)] ad C (.int (bI (anc σ.pr 29 a t))) := by
  obtain ⟨f20, f21, f22, f23, f24, f25, f26, f27, f28, f29, f30, f31, f32, f33, f34, f35, f36, f37, f38⟩ := id m
  obtain ⟨hf1, hf2, hfl, hnn, hnm, hno, hc1, hc2⟩ := id hI.le
  refine Ct_of [some (.ref (ad 20)), some (.int (nI a)), some (.int (nI t)), none] (by decide) rfl rfl (Nat.le_of_ble_eq_true rfl) rfl rfl (fun X hX h => ?_)
  subst hX
  have ex : anc σ.pr 29 a t = false → J X g 4 (QR X g ad C (.int (bI (anc σ.pr 29 a t)))) 0 0 ad C 2 [some (.ref (ad 20)), some (.int (nI a)), some (.int (nI t)), some (.int (-1))] [] := by
    intro hB
    refine j_iload3 (pc := 2) h dX8_isOf_2 ?_
    refine j_iconst (pc := 3) h dX8_isOf_3 ic_m1 ?_
    refine j_icmp_eq (pc := 4) (tgt := 22) h dX8_isOf_4 (by decide) (fun c4 => ?_) (fun c4 => absurd (rfl) c4)
    refine j_iload3 (pc := 22) h dX8_isOf_22 ?_
    refine j_iload2 (pc := 23) h dX8_isOf_23 ?_
    refine j_icmp_ne (pc := 24) (tgt := 31) h dX8_isOf_24 (by decide) (fun c24 => ?_) (fun c24 => absurd c24 (fun q => nI_m1 (by omega) q.symm))
    refine j_iconst (pc := 31) h dX8_isOf_31 ic_0 ?_
    refine j_zretr (pc := 32) h dX8_isOf_32 (by decide) (bI_f hB)
  have lp : ∀ n j, okc σ.pr σ.nf n j → j < σ.nf → anc σ.pr n j t = anc σ.pr 29 a t → J X g 4 (QR X g ad C (.int (bI (anc σ.pr 29 a t)))) 0 0 ad C 2 [some (.ref (ad 20)), some (.int (nI a)), some (.int (nI t)), some (.int (nI j))] [] := by
    intro n
    induction n with
    | zero =>
      intro j ho hj hB
      obtain rfl : j = 0 := ho
      refine j_iload3 (pc := 2) h dX8_isOf_2 ?_
      refine j_iconst (pc := 3) h dX8_isOf_3 ic_m1 ?_
      refine j_icmp_eq (pc := 4) (tgt := 22) h dX8_isOf_4 (by decide) (fun c4 => absurd c4 (nI_m1 (by omega))) (fun c4 => ?_)
      refine j_iload3 (pc := 7) h dX8_isOf_7 ?_
      refine j_iload2 (pc := 8) h dX8_isOf_8 ?_
      refine j_icmp_eq (pc := 9) (tgt := 22) h dX8_isOf_9 (by decide) (fun c9 => ?_) (fun c9 => ?_)
      · refine j_iload3 (pc := 22) h dX8_isOf_22 ?_
        refine j_iload2 (pc := 23) h dX8_isOf_23 ?_
        refine j_icmp_ne (pc := 24) (tgt := 31) h dX8_isOf_24 (by decide) (fun c24 => absurd (c9) c24) (fun c24 => ?_)
        refine j_iconst (pc := 27) h dX8_isOf_27 ic_1 ?_
        refine j_goto (pc := 28) (tgt := 32) h dX8_isOf_28 (by decide) ?_
        refine j_zretr (pc := 32) h dX8_isOf_32 (by decide) (bI_t (by rw [← hB]; exact anc_eq (nI_inj c9 (by omega) (by omega))))
      · refine j_aload0 (pc := 12) h dX8_isOf_12 ?_
        refine j_getf (pc := 13) h dX8_isOf_13 (f20) fl_X8_13 rfl ?_
        refine j_iload3 (pc := 16) h dX8_isOf_16 ?_
        refine j_iald (pc := 17) h dX8_isOf_17 (f21) (by omega) (by decide) ?_
        refine j_istore3 (pc := 18) h dX8_isOf_18 rfl ?_
        refine j_goto (pc := 19) (tgt := 2) h dX8_isOf_19 (by decide) ?_
        exact ex (by rw [← hB]; exact anc_0 (fun q => c9 (by rw [q])))
    | succ n ih =>
      intro j ho hj hB
      refine j_iload3 (pc := 2) h dX8_isOf_2 ?_
      refine j_iconst (pc := 3) h dX8_isOf_3 ic_m1 ?_
      refine j_icmp_eq (pc := 4) (tgt := 22) h dX8_isOf_4 (by decide) (fun c4 => absurd c4 (nI_m1 (by omega))) (fun c4 => ?_)
      refine j_iload3 (pc := 7) h dX8_isOf_7 ?_
      refine j_iload2 (pc := 8) h dX8_isOf_8 ?_
      refine j_icmp_eq (pc := 9) (tgt := 22) h dX8_isOf_9 (by decide) (fun c9 => ?_) (fun c9 => ?_)
      · refine j_iload3 (pc := 22) h dX8_isOf_22 ?_
        refine j_iload2 (pc := 23) h dX8_isOf_23 ?_
        refine j_icmp_ne (pc := 24) (tgt := 31) h dX8_isOf_24 (by decide) (fun c24 => absurd (c9) c24) (fun c24 => ?_)
        refine j_iconst (pc := 27) h dX8_isOf_27 ic_1 ?_
        refine j_goto (pc := 28) (tgt := 32) h dX8_isOf_28 (by decide) ?_
        refine j_zretr (pc := 32) h dX8_isOf_32 (by decide) (bI_t (by rw [← hB]; exact anc_eq (nI_inj c9 (by omega) (by omega))))
      · by_cases h0 : j = 0
        · subst h0
          refine j_aload0 (pc := 12) h dX8_isOf_12 ?_
          refine j_getf (pc := 13) h dX8_isOf_13 (f20) fl_X8_13 rfl ?_
          refine j_iload3 (pc := 16) h dX8_isOf_16 ?_
          refine j_iald (pc := 17) h dX8_isOf_17 (f21) (by omega) (by decide) ?_
          refine j_istore3 (pc := 18) h dX8_isOf_18 rfl ?_
          refine j_goto (pc := 19) (tgt := 2) h dX8_isOf_19 (by decide) ?_
          exact ex (by rw [← hB]; exact anc_0 (fun q => c9 (by rw [q])))
        · obtain ⟨m', hm, h1, h2⟩ := okc_s ho h0
          obtain rfl : n = m' := by omega
          refine j_aload0 (pc := 12) h dX8_isOf_12 ?_
          refine j_getf (pc := 13) h dX8_isOf_13 (f20) fl_X8_13 rfl ?_
          refine j_iload3 (pc := 16) h dX8_isOf_16 ?_
          refine j_iald (pc := 17) h dX8_isOf_17 (f21) (by omega) (by decide) ?_
          refine j_topi (parF_s h0) ?_
          refine j_istore3 (pc := 18) h dX8_isOf_18 rfl ?_
          refine j_goto (pc := 19) (tgt := 2) h dX8_isOf_19 (by decide) ?_
          exact ih (σ.pr j) h2 h1 (by rw [← hB]; exact (anc_s (fun q => c9 (by rw [q])) h0).symm)
  refine j_iload1 (pc := 0) h dX8_isOf_0 ?_
  refine j_istore3 (pc := 1) h dX8_isOf_1 rfl ?_
  exact lp 29 a (hI.ok a ha) ha rfl
theorem k_X8_isSeen_m1 {who : Int32} (m : MW g ad σ τ C) : Cr l g yX8_isSeen cX8_isSeen 4 (some .boolean) 1 [.ref (ad 20), .int (-1), .int who] ad C (.int (bI true)) := by
  refine Ct_of [some (.ref (ad 20)), some (.int (-1)), some (.int who), none] (by decide) rfl rfl (Nat.le_of_ble_eq_true rfl) rfl rfl (fun X hX h => ?_)
  subst hX
  refine j_iload1 (pc := 0) h dX8_isSeen_0 ?_
  refine j_istore3 (pc := 1) h dX8_isSeen_1 rfl ?_
  refine j_iload3 (pc := 2) h dX8_isSeen_2 ?_
  refine j_iconst (pc := 3) h dX8_isSeen_3 ic_m1 ?_
  refine j_icmp_eq (pc := 4) (tgt := 38) h dX8_isSeen_4 (by decide) (fun c4 => ?_) (fun c4 => absurd (rfl) c4)
  refine j_iconst (pc := 38) h dX8_isSeen_38 ic_1 ?_
  refine j_zretr (pc := 39) h dX8_isSeen_39 (by decide) (rfl)
theorem k_X8_isSeen {a : Nat} {who : Int32} (m : MW g ad σ τ C) (hI : Inv σ) (ha : a < σ.nf) : Cr l g yX8_isSeen cX8_isSeen 4 (some .boolean) 1 [.ref (ad 20), .int (nI a), .int who] ad C (.int (bI (sees σ.pr σ.hd σ.fow who 29 a))) := by
  obtain ⟨f20, f21, f22, f23, f24, f25, f26, f27, f28, f29, f30, f31, f32, f33, f34, f35, f36, f37, f38⟩ := id m
  obtain ⟨hf1, hf2, hfl, hnn, hnm, hno, hc1, hc2⟩ := id hI.le
  refine Ct_of [some (.ref (ad 20)), some (.int (nI a)), some (.int who), none] (by decide) rfl rfl (Nat.le_of_ble_eq_true rfl) rfl rfl (fun X hX h => ?_)
  subst hX
  have ex : sees σ.pr σ.hd σ.fow who 29 a = true → J X g 4 (QR X g ad C (.int (bI (sees σ.pr σ.hd σ.fow who 29 a)))) 0 0 ad C 2 [some (.ref (ad 20)), some (.int (nI a)), some (.int who), some (.int (-1))] [] := by
    intro hB
    refine j_iload3 (pc := 2) h dX8_isSeen_2 ?_
    refine j_iconst (pc := 3) h dX8_isSeen_3 ic_m1 ?_
    refine j_icmp_eq (pc := 4) (tgt := 38) h dX8_isSeen_4 (by decide) (fun c4 => ?_) (fun c4 => absurd (rfl) c4)
    refine j_iconst (pc := 38) h dX8_isSeen_38 ic_1 ?_
    refine j_zretr (pc := 39) h dX8_isSeen_39 (by decide) (bI_t hB)
  have lp : ∀ n j, okc σ.pr σ.nf n j → j < σ.nf → sees σ.pr σ.hd σ.fow who n j = sees σ.pr σ.hd σ.fow who 29 a → J X g 4 (QR X g ad C (.int (bI (sees σ.pr σ.hd σ.fow who 29 a)))) 0 0 ad C 2 [some (.ref (ad 20)), some (.int (nI a)), some (.int who), some (.int (nI j))] [] := by
    intro n
    induction n with
    | zero =>
      intro j ho hj hB
      obtain rfl : j = 0 := ho
      have nx : (σ.hd 0 && σ.fow 0 != who) = false → J X g 4 (QR X g ad C (.int (bI (sees σ.pr σ.hd σ.fow who 29 a)))) 0 0 ad C 28 [some (.ref (ad 20)), some (.int (nI a)), some (.int who), some (.int (nI 0))] [] := by
        intro hq
        refine j_aload0 (pc := 28) h dX8_isSeen_28 ?_
        refine j_getf (pc := 29) h dX8_isSeen_29 (f20) fl_X8_13 rfl ?_
        refine j_iload3 (pc := 32) h dX8_isSeen_32 ?_
        refine j_iald (pc := 33) h dX8_isSeen_33 (f21) (by omega) (by decide) ?_
        refine j_istore3 (pc := 34) h dX8_isSeen_34 rfl ?_
        refine j_goto (pc := 35) (tgt := 2) h dX8_isSeen_35 (by decide) ?_
        exact ex (by rw [← hB, sees, hq]; rfl)
      refine j_iload3 (pc := 2) h dX8_isSeen_2 ?_
      refine j_iconst (pc := 3) h dX8_isSeen_3 ic_m1 ?_
      refine j_icmp_eq (pc := 4) (tgt := 38) h dX8_isSeen_4 (by decide) (fun c4 => absurd c4 (nI_m1 (by omega))) (fun c4 => ?_)
      refine j_aload0 (pc := 7) h dX8_isSeen_7 ?_
      refine j_getf (pc := 8) h dX8_isSeen_8 (f20) fl_X8_20 rfl ?_
      refine j_iload3 (pc := 11) h dX8_isSeen_11 ?_
      refine j_zald (pc := 12) h dX8_isSeen_12 (f23) (by omega) (by decide) ?_
      refine j_if_eq (pc := 13) (tgt := 28) h dX8_isSeen_13 (by decide) (fun c13 => ?_) (fun c13 => ?_)
      · exact nx (by rw [bI_0.mp c13]; rfl)
      · have hh : σ.hd 0 = true := bI_n0 c13
        refine j_aload0 (pc := 16) h dX8_isSeen_16 ?_
        refine j_getf (pc := 17) h dX8_isSeen_17 (f20) fl_X8_17 rfl ?_
        refine j_iload3 (pc := 20) h dX8_isSeen_20 ?_
        refine j_iald (pc := 21) h dX8_isSeen_21 (f22) (by omega) (by decide) ?_
        refine j_iload2 (pc := 22) h dX8_isSeen_22 ?_
        refine j_icmp_eq (pc := 23) (tgt := 28) h dX8_isSeen_23 (by decide) (fun c23 => ?_) (fun c23 => ?_)
        · exact nx (by simp [c23])
        · refine j_iconst (pc := 26) h dX8_isSeen_26 ic_0 ?_
          refine j_zretr (pc := 27) h dX8_isSeen_27 (by decide) (bI_f (by rw [← hB, sees, hh]; simp [c23]))
    | succ n ih =>
      intro j ho hj hB
      have nx : (σ.hd j && σ.fow j != who) = false → J X g 4 (QR X g ad C (.int (bI (sees σ.pr σ.hd σ.fow who 29 a)))) 0 0 ad C 28 [some (.ref (ad 20)), some (.int (nI a)), some (.int who), some (.int (nI j))] [] := by
        intro hq
        by_cases h0 : j = 0
        · subst h0
          refine j_aload0 (pc := 28) h dX8_isSeen_28 ?_
          refine j_getf (pc := 29) h dX8_isSeen_29 (f20) fl_X8_13 rfl ?_
          refine j_iload3 (pc := 32) h dX8_isSeen_32 ?_
          refine j_iald (pc := 33) h dX8_isSeen_33 (f21) (by omega) (by decide) ?_
          refine j_istore3 (pc := 34) h dX8_isSeen_34 rfl ?_
          refine j_goto (pc := 35) (tgt := 2) h dX8_isSeen_35 (by decide) ?_
          exact ex (by rw [← hB, sees, hq]; rfl)
        · obtain ⟨m', hm, h1, h2⟩ := okc_s ho h0
          obtain rfl : n = m' := by omega
          refine j_aload0 (pc := 28) h dX8_isSeen_28 ?_
          refine j_getf (pc := 29) h dX8_isSeen_29 (f20) fl_X8_13 rfl ?_
          refine j_iload3 (pc := 32) h dX8_isSeen_32 ?_
          refine j_iald (pc := 33) h dX8_isSeen_33 (f21) (by omega) (by decide) ?_
          refine j_topi (parF_s h0) ?_
          refine j_istore3 (pc := 34) h dX8_isSeen_34 rfl ?_
          refine j_goto (pc := 35) (tgt := 2) h dX8_isSeen_35 (by decide) ?_
          exact ih (σ.pr j) h2 h1 (by rw [← hB, sees, hq]; simp [h0])
      refine j_iload3 (pc := 2) h dX8_isSeen_2 ?_
      refine j_iconst (pc := 3) h dX8_isSeen_3 ic_m1 ?_
      refine j_icmp_eq (pc := 4) (tgt := 38) h dX8_isSeen_4 (by decide) (fun c4 => absurd c4 (nI_m1 (by omega))) (fun c4 => ?_)
      refine j_aload0 (pc := 7) h dX8_isSeen_7 ?_
      refine j_getf (pc := 8) h dX8_isSeen_8 (f20) fl_X8_20 rfl ?_
      refine j_iload3 (pc := 11) h dX8_isSeen_11 ?_
      refine j_zald (pc := 12) h dX8_isSeen_12 (f23) (by omega) (by decide) ?_
      refine j_if_eq (pc := 13) (tgt := 28) h dX8_isSeen_13 (by decide) (fun c13 => ?_) (fun c13 => ?_)
      · exact nx (by rw [bI_0.mp c13]; rfl)
      · have hh : σ.hd j = true := bI_n0 c13
        refine j_aload0 (pc := 16) h dX8_isSeen_16 ?_
        refine j_getf (pc := 17) h dX8_isSeen_17 (f20) fl_X8_17 rfl ?_
        refine j_iload3 (pc := 20) h dX8_isSeen_20 ?_
        refine j_iald (pc := 21) h dX8_isSeen_21 (f22) (by omega) (by decide) ?_
        refine j_iload2 (pc := 22) h dX8_isSeen_22 ?_
        refine j_icmp_eq (pc := 23) (tgt := 28) h dX8_isSeen_23 (by decide) (fun c23 => ?_) (fun c23 => ?_)
        · exact nx (by simp [c23])
        · refine j_iconst (pc := 26) h dX8_isSeen_26 ic_0 ?_
          refine j_zretr (pc := 27) h dX8_isSeen_27 (by decide) (bI_f (by rw [← hB, sees, hh]; simp [c23]))
  refine j_iload1 (pc := 0) h dX8_isSeen_0 ?_
  refine j_istore3 (pc := 1) h dX8_isSeen_1 rfl ?_
  exact lp 29 a (hI.ok a ha) ha rfl
theorem k_X8_namesOf {i : Nat} (m : MW g ad σ τ C) (hI : Inv σ) (hi : i < σ.nfl) : Cr l g yX8_namesOf cX8_namesOf 4 (some .int) 1 [.ref (ad 20), .int (nI i)] ad C (.int (nI (nms σ i))) := by
  obtain ⟨f20, f21, f22, f23, f24, f25, f26, f27, f28, f29, f30, f31, f32, f33, f34, f35, f36, f37, f38⟩ := id m
  obtain ⟨hf1, hf2, hfl, hnn, hnm, hno, hc1, hc2⟩ := id hI.le
  refine Ct_of [some (.ref (ad 20)), some (.int (nI i)), none, none] (by decide) rfl rfl (Nat.le_of_ble_eq_true rfl) rfl rfl (fun X hX h => ?_)
  subst hX
  have lp : ∀ n k, k + n = σ.nn → J X g 4 (QR X g ad C (.int (nI (nms σ i)))) 0 0 ad C 4 [some (.ref (ad 20)), some (.int (nI i)), some (.int (nI (cnt (fun k => σ.tb k && σ.fl k == i) k))), some (.int (nI k))] [] := by
    intro n
    induction n with
    | zero =>
      intro k hk
      refine j_iload3 (pc := 4) h dX8_namesOf_4 ?_
      refine j_aload0 (pc := 5) h dX8_namesOf_5 ?_
      refine j_getf (pc := 6) h dX8_namesOf_6 (f20) fl_X8_88 rfl ?_
      refine j_icmp_ge (pc := 9) (tgt := 45) h dX8_namesOf_9 (by decide) (fun c9 => ?_) (fun c9 => absurd (nI_le (by omega) (by omega)) c9)
      refine j_iload2 (pc := 45) h dX8_namesOf_45 ?_
      refine j_iretr (pc := 46) h dX8_namesOf_46 (by rw [show k = σ.nn by omega]; rfl)
    | succ n ih =>
      intro k hk
      have hfk := (hI.nam k (by omega)).1
      refine j_iload3 (pc := 4) h dX8_namesOf_4 ?_
      refine j_aload0 (pc := 5) h dX8_namesOf_5 ?_
      refine j_getf (pc := 6) h dX8_namesOf_6 (f20) fl_X8_88 rfl ?_
      refine j_icmp_ge (pc := 9) (tgt := 45) h dX8_namesOf_9 (by decide) (fun c9 => absurd c9 (nI_ge (by omega) (by omega))) (fun c9 => ?_)
      refine j_iload2 (pc := 12) h dX8_namesOf_12 ?_
      refine j_aload0 (pc := 13) h dX8_namesOf_13 ?_
      refine j_getf (pc := 14) h dX8_namesOf_14 (f20) fl_X8_45 rfl ?_
      refine j_iload3 (pc := 17) h dX8_namesOf_17 ?_
      refine j_zald (pc := 18) h dX8_namesOf_18 (f31) (by omega) (by decide) ?_
      refine j_if_eq (pc := 19) (tgt := 36) h dX8_namesOf_19 (by decide) (fun c19 => ?_) (fun c19 => ?_)
      · refine j_iconst (pc := 36) h dX8_namesOf_36 ic_0 ?_
        refine j_iaddN (pc := 37) h dX8_namesOf_37 ?_
        refine j_istore2 (pc := 38) h dX8_namesOf_38 rfl ?_
        refine j_iinc3 (pc := 39) h dX8_namesOf_39 rfl (inc_n _) ?_
        refine j_goto (pc := 42) (tgt := 4) h dX8_namesOf_42 (by decide) ?_
        rw [show cnt (fun k => σ.tb k && σ.fl k == i) k + 0 = cnt (fun k => σ.tb k && σ.fl k == i) (k + 1) from (cnt_f (by simp [bI_0.mp c19])).symm]
        exact ih (k + 1) (by omega)
      · refine j_aload0 (pc := 22) h dX8_namesOf_22 ?_
        refine j_getf (pc := 23) h dX8_namesOf_23 (f20) fl_X8_39 rfl ?_
        refine j_iload3 (pc := 26) h dX8_namesOf_26 ?_
        refine j_iald (pc := 27) h dX8_namesOf_27 (f29) (by omega) (by decide) ?_
        refine j_iload1 (pc := 28) h dX8_namesOf_28 ?_
        refine j_icmp_ne (pc := 29) (tgt := 36) h dX8_namesOf_29 (by decide) (fun c29 => ?_) (fun c29 => ?_)
        · refine j_iconst (pc := 36) h dX8_namesOf_36 ic_0 ?_
          refine j_iaddN (pc := 37) h dX8_namesOf_37 ?_
          refine j_istore2 (pc := 38) h dX8_namesOf_38 rfl ?_
          refine j_iinc3 (pc := 39) h dX8_namesOf_39 rfl (inc_n _) ?_
          refine j_goto (pc := 42) (tgt := 4) h dX8_namesOf_42 (by decide) ?_
          rw [show cnt (fun k => σ.tb k && σ.fl k == i) k + 0 = cnt (fun k => σ.tb k && σ.fl k == i) (k + 1) from (cnt_f (by have : ¬ σ.fl k = i := (fun q => c29 (by rw [q])); simp [this])).symm]
          exact ih (k + 1) (by omega)
        · refine j_iconst (pc := 32) h dX8_namesOf_32 ic_1 ?_
          refine j_goto (pc := 33) (tgt := 37) h dX8_namesOf_33 (by decide) ?_
          refine j_iaddN (pc := 37) h dX8_namesOf_37 ?_
          refine j_istore2 (pc := 38) h dX8_namesOf_38 rfl ?_
          refine j_iinc3 (pc := 39) h dX8_namesOf_39 rfl (inc_n _) ?_
          refine j_goto (pc := 42) (tgt := 4) h dX8_namesOf_42 (by decide) ?_
          rw [show cnt (fun k => σ.tb k && σ.fl k == i) k + 1 = cnt (fun k => σ.tb k && σ.fl k == i) (k + 1) from (cnt_t (by have := nI_inj c29 (by omega) (by omega); simp [bI_n0 c19, this])).symm]
          exact ih (k + 1) (by omega)
  refine j_iconst (pc := 0) h dX8_namesOf_0 ic_0 ?_
  refine j_istore2 (pc := 1) h dX8_namesOf_1 rfl ?_
  refine j_iconst (pc := 2) h dX8_namesOf_2 ic_0 ?_
  refine j_istore3 (pc := 3) h dX8_namesOf_3 rfl ?_
  exact lp σ.nn 0 (by omega)
theorem nms_le (σ : Sg) (i : Nat) : nms σ i ≤ σ.nn := cnt_le _ _
theorem k_X8_isFile_no {x : Int32} (m : MW g ad σ τ C) (hI : Inv σ) (hx : inN x σ.nfl = false) : Cr l g yX8_isFile cX8_isFile 2 (some .boolean) 2 [.ref (ad 20), .int x] ad C (.int (bI false)) := by
  obtain ⟨f20, f21, f22, f23, f24, f25, f26, f27, f28, f29, f30, f31, f32, f33, f34, f35, f36, f37, f38⟩ := id m
  obtain ⟨hf1, hf2, hfl, hnn, hnm, hno, hc1, hc2⟩ := id hI.le
  refine Ct_of [some (.ref (ad 20)), some (.int x)] (by decide) rfl rfl (Nat.le_of_ble_eq_true rfl) rfl rfl (fun X hX h => ?_)
  subst hX
  refine j_iload1 (pc := 0) h dX8_isFile_0 ?_
  refine j_iconst (pc := 1) h dX8_isFile_1 ic_0 ?_
  refine j_aload0 (pc := 2) h dX8_isFile_2 ?_
  refine j_getf (pc := 3) h dX8_isFile_3 (f20) fl_X8_91 rfl ?_
  refine j_iconst (pc := 6) h dX8_isFile_6 ic_1 ?_
  refine j_isub (pc := 7) h dX8_isFile_7 ?_
  refine j_callSr (pc := 8) h dX8_isFile_8 (k_X8_in) ms_X8_73 rfl rfl (by decide) (Nat.le_of_ble_eq_true rfl) (Nat.le_of_ble_eq_true rfl) (Nat.le_of_ble_eq_true rfl) ?_
  refine j_if_eqB (pc := 11) (tgt := 26) h dX8_isFile_11 (by decide) (fun c11 => ?_) (fun c11 => absurd c11 (by rw [rng_n (by omega), hx]; decide))
  refine j_iconst (pc := 26) h dX8_isFile_26 ic_0 ?_
  refine j_zretr (pc := 27) h dX8_isFile_27 (by decide) (rfl)
theorem k_X8_isFile {i : Nat} (m : MW g ad σ τ C) (hI : Inv σ) (hi : i < σ.nfl) : Cr l g yX8_isFile cX8_isFile 2 (some .boolean) 2 [.ref (ad 20), .int (nI i)] ad C (.int (bI (lv σ i))) := by
  obtain ⟨f20, f21, f22, f23, f24, f25, f26, f27, f28, f29, f30, f31, f32, f33, f34, f35, f36, f37, f38⟩ := id m
  obtain ⟨hf1, hf2, hfl, hnn, hnm, hno, hc1, hc2⟩ := id hI.le
  have hle := nms_le σ i
  refine Ct_of [some (.ref (ad 20)), some (.int (nI i))] (by decide) rfl rfl (Nat.le_of_ble_eq_true rfl) rfl rfl (fun X hX h => ?_)
  subst hX
  refine j_iload1 (pc := 0) h dX8_isFile_0 ?_
  refine j_iconst (pc := 1) h dX8_isFile_1 ic_0 ?_
  refine j_aload0 (pc := 2) h dX8_isFile_2 ?_
  refine j_getf (pc := 3) h dX8_isFile_3 (f20) fl_X8_91 rfl ?_
  refine j_iconst (pc := 6) h dX8_isFile_6 ic_1 ?_
  refine j_isub (pc := 7) h dX8_isFile_7 ?_
  refine j_callSr (pc := 8) h dX8_isFile_8 (k_X8_in) ms_X8_73 rfl rfl (by decide) (Nat.le_of_ble_eq_true rfl) (Nat.le_of_ble_eq_true rfl) (Nat.le_of_ble_eq_true rfl) ?_
  refine j_if_eqB (pc := 11) (tgt := 26) h dX8_isFile_11 (by decide) (fun c11 => absurd c11 (by rw [rng_n (by omega), inN_nI (by omega)]; simp; omega)) (fun c11 => ?_)
  refine j_aload0 (pc := 14) h dX8_isFile_14 ?_
  refine j_iload1 (pc := 15) h dX8_isFile_15 ?_
  refine j_callVr (pc := 16) h dX8_isFile_16 (k_X8_namesOf m hI hi) mv_X8_94 (f20) rfl rfl (by decide) (Nat.le_of_ble_eq_true rfl) (Nat.le_of_ble_eq_true rfl) (Nat.le_of_ble_eq_true rfl) ?_
  refine j_if_le (pc := 19) (tgt := 26) h dX8_isFile_19 (by decide) (fun c19 => ?_) (fun c19 => ?_)
  · refine j_iconst (pc := 26) h dX8_isFile_26 ic_0 ?_
    refine j_zretr (pc := 27) h dX8_isFile_27 (by decide) (bI_f (by have := nI_le_of (b := 0) c19 (by omega) (by omega); simp [lv]; omega))
  · refine j_iconst (pc := 22) h dX8_isFile_22 ic_1 ?_
    refine j_goto (pc := 23) (tgt := 27) h dX8_isFile_23 (by decide) ?_
    refine j_zretr (pc := 27) h dX8_isFile_27 (by decide) (bI_t (by have : ¬ nms σ i ≤ 0 := (fun q => c19 (nI_le (b := 0) q (by decide))); simp [lv]; omega))
theorem k_X8_of_no {x : Int32} (m : MW g ad σ τ C) (hI : Inv σ) (hx : inN x σ.nn = false) : Cr l g yX8_of cX8_of 2 (some .int) 2 [.ref (ad 20), .int x] ad C (.int (-1)) := by
  obtain ⟨f20, f21, f22, f23, f24, f25, f26, f27, f28, f29, f30, f31, f32, f33, f34, f35, f36, f37, f38⟩ := id m
  obtain ⟨hf1, hf2, hfl, hnn, hnm, hno, hc1, hc2⟩ := id hI.le
  refine Ct_of [some (.ref (ad 20)), some (.int x)] (by decide) rfl rfl (Nat.le_of_ble_eq_true rfl) rfl rfl (fun X hX h => ?_)
  subst hX
  refine j_iload1 (pc := 0) h dX8_of_0 ?_
  refine j_iconst (pc := 1) h dX8_of_1 ic_0 ?_
  refine j_aload0 (pc := 2) h dX8_of_2 ?_
  refine j_getf (pc := 3) h dX8_of_3 (f20) fl_X8_88 rfl ?_
  refine j_iconst (pc := 6) h dX8_of_6 ic_1 ?_
  refine j_isub (pc := 7) h dX8_of_7 ?_
  refine j_callSr (pc := 8) h dX8_of_8 (k_X8_in) ms_X8_73 rfl rfl (by decide) (Nat.le_of_ble_eq_true rfl) (Nat.le_of_ble_eq_true rfl) (Nat.le_of_ble_eq_true rfl) ?_
  refine j_if_eqB (pc := 11) (tgt := 32) h dX8_of_11 (by decide) (fun c11 => ?_) (fun c11 => absurd c11 (by rw [rng_n (by omega), hx]; decide))
  refine j_iconst (pc := 32) h dX8_of_32 ic_m1 ?_
  refine j_iretr (pc := 33) h dX8_of_33 (rfl)
theorem k_X8_of {k : Nat} (m : MW g ad σ τ C) (hI : Inv σ) (hk : k < σ.nn) : Cr l g yX8_of cX8_of 2 (some .int) 2 [.ref (ad 20), .int (nI k)] ad C (.int (if σ.tb k = true then nI (σ.fl k) else -1)) := by
  obtain ⟨f20, f21, f22, f23, f24, f25, f26, f27, f28, f29, f30, f31, f32, f33, f34, f35, f36, f37, f38⟩ := id m
  obtain ⟨hf1, hf2, hfl, hnn, hnm, hno, hc1, hc2⟩ := id hI.le
  refine Ct_of [some (.ref (ad 20)), some (.int (nI k))] (by decide) rfl rfl (Nat.le_of_ble_eq_true rfl) rfl rfl (fun X hX h => ?_)
  subst hX
  refine j_iload1 (pc := 0) h dX8_of_0 ?_
  refine j_iconst (pc := 1) h dX8_of_1 ic_0 ?_
  refine j_aload0 (pc := 2) h dX8_of_2 ?_
  refine j_getf (pc := 3) h dX8_of_3 (f20) fl_X8_88 rfl ?_
  refine j_iconst (pc := 6) h dX8_of_6 ic_1 ?_
  refine j_isub (pc := 7) h dX8_of_7 ?_
  refine j_callSr (pc := 8) h dX8_of_8 (k_X8_in) ms_X8_73 rfl rfl (by decide) (Nat.le_of_ble_eq_true rfl) (Nat.le_of_ble_eq_true rfl) (Nat.le_of_ble_eq_true rfl) ?_
  refine j_if_eqB (pc := 11) (tgt := 32) h dX8_of_11 (by decide) (fun c11 => absurd c11 (by rw [rng_n (by omega), inN_nI (by omega)]; simp; omega)) (fun c11 => ?_)
  refine j_aload0 (pc := 14) h dX8_of_14 ?_
  refine j_getf (pc := 15) h dX8_of_15 (f20) fl_X8_45 rfl ?_
  refine j_iload1 (pc := 18) h dX8_of_18 ?_
  refine j_zald (pc := 19) h dX8_of_19 (f31) (by omega) (by decide) ?_
  refine j_if_eq (pc := 20) (tgt := 32) h dX8_of_20 (by decide) (fun c20 => ?_) (fun c20 => ?_)
  · refine j_iconst (pc := 32) h dX8_of_32 ic_m1 ?_
    refine j_iretr (pc := 33) h dX8_of_33 (by rw [if_neg (by rw [bI_0.mp c20]; decide)])
  · refine j_aload0 (pc := 23) h dX8_of_23 ?_
    refine j_getf (pc := 24) h dX8_of_24 (f20) fl_X8_39 rfl ?_
    refine j_iload1 (pc := 27) h dX8_of_27 ?_
    refine j_iald (pc := 28) h dX8_of_28 (f29) (by omega) (by decide) ?_
    refine j_goto (pc := 29) (tgt := 33) h dX8_of_29 (by decide) ?_
    refine j_iretr (pc := 33) h dX8_of_33 (by rw [if_pos (bI_n0 c20)])
theorem k_X8_blocksOf_g {i : Nat} (m : MW g ad σ τ C) (hI : Inv σ) (hi : i < σ.nfl) (hl : lv σ i = false) : Cr l g yX8_blocksOf cX8_blocksOf 5 (some .long) 2 [.ref (ad 20), .int (nI i)] ad C (.long 0) := by
  obtain ⟨f20, f21, f22, f23, f24, f25, f26, f27, f28, f29, f30, f31, f32, f33, f34, f35, f36, f37, f38⟩ := id m
  obtain ⟨hf1, hf2, hfl, hnn, hnm, hno, hc1, hc2⟩ := id hI.le
  have hle := nms_le σ i
  have hz : nms σ i = 0 := by simp [lv] at hl; omega
  refine Ct_of [some (.ref (ad 20)), some (.int (nI i)), none, none, none] (by decide) rfl rfl (Nat.le_of_ble_eq_true rfl) rfl rfl (fun X hX h => ?_)
  subst hX
  refine j_lconst (pc := 0) h dX8_blocksOf_0 lc_0 ?_
  refine j_lstore2 (pc := 1) h dX8_blocksOf_1 rfl ?_
  refine j_iconst (pc := 2) h dX8_blocksOf_2 ic_0 ?_
  refine j_istore4 (pc := 3) h dX8_blocksOf_3 rfl ?_
  refine j_iload4 (pc := 5) h dX8_blocksOf_5 ?_
  refine j_aload0 (pc := 7) h dX8_blocksOf_7 ?_
  refine j_getf (pc := 8) h dX8_blocksOf_8 (f20) fl_X8_24 rfl ?_
  refine j_iload1 (pc := 11) h dX8_blocksOf_11 ?_
  refine j_iald (pc := 12) h dX8_blocksOf_12 (f24) (by omega) (by decide) ?_
  refine j_icmp_ge (pc := 13) (tgt := 63) h dX8_blocksOf_13 (by decide) (fun c13 => ?_) (fun c13 => ?_)
  · refine j_lload2 (pc := 63) h dX8_blocksOf_63 ?_
    refine j_lretr (pc := 64) h dX8_blocksOf_64 (rfl)
  · refine j_aload0 (pc := 16) h dX8_blocksOf_16 ?_
    refine j_iload1 (pc := 17) h dX8_blocksOf_17 ?_
    refine j_callVr (pc := 18) h dX8_blocksOf_18 (k_X8_namesOf m hI hi) mv_X8_94 (f20) rfl rfl (by decide) (Nat.le_of_ble_eq_true rfl) (Nat.le_of_ble_eq_true rfl) (Nat.le_of_ble_eq_true rfl) ?_
    refine j_if_le (pc := 21) (tgt := 63) h dX8_blocksOf_21 (by decide) (fun c21 => ?_) (fun c21 => absurd (by rw [hz]; decide) c21)
    refine j_lload2 (pc := 63) h dX8_blocksOf_63 ?_
    refine j_lretr (pc := 64) h dX8_blocksOf_64 (rfl)
theorem k_X8_blocksOf_l {i : Nat} (m : MW g ad σ τ C) (hI : Inv σ) (hi : i < σ.nfl) (hl : lv σ i = true) : Cr l g yX8_blocksOf cX8_blocksOf 5 (some .long) 2 [.ref (ad 20), .int (nI i)] ad C (.long (bkS σ i)) := by
  obtain ⟨f20, f21, f22, f23, f24, f25, f26, f27, f28, f29, f30, f31, f32, f33, f34, f35, f36, f37, f38⟩ := id m
  obtain ⟨hf1, hf2, hfl, hnn, hnm, hno, hc1, hc2⟩ := id hI.le
  have hle := nms_le σ i
  have hz : 0 < nms σ i := by simpa [lv] using hl
  have hln := (hI.fil i hi).1
  refine Ct_of [some (.ref (ad 20)), some (.int (nI i)), none, none, none] (by decide) rfl rfl (Nat.le_of_ble_eq_true rfl) rfl rfl (fun X hX h => ?_)
  subst hX
  have lp : ∀ n p, p + n = σ.ln i → J X g 5 (QR X g ad C (.long (bkS σ i))) 0 0 ad C 5 [some (.ref (ad 20)), some (.int (nI i)), some (.long (orr (fun p => bO (σ.rb (60 * i + p))) p)), none, some (.int (nI p))] [] := by
    intro n
    induction n with
    | zero =>
      intro p hp
      refine j_iload4 (pc := 5) h dX8_blocksOf_5 ?_
      refine j_aload0 (pc := 7) h dX8_blocksOf_7 ?_
      refine j_getf (pc := 8) h dX8_blocksOf_8 (f20) fl_X8_24 rfl ?_
      refine j_iload1 (pc := 11) h dX8_blocksOf_11 ?_
      refine j_iald (pc := 12) h dX8_blocksOf_12 (f24) (by omega) (by decide) ?_
      refine j_icmp_ge (pc := 13) (tgt := 63) h dX8_blocksOf_13 (by decide) (fun c13 => ?_) (fun c13 => absurd (nI_le (by omega) (by omega)) c13)
      refine j_lload2 (pc := 63) h dX8_blocksOf_63 ?_
      refine j_lretr (pc := 64) h dX8_blocksOf_64 (by rw [show p = σ.ln i by omega]; rfl)
    | succ n ih =>
      intro p hp
      cases hr : σ.rb (60 * i + p) with
      | none =>
        refine j_iload4 (pc := 5) h dX8_blocksOf_5 ?_
        refine j_aload0 (pc := 7) h dX8_blocksOf_7 ?_
        refine j_getf (pc := 8) h dX8_blocksOf_8 (f20) fl_X8_24 rfl ?_
        refine j_iload1 (pc := 11) h dX8_blocksOf_11 ?_
        refine j_iald (pc := 12) h dX8_blocksOf_12 (f24) (by omega) (by decide) ?_
        refine j_icmp_ge (pc := 13) (tgt := 63) h dX8_blocksOf_13 (by decide) (fun c13 => absurd c13 (nI_ge (by omega) (by omega))) (fun c13 => ?_)
        refine j_aload0 (pc := 16) h dX8_blocksOf_16 ?_
        refine j_iload1 (pc := 17) h dX8_blocksOf_17 ?_
        refine j_callVr (pc := 18) h dX8_blocksOf_18 (k_X8_namesOf m hI hi) mv_X8_94 (f20) rfl rfl (by decide) (Nat.le_of_ble_eq_true rfl) (Nat.le_of_ble_eq_true rfl) (Nat.le_of_ble_eq_true rfl) ?_
        refine j_if_le (pc := 21) (tgt := 63) h dX8_blocksOf_21 (by decide) (fun c21 => absurd c21 (nI_nle hz (by omega))) (fun c21 => ?_)
        refine j_aload0 (pc := 24) h dX8_blocksOf_24 ?_
        refine j_getf (pc := 25) h dX8_blocksOf_25 (f20) fl_X8_27 rfl ?_
        refine j_bipush (pc := 28) h dX8_blocksOf_28 bp_60 ?_
        refine j_iload1 (pc := 30) h dX8_blocksOf_30 ?_
        refine j_imulN (pc := 31) h dX8_blocksOf_31 ?_
        refine j_iload4 (pc := 32) h dX8_blocksOf_32 ?_
        refine j_iaddN (pc := 34) h dX8_blocksOf_34 ?_
        refine j_iald (pc := 35) h dX8_blocksOf_35 (f25) (by omega) (by decide) ?_
        refine j_iconst (pc := 36) h dX8_blocksOf_36 ic_m1 ?_
        refine j_icmp_eq (pc := 37) (tgt := 57) h dX8_blocksOf_37 (by decide) (fun c37 => ?_) (fun c37 => absurd (by rw [hr]; rfl) c37)
        refine j_iinc4 (pc := 57) h dX8_blocksOf_57 rfl (inc_n _) ?_
        refine j_goto (pc := 60) (tgt := 5) h dX8_blocksOf_60 (by decide) ?_
        rw [show orr (fun p => bO (σ.rb (60 * i + p))) p = orr (fun p => bO (σ.rb (60 * i + p))) (p + 1) from orr_no (by rw [hr]; rfl)]
        exact ih (p + 1) (by omega)
      | some b =>
        have hb := hI.blk _ b hr
        refine j_iload4 (pc := 5) h dX8_blocksOf_5 ?_
        refine j_aload0 (pc := 7) h dX8_blocksOf_7 ?_
        refine j_getf (pc := 8) h dX8_blocksOf_8 (f20) fl_X8_24 rfl ?_
        refine j_iload1 (pc := 11) h dX8_blocksOf_11 ?_
        refine j_iald (pc := 12) h dX8_blocksOf_12 (f24) (by omega) (by decide) ?_
        refine j_icmp_ge (pc := 13) (tgt := 63) h dX8_blocksOf_13 (by decide) (fun c13 => absurd c13 (nI_ge (by omega) (by omega))) (fun c13 => ?_)
        refine j_aload0 (pc := 16) h dX8_blocksOf_16 ?_
        refine j_iload1 (pc := 17) h dX8_blocksOf_17 ?_
        refine j_callVr (pc := 18) h dX8_blocksOf_18 (k_X8_namesOf m hI hi) mv_X8_94 (f20) rfl rfl (by decide) (Nat.le_of_ble_eq_true rfl) (Nat.le_of_ble_eq_true rfl) (Nat.le_of_ble_eq_true rfl) ?_
        refine j_if_le (pc := 21) (tgt := 63) h dX8_blocksOf_21 (by decide) (fun c21 => absurd c21 (nI_nle hz (by omega))) (fun c21 => ?_)
        refine j_aload0 (pc := 24) h dX8_blocksOf_24 ?_
        refine j_getf (pc := 25) h dX8_blocksOf_25 (f20) fl_X8_27 rfl ?_
        refine j_bipush (pc := 28) h dX8_blocksOf_28 bp_60 ?_
        refine j_iload1 (pc := 30) h dX8_blocksOf_30 ?_
        refine j_imulN (pc := 31) h dX8_blocksOf_31 ?_
        refine j_iload4 (pc := 32) h dX8_blocksOf_32 ?_
        refine j_iaddN (pc := 34) h dX8_blocksOf_34 ?_
        refine j_iald (pc := 35) h dX8_blocksOf_35 (f25) (by omega) (by decide) ?_
        refine j_iconst (pc := 36) h dX8_blocksOf_36 ic_m1 ?_
        refine j_icmp_eq (pc := 37) (tgt := 57) h dX8_blocksOf_37 (by decide) (fun c37 => absurd c37 (by rw [hr]; exact nI_m1 (by omega))) (fun c37 => ?_)
        refine j_lload2 (pc := 40) h dX8_blocksOf_40 ?_
        refine j_lconst (pc := 41) h dX8_blocksOf_41 lc_1 ?_
        refine j_aload0 (pc := 42) h dX8_blocksOf_42 ?_
        refine j_getf (pc := 43) h dX8_blocksOf_43 (f20) fl_X8_27 rfl ?_
        refine j_bipush (pc := 46) h dX8_blocksOf_46 bp_60 ?_
        refine j_iload1 (pc := 48) h dX8_blocksOf_48 ?_
        refine j_imulN (pc := 49) h dX8_blocksOf_49 ?_
        refine j_iload4 (pc := 50) h dX8_blocksOf_50 ?_
        refine j_iaddN (pc := 52) h dX8_blocksOf_52 ?_
        refine j_iald (pc := 53) h dX8_blocksOf_53 (f25) (by omega) (by decide) ?_
        refine j_lshl (pc := 54) h dX8_blocksOf_54 ?_
        refine j_lor (pc := 55) h dX8_blocksOf_55 ?_
        refine j_lstore2 (pc := 56) h dX8_blocksOf_56 rfl ?_
        refine j_iinc4 (pc := 57) h dX8_blocksOf_57 rfl (inc_n _) ?_
        refine j_goto (pc := 60) (tgt := 5) h dX8_blocksOf_60 (by decide) ?_
        rw [show orr (fun p => bO (σ.rb (60 * i + p))) p ||| (1 <<< ((rI (σ.rb (60 * i + p))).toInt64 &&& 63)) = orr (fun p => bO (σ.rb (60 * i + p))) (p + 1) from by rw [orr, hr]; rfl]
        exact ih (p + 1) (by omega)
  refine j_lconst (pc := 0) h dX8_blocksOf_0 lc_0 ?_
  refine j_lstore2 (pc := 1) h dX8_blocksOf_1 rfl ?_
  refine j_iconst (pc := 2) h dX8_blocksOf_2 ic_0 ?_
  refine j_istore4 (pc := 3) h dX8_blocksOf_3 rfl ?_
  exact lp (σ.ln i) 0 (by omega)
theorem k_X8_blocksOf {i : Nat} (m : MW g ad σ τ C) (hI : Inv σ) (hi : i < σ.nfl) : Cr l g yX8_blocksOf cX8_blocksOf 5 (some .long) 2 [.ref (ad 20), .int (nI i)] ad C (.long (bk σ i)) := by
  cases hl : lv σ i with
  | false => rw [show bk σ i = 0 from by rw [bk, hl]; rfl]; exact k_X8_blocksOf_g m hI hi hl
  | true => rw [show bk σ i = bkS σ i from by rw [bk, hl]; rfl]; exact k_X8_blocksOf_l m hI hi hl
theorem k_X8_shots {x : Int32} (m : MW g ad σ τ C) (hI : Inv σ) : Cr l g yX8_shots cX8_shots 5 (some .long) 1 [.ref (ad 20), .int x] ad C (.long (shS σ x)) := by
  obtain ⟨f20, f21, f22, f23, f24, f25, f26, f27, f28, f29, f30, f31, f32, f33, f34, f35, f36, f37, f38⟩ := id m
  obtain ⟨hf1, hf2, hfl, hnn, hnm, hno, hc1, hc2⟩ := id hI.le
  refine Ct_of [some (.ref (ad 20)), some (.int x), none, none, none] (by decide) rfl rfl (Nat.le_of_ble_eq_true rfl) rfl rfl (fun X hX h => ?_)
  subst hX
  have lp : ∀ n i, i + n = 8 → J X g 5 (QR X g ad C (.long (shS σ x))) 0 0 ad C 5 [some (.ref (ad 20)), some (.int x), some (.long (orr (shF σ.sb σ.sh x) i)), none, some (.int (nI i))] [] := by
    intro n
    induction n with
    | zero =>
      intro i hi
      refine j_iload4 (pc := 5) h dX8_shots_5 ?_
      refine j_bipush (pc := 7) h dX8_shots_7 bp_8 ?_
      refine j_icmp_ge (pc := 9) (tgt := 44) h dX8_shots_9 (by decide) (fun c9 => ?_) (fun c9 => absurd (nI_le (by omega) (by omega)) c9)
      refine j_lload2 (pc := 44) h dX8_shots_44 ?_
      refine j_lretr (pc := 45) h dX8_shots_45 (by rw [show i = 8 by omega]; rfl)
    | succ n ih =>
      intro i hi
      refine j_iload4 (pc := 5) h dX8_shots_5 ?_
      refine j_bipush (pc := 7) h dX8_shots_7 bp_8 ?_
      refine j_icmp_ge (pc := 9) (tgt := 44) h dX8_shots_9 (by decide) (fun c9 => absurd c9 (nI_ge (by omega) (by omega))) (fun c9 => ?_)
      refine j_aload0 (pc := 12) h dX8_shots_12 ?_
      refine j_getf (pc := 13) h dX8_shots_13 (f20) fl_X8_48 rfl ?_
      refine j_iload4 (pc := 16) h dX8_shots_16 ?_
      refine j_zald (pc := 18) h dX8_shots_18 (f32) (by omega) (by decide) ?_
      refine j_if_eq (pc := 19) (tgt := 38) h dX8_shots_19 (by decide) (fun c19 => ?_) (fun c19 => ?_)
      · refine j_iinc4 (pc := 38) h dX8_shots_38 rfl (inc_n _) ?_
        refine j_goto (pc := 41) (tgt := 5) h dX8_shots_41 (by decide) ?_
        rw [show orr (shF σ.sb σ.sh x) i = orr (shF σ.sb σ.sh x) (i + 1) from orr_no (by simp [shF, bI_0.mp c19])]
        exact ih (i + 1) (by omega)
      · refine j_iload4 (pc := 22) h dX8_shots_22 ?_
        refine j_iload1 (pc := 24) h dX8_shots_24 ?_
        refine j_icmp_eq (pc := 25) (tgt := 38) h dX8_shots_25 (by decide) (fun c25 => ?_) (fun c25 => ?_)
        · refine j_iinc4 (pc := 38) h dX8_shots_38 rfl (inc_n _) ?_
          refine j_goto (pc := 41) (tgt := 5) h dX8_shots_41 (by decide) ?_
          rw [show orr (shF σ.sb σ.sh x) i = orr (shF σ.sb σ.sh x) (i + 1) from orr_no (by simp [shF, c25])]
          exact ih (i + 1) (by omega)
        · refine j_lload2 (pc := 28) h dX8_shots_28 ?_
          refine j_aload0 (pc := 29) h dX8_shots_29 ?_
          refine j_getf (pc := 30) h dX8_shots_30 (f20) fl_X8_51 rfl ?_
          refine j_iload4 (pc := 33) h dX8_shots_33 ?_
          refine j_lald (pc := 35) h dX8_shots_35 (f33) (by omega) (by decide) ?_
          refine j_lor (pc := 36) h dX8_shots_36 ?_
          refine j_lstore2 (pc := 37) h dX8_shots_37 rfl ?_
          refine j_iinc4 (pc := 38) h dX8_shots_38 rfl (inc_n _) ?_
          refine j_goto (pc := 41) (tgt := 5) h dX8_shots_41 (by decide) ?_
          rw [show orr (shF σ.sb σ.sh x) i ||| σ.sh i = orr (shF σ.sb σ.sh x) (i + 1) from by rw [orr, shF]; simp [bI_n0 c19, c25]]
          exact ih (i + 1) (by omega)
  refine j_lconst (pc := 0) h dX8_shots_0 lc_0 ?_
  refine j_lstore2 (pc := 1) h dX8_shots_1 rfl ?_
  refine j_iconst (pc := 2) h dX8_shots_2 ic_0 ?_
  refine j_istore4 (pc := 3) h dX8_shots_3 rfl ?_
  exact lp 8 0 (by omega)
theorem k_X8_allFiles (m : MW g ad σ τ C) (hI : Inv σ) : Cr l g yX8_allFiles cX8_allFiles 4 (some .long) 3 [.ref (ad 20)] ad C (.long (allS σ)) := by
  obtain ⟨f20, f21, f22, f23, f24, f25, f26, f27, f28, f29, f30, f31, f32, f33, f34, f35, f36, f37, f38⟩ := id m
  obtain ⟨hf1, hf2, hfl, hnn, hnm, hno, hc1, hc2⟩ := id hI.le
  refine Ct_of [some (.ref (ad 20)), none, none, none] (by decide) rfl rfl (Nat.le_of_ble_eq_true rfl) rfl rfl (fun X hX h => ?_)
  subst hX
  have lp : ∀ n i, i + n = σ.nfl → J X g 4 (QR X g ad C (.long (allS σ))) 0 0 ad C 4 [some (.ref (ad 20)), some (.long (orr (bk σ) i)), none, some (.int (nI i))] [] := by
    intro n
    induction n with
    | zero =>
      intro i hi
      refine j_iload3 (pc := 4) h dX8_allFiles_4 ?_
      refine j_aload0 (pc := 5) h dX8_allFiles_5 ?_
      refine j_getf (pc := 6) h dX8_allFiles_6 (f20) fl_X8_91 rfl ?_
      refine j_icmp_ge (pc := 9) (tgt := 26) h dX8_allFiles_9 (by decide) (fun c9 => ?_) (fun c9 => absurd (nI_le (by omega) (by omega)) c9)
      refine j_lload1 (pc := 26) h dX8_allFiles_26 ?_
      refine j_lretr (pc := 27) h dX8_allFiles_27 (by rw [show i = σ.nfl by omega]; rfl)
    | succ n ih =>
      intro i hi
      refine j_iload3 (pc := 4) h dX8_allFiles_4 ?_
      refine j_aload0 (pc := 5) h dX8_allFiles_5 ?_
      refine j_getf (pc := 6) h dX8_allFiles_6 (f20) fl_X8_91 rfl ?_
      refine j_icmp_ge (pc := 9) (tgt := 26) h dX8_allFiles_9 (by decide) (fun c9 => absurd c9 (nI_ge (by omega) (by omega))) (fun c9 => ?_)
      refine j_lload1 (pc := 12) h dX8_allFiles_12 ?_
      refine j_aload0 (pc := 13) h dX8_allFiles_13 ?_
      refine j_iload3 (pc := 14) h dX8_allFiles_14 ?_
      refine j_callVr (pc := 15) h dX8_allFiles_15 (k_X8_blocksOf m hI (by omega)) mv_X8_112 (f20) rfl rfl (by decide) (Nat.le_of_ble_eq_true rfl) (Nat.le_of_ble_eq_true rfl) (Nat.le_of_ble_eq_true rfl) ?_
      refine j_lor (pc := 18) h dX8_allFiles_18 ?_
      refine j_lstore1 (pc := 19) h dX8_allFiles_19 rfl ?_
      refine j_iinc3 (pc := 20) h dX8_allFiles_20 rfl (inc_n _) ?_
      refine j_goto (pc := 23) (tgt := 4) h dX8_allFiles_23 (by decide) ?_
      exact ih (i + 1) (by omega)
  refine j_lconst (pc := 0) h dX8_allFiles_0 lc_0 ?_
  refine j_lstore1 (pc := 1) h dX8_allFiles_1 rfl ?_
  refine j_iconst (pc := 2) h dX8_allFiles_2 ic_0 ?_
  refine j_istore3 (pc := 3) h dX8_allFiles_3 rfl ?_
  exact lp σ.nfl 0 (by omega)
theorem k_X8_isPlace_no {x y : Int32} (m : MW g ad σ τ C) (hI : Inv σ) (hx : inN x σ.nfl = false) : Cr l g yX8_isPlace cX8_isPlace 3 (some .boolean) 3 [.ref (ad 20), .int x, .int y] ad C (.int (bI false)) := by
  refine Ct_of [some (.ref (ad 20)), some (.int x), some (.int y)] (by decide) rfl rfl (Nat.le_of_ble_eq_true rfl) rfl rfl (fun X hX h => ?_)
  subst hX
  refine j_aload0 (pc := 0) h dX8_isPlace_0 ?_
  refine j_iload1 (pc := 1) h dX8_isPlace_1 ?_
  refine j_callVr (pc := 2) h dX8_isPlace_2 (k_X8_isFile_no m hI hx) mv_X8_109 (m.1) rfl rfl (by decide) (Nat.le_of_ble_eq_true rfl) (Nat.le_of_ble_eq_true rfl) (Nat.le_of_ble_eq_true rfl) ?_
  refine j_if_eqB (pc := 5) (tgt := 42) h dX8_isPlace_5 (by decide) (fun c5 => ?_) (fun c5 => absurd c5 (by decide))
  refine j_iconst (pc := 42) h dX8_isPlace_42 ic_0 ?_
  refine j_zretr (pc := 43) h dX8_isPlace_43 (by decide) (rfl)
theorem k_X8_isPlace {i : Nat} {y : Int32} (m : MW g ad σ τ C) (hI : Inv σ) (hi : i < σ.nfl) : Cr l g yX8_isPlace cX8_isPlace 3 (some .boolean) 3 [.ref (ad 20), .int (nI i), .int y] ad C (.int (bI (lv σ i && inN y (cpl (σ.ln i))))) := by
  obtain ⟨f20, f21, f22, f23, f24, f25, f26, f27, f28, f29, f30, f31, f32, f33, f34, f35, f36, f37, f38⟩ := id m
  obtain ⟨hf1, hf2, hfl, hnn, hnm, hno, hc1, hc2⟩ := id hI.le
  have hln := (hI.fil i hi).1
  refine Ct_of [some (.ref (ad 20)), some (.int (nI i)), some (.int y)] (by decide) rfl rfl (Nat.le_of_ble_eq_true rfl) rfl rfl (fun X hX h => ?_)
  subst hX
  refine j_aload0 (pc := 0) h dX8_isPlace_0 ?_
  refine j_iload1 (pc := 1) h dX8_isPlace_1 ?_
  refine j_callVr (pc := 2) h dX8_isPlace_2 (k_X8_isFile m hI hi) mv_X8_109 (f20) rfl rfl (by decide) (Nat.le_of_ble_eq_true rfl) (Nat.le_of_ble_eq_true rfl) (Nat.le_of_ble_eq_true rfl) ?_
  refine j_if_eqB (pc := 5) (tgt := 42) h dX8_isPlace_5 (by decide) (fun c5 => ?_) (fun c5 => ?_)
  · refine j_iconst (pc := 42) h dX8_isPlace_42 ic_0 ?_
    refine j_zretr (pc := 43) h dX8_isPlace_43 (by decide) (bI_f (by rw [c5]; rfl))
  · refine j_iload2 (pc := 8) h dX8_isPlace_8 ?_
    refine j_iconst (pc := 9) h dX8_isPlace_9 ic_0 ?_
    refine j_aload0 (pc := 10) h dX8_isPlace_10 ?_
    refine j_getf (pc := 11) h dX8_isPlace_11 (f20) fl_X8_24 rfl ?_
    refine j_iload1 (pc := 14) h dX8_isPlace_14 ?_
    refine j_iald (pc := 15) h dX8_isPlace_15 (f24) (by omega) (by decide) ?_
    refine j_bipush (pc := 16) h dX8_isPlace_16 bp_60 ?_
    refine j_icmp_ge (pc := 18) (tgt := 30) h dX8_isPlace_18 (by decide) (fun c18 => ?_) (fun c18 => ?_)
    · have hl : σ.ln i = 60 := by have := nI_le_of c18 (by omega) (by omega); omega
      have hc : cpl (σ.ln i) = 59 + 1 := by rw [hl]; rfl
      refine j_bipush (pc := 30) h dX8_isPlace_30 bp_59 ?_
      refine j_callSr (pc := 32) h dX8_isPlace_32 (k_X8_in) ms_X8_73 rfl rfl (by decide) (Nat.le_of_ble_eq_true rfl) (Nat.le_of_ble_eq_true rfl) (Nat.le_of_ble_eq_true rfl) ?_
      refine j_if_eqB (pc := 35) (tgt := 42) h dX8_isPlace_35 (by decide) (fun c35 => ?_) (fun c35 => ?_)
      · refine j_iconst (pc := 42) h dX8_isPlace_42 ic_0 ?_
        refine j_zretr (pc := 43) h dX8_isPlace_43 (by decide) (bI_f (by rw [hc, ← rng_m (by omega), c35]; simp))
      · refine j_iconst (pc := 38) h dX8_isPlace_38 ic_1 ?_
        refine j_goto (pc := 39) (tgt := 43) h dX8_isPlace_39 (by decide) ?_
        refine j_zretr (pc := 43) h dX8_isPlace_43 (by decide) (bI_t (by rw [hc, ← rng_m (by omega), c35, c5]; rfl))
    · have hl : σ.ln i < 60 := nI_lt' c18 (by omega)
      have hc : cpl (σ.ln i) = σ.ln i + 1 := by unfold cpl; rw [if_pos hl]
      refine j_aload0 (pc := 21) h dX8_isPlace_21 ?_
      refine j_getf (pc := 22) h dX8_isPlace_22 (f20) fl_X8_24 rfl ?_
      refine j_iload1 (pc := 25) h dX8_isPlace_25 ?_
      refine j_iald (pc := 26) h dX8_isPlace_26 (f24) (by omega) (by decide) ?_
      refine j_goto (pc := 27) (tgt := 32) h dX8_isPlace_27 (by decide) ?_
      refine j_callSr (pc := 32) h dX8_isPlace_32 (k_X8_in) ms_X8_73 rfl rfl (by decide) (Nat.le_of_ble_eq_true rfl) (Nat.le_of_ble_eq_true rfl) (Nat.le_of_ble_eq_true rfl) ?_
      refine j_if_eqB (pc := 35) (tgt := 42) h dX8_isPlace_35 (by decide) (fun c35 => ?_) (fun c35 => ?_)
      · refine j_iconst (pc := 42) h dX8_isPlace_42 ic_0 ?_
        refine j_zretr (pc := 43) h dX8_isPlace_43 (by decide) (bI_f (by rw [hc, ← rng_m (by omega), c35]; simp))
      · refine j_iconst (pc := 38) h dX8_isPlace_38 ic_1 ?_
        refine j_goto (pc := 39) (tgt := 43) h dX8_isPlace_39 (by decide) ?_
        refine j_zretr (pc := 43) h dX8_isPlace_43 (by decide) (bI_t (by rw [hc, ← rng_m (by omega), c35, c5]; rfl))
theorem k_X8_block_no {x y : Int32} (m : MW g ad σ τ C) (hI : Inv σ) (hx : inN x σ.nfl = false) : Cr l g yX8_block cX8_block 3 (some .int) 3 [.ref (ad 20), .int x, .int y] ad C (.int (-1)) := by
  refine Ct_of [some (.ref (ad 20)), some (.int x), some (.int y)] (by decide) rfl rfl (Nat.le_of_ble_eq_true rfl) rfl rfl (fun X hX h => ?_)
  subst hX
  refine j_aload0 (pc := 0) h dX8_block_0 ?_
  refine j_iload1 (pc := 1) h dX8_block_1 ?_
  refine j_callVr (pc := 2) h dX8_block_2 (k_X8_isFile_no m hI hx) mv_X8_109 (m.1) rfl rfl (by decide) (Nat.le_of_ble_eq_true rfl) (Nat.le_of_ble_eq_true rfl) (Nat.le_of_ble_eq_true rfl) ?_
  refine j_if_eqB (pc := 5) (tgt := 38) h dX8_block_5 (by decide) (fun c5 => ?_) (fun c5 => absurd c5 (by decide))
  refine j_iconst (pc := 38) h dX8_block_38 ic_m1 ?_
  refine j_iretr (pc := 39) h dX8_block_39 (rfl)
theorem k_X8_block_n {i : Nat} {y : Int32} (m : MW g ad σ τ C) (hI : Inv σ) (hi : i < σ.nfl) (hh : (lv σ i && inN y (σ.ln i)) = false) : Cr l g yX8_block cX8_block 3 (some .int) 3 [.ref (ad 20), .int (nI i), .int y] ad C (.int (-1)) := by
  obtain ⟨f20, f21, f22, f23, f24, f25, f26, f27, f28, f29, f30, f31, f32, f33, f34, f35, f36, f37, f38⟩ := id m
  obtain ⟨hf1, hf2, hfl, hnn, hnm, hno, hc1, hc2⟩ := id hI.le
  have hln := (hI.fil i hi).1
  refine Ct_of [some (.ref (ad 20)), some (.int (nI i)), some (.int y)] (by decide) rfl rfl (Nat.le_of_ble_eq_true rfl) rfl rfl (fun X hX h => ?_)
  subst hX
  refine j_aload0 (pc := 0) h dX8_block_0 ?_
  refine j_iload1 (pc := 1) h dX8_block_1 ?_
  refine j_callVr (pc := 2) h dX8_block_2 (k_X8_isFile m hI hi) mv_X8_109 (f20) rfl rfl (by decide) (Nat.le_of_ble_eq_true rfl) (Nat.le_of_ble_eq_true rfl) (Nat.le_of_ble_eq_true rfl) ?_
  refine j_if_eqB (pc := 5) (tgt := 38) h dX8_block_5 (by decide) (fun c5 => ?_) (fun c5 => ?_)
  · refine j_iconst (pc := 38) h dX8_block_38 ic_m1 ?_
    refine j_iretr (pc := 39) h dX8_block_39 (rfl)
  · refine j_iload2 (pc := 8) h dX8_block_8 ?_
    refine j_iconst (pc := 9) h dX8_block_9 ic_0 ?_
    refine j_aload0 (pc := 10) h dX8_block_10 ?_
    refine j_getf (pc := 11) h dX8_block_11 (f20) fl_X8_24 rfl ?_
    refine j_iload1 (pc := 14) h dX8_block_14 ?_
    refine j_iald (pc := 15) h dX8_block_15 (f24) (by omega) (by decide) ?_
    refine j_iconst (pc := 16) h dX8_block_16 ic_1 ?_
    refine j_isub (pc := 17) h dX8_block_17 ?_
    refine j_callSr (pc := 18) h dX8_block_18 (k_X8_in) ms_X8_73 rfl rfl (by decide) (Nat.le_of_ble_eq_true rfl) (Nat.le_of_ble_eq_true rfl) (Nat.le_of_ble_eq_true rfl) ?_
    refine j_if_eqB (pc := 21) (tgt := 38) h dX8_block_21 (by decide) (fun c21 => ?_) (fun c21 => absurd c21 (by rw [rng_n (by omega)]; rw [c5] at hh; simpa using hh))
    refine j_iconst (pc := 38) h dX8_block_38 ic_m1 ?_
    refine j_iretr (pc := 39) h dX8_block_39 (rfl)
theorem k_X8_block {i p : Nat} (m : MW g ad σ τ C) (hI : Inv σ) (hi : i < σ.nfl) (hl : lv σ i = true) (hp : p < σ.ln i) : Cr l g yX8_block cX8_block 3 (some .int) 3 [.ref (ad 20), .int (nI i), .int (nI p)] ad C (.int (rI (σ.rb (60 * i + p)))) := by
  obtain ⟨f20, f21, f22, f23, f24, f25, f26, f27, f28, f29, f30, f31, f32, f33, f34, f35, f36, f37, f38⟩ := id m
  obtain ⟨hf1, hf2, hfl, hnn, hnm, hno, hc1, hc2⟩ := id hI.le
  have hln := (hI.fil i hi).1
  refine Ct_of [some (.ref (ad 20)), some (.int (nI i)), some (.int (nI p))] (by decide) rfl rfl (Nat.le_of_ble_eq_true rfl) rfl rfl (fun X hX h => ?_)
  subst hX
  refine j_aload0 (pc := 0) h dX8_block_0 ?_
  refine j_iload1 (pc := 1) h dX8_block_1 ?_
  refine j_callVr (pc := 2) h dX8_block_2 (k_X8_isFile m hI hi) mv_X8_109 (f20) rfl rfl (by decide) (Nat.le_of_ble_eq_true rfl) (Nat.le_of_ble_eq_true rfl) (Nat.le_of_ble_eq_true rfl) ?_
  refine j_if_eqB (pc := 5) (tgt := 38) h dX8_block_5 (by decide) (fun c5 => absurd c5 (by rw [hl]; decide)) (fun c5 => ?_)
  refine j_iload2 (pc := 8) h dX8_block_8 ?_
  refine j_iconst (pc := 9) h dX8_block_9 ic_0 ?_
  refine j_aload0 (pc := 10) h dX8_block_10 ?_
  refine j_getf (pc := 11) h dX8_block_11 (f20) fl_X8_24 rfl ?_
  refine j_iload1 (pc := 14) h dX8_block_14 ?_
  refine j_iald (pc := 15) h dX8_block_15 (f24) (by omega) (by decide) ?_
  refine j_iconst (pc := 16) h dX8_block_16 ic_1 ?_
  refine j_isub (pc := 17) h dX8_block_17 ?_
  refine j_callSr (pc := 18) h dX8_block_18 (k_X8_in) ms_X8_73 rfl rfl (by decide) (Nat.le_of_ble_eq_true rfl) (Nat.le_of_ble_eq_true rfl) (Nat.le_of_ble_eq_true rfl) ?_
  refine j_if_eqB (pc := 21) (tgt := 38) h dX8_block_21 (by decide) (fun c21 => absurd c21 (by rw [rng_n (by omega), inN_nI (by omega)]; simp; omega)) (fun c21 => ?_)
  refine j_aload0 (pc := 24) h dX8_block_24 ?_
  refine j_getf (pc := 25) h dX8_block_25 (f20) fl_X8_27 rfl ?_
  refine j_bipush (pc := 28) h dX8_block_28 bp_60 ?_
  refine j_iload1 (pc := 30) h dX8_block_30 ?_
  refine j_imulN (pc := 31) h dX8_block_31 ?_
  refine j_iload2 (pc := 32) h dX8_block_32 ?_
  refine j_iaddN (pc := 33) h dX8_block_33 ?_
  refine j_iald (pc := 34) h dX8_block_34 (f25) (by omega) (by decide) ?_
  refine j_goto (pc := 35) (tgt := 39) h dX8_block_35 (by decide) ?_
  refine j_iretr (pc := 39) h dX8_block_39 (rfl)
theorem k_X8_isIn {i t : Nat} (m : MW g ad σ τ C) (hI : Inv σ) (hi : i < σ.nfl) (ht : t < σ.nf) : Cr l g yX8_isIn cX8_isIn 4 (some .boolean) 2 [.ref (ad 20), .int (nI i), .int (nI t)] ad C (.int (bI (isn σ i t))) := by
  obtain ⟨f20, f21, f22, f23, f24, f25, f26, f27, f28, f29, f30, f31, f32, f33, f34, f35, f36, f37, f38⟩ := id m
  obtain ⟨hf1, hf2, hfl, hnn, hnm, hno, hc1, hc2⟩ := id hI.le
  refine Ct_of [some (.ref (ad 20)), some (.int (nI i)), some (.int (nI t)), none] (by decide) rfl rfl (Nat.le_of_ble_eq_true rfl) rfl rfl (fun X hX h => ?_)
  subst hX
  have lp : ∀ n k, k + n = σ.nn → (∀ q, q < k → (σ.tb q && σ.fl q == i && anc σ.pr 29 (σ.ni q) t) = false) → J X g 4 (QR X g ad C (.int (bI (isn σ i t)))) 0 0 ad C 2 [some (.ref (ad 20)), some (.int (nI i)), some (.int (nI t)), some (.int (nI k))] [] := by
    intro n
    induction n with
    | zero =>
      intro k hk hno
      refine j_iload3 (pc := 2) h dX8_isIn_2 ?_
      refine j_aload0 (pc := 3) h dX8_isIn_3 ?_
      refine j_getf (pc := 4) h dX8_isIn_4 (f20) fl_X8_88 rfl ?_
      refine j_icmp_ge (pc := 7) (tgt := 51) h dX8_isIn_7 (by decide) (fun c7 => ?_) (fun c7 => absurd (nI_le (by omega) (by omega)) c7)
      refine j_iconst (pc := 51) h dX8_isIn_51 ic_0 ?_
      refine j_zretr (pc := 52) h dX8_isIn_52 (by decide) (bI_f (anyN_no (fun q hq => hno q (by omega))))
    | succ n ih =>
      intro k hk hno
      obtain ⟨hfk, hnk⟩ := hI.nam k (by omega)
      have nx : (σ.tb k && σ.fl k == i && anc σ.pr 29 (σ.ni k) t) = false → J X g 4 (QR X g ad C (.int (bI (isn σ i t)))) 0 0 ad C 45 [some (.ref (ad 20)), some (.int (nI i)), some (.int (nI t)), some (.int (nI k))] [] := by
        intro hf
        refine j_iinc3 (pc := 45) h dX8_isIn_45 rfl (inc_n _) ?_
        refine j_goto (pc := 48) (tgt := 2) h dX8_isIn_48 (by decide) ?_
        exact ih (k + 1) (by omega) (lt_s hno hf)
      refine j_iload3 (pc := 2) h dX8_isIn_2 ?_
      refine j_aload0 (pc := 3) h dX8_isIn_3 ?_
      refine j_getf (pc := 4) h dX8_isIn_4 (f20) fl_X8_88 rfl ?_
      refine j_icmp_ge (pc := 7) (tgt := 51) h dX8_isIn_7 (by decide) (fun c7 => absurd c7 (nI_ge (by omega) (by omega))) (fun c7 => ?_)
      refine j_aload0 (pc := 10) h dX8_isIn_10 ?_
      refine j_getf (pc := 11) h dX8_isIn_11 (f20) fl_X8_45 rfl ?_
      refine j_iload3 (pc := 14) h dX8_isIn_14 ?_
      refine j_zald (pc := 15) h dX8_isIn_15 (f31) (by omega) (by decide) ?_
      refine j_if_eq (pc := 16) (tgt := 45) h dX8_isIn_16 (by decide) (fun c16 => ?_) (fun c16 => ?_)
      · exact nx (by simp [bI_0.mp c16])
      · refine j_aload0 (pc := 19) h dX8_isIn_19 ?_
        refine j_getf (pc := 20) h dX8_isIn_20 (f20) fl_X8_39 rfl ?_
        refine j_iload3 (pc := 23) h dX8_isIn_23 ?_
        refine j_iald (pc := 24) h dX8_isIn_24 (f29) (by omega) (by decide) ?_
        refine j_iload1 (pc := 25) h dX8_isIn_25 ?_
        refine j_icmp_ne (pc := 26) (tgt := 45) h dX8_isIn_26 (by decide) (fun c26 => ?_) (fun c26 => ?_)
        · exact nx (by have : ¬ σ.fl k = i := (fun q => c26 (by rw [q])); simp [this])
        · have hq := nI_inj c26 (by omega) (by omega)
          refine j_aload0 (pc := 29) h dX8_isIn_29 ?_
          refine j_aload0 (pc := 30) h dX8_isIn_30 ?_
          refine j_getf (pc := 31) h dX8_isIn_31 (f20) fl_X8_42 rfl ?_
          refine j_iload3 (pc := 34) h dX8_isIn_34 ?_
          refine j_iald (pc := 35) h dX8_isIn_35 (f30) (by omega) (by decide) ?_
          refine j_iload2 (pc := 36) h dX8_isIn_36 ?_
          refine j_callVr (pc := 37) h dX8_isIn_37 (k_X8_isOf m hI hnk ht) mv_X8_84 (f20) rfl rfl (by decide) (Nat.le_of_ble_eq_true rfl) (Nat.le_of_ble_eq_true rfl) (Nat.le_of_ble_eq_true rfl) ?_
          refine j_if_eqB (pc := 40) (tgt := 45) h dX8_isIn_40 (by decide) (fun c40 => ?_) (fun c40 => ?_)
          · exact nx (by rw [c40]; simp)
          · refine j_iconst (pc := 43) h dX8_isIn_43 ic_1 ?_
            refine j_zretr (pc := 44) h dX8_isIn_44 (by decide) (bI_t (anyN_yes (k := k) (by omega) (by simp [bI_n0 c16, hq, c40])))
  refine j_iconst (pc := 0) h dX8_isIn_0 ic_0 ?_
  refine j_istore3 (pc := 1) h dX8_isIn_1 rfl ?_
  exact lp σ.nn 0 (by omega) lt_0
theorem k_X8_hasOutside {i t : Nat} (m : MW g ad σ τ C) (hI : Inv σ) (hi : i < σ.nfl) (ht : t < σ.nf) : Cr l g yX8_hasOutside cX8_hasOutside 4 (some .boolean) 2 [.ref (ad 20), .int (nI i), .int (nI t)] ad C (.int (bI (iso σ i t))) := by
  obtain ⟨f20, f21, f22, f23, f24, f25, f26, f27, f28, f29, f30, f31, f32, f33, f34, f35, f36, f37, f38⟩ := id m
  obtain ⟨hf1, hf2, hfl, hnn, hnm, hno, hc1, hc2⟩ := id hI.le
  refine Ct_of [some (.ref (ad 20)), some (.int (nI i)), some (.int (nI t)), none] (by decide) rfl rfl (Nat.le_of_ble_eq_true rfl) rfl rfl (fun X hX h => ?_)
  subst hX
  have lp : ∀ n k, k + n = σ.nn → (∀ q, q < k → (σ.tb q && σ.fl q == i && !anc σ.pr 29 (σ.ni q) t) = false) → J X g 4 (QR X g ad C (.int (bI (iso σ i t)))) 0 0 ad C 2 [some (.ref (ad 20)), some (.int (nI i)), some (.int (nI t)), some (.int (nI k))] [] := by
    intro n
    induction n with
    | zero =>
      intro k hk hno
      refine j_iload3 (pc := 2) h dX8_hasOutside_2 ?_
      refine j_aload0 (pc := 3) h dX8_hasOutside_3 ?_
      refine j_getf (pc := 4) h dX8_hasOutside_4 (f20) fl_X8_88 rfl ?_
      refine j_icmp_ge (pc := 7) (tgt := 51) h dX8_hasOutside_7 (by decide) (fun c7 => ?_) (fun c7 => absurd (nI_le (by omega) (by omega)) c7)
      refine j_iconst (pc := 51) h dX8_hasOutside_51 ic_0 ?_
      refine j_zretr (pc := 52) h dX8_hasOutside_52 (by decide) (bI_f (anyN_no (fun q hq => hno q (by omega))))
    | succ n ih =>
      intro k hk hno
      obtain ⟨hfk, hnk⟩ := hI.nam k (by omega)
      have nx : (σ.tb k && σ.fl k == i && !anc σ.pr 29 (σ.ni k) t) = false → J X g 4 (QR X g ad C (.int (bI (iso σ i t)))) 0 0 ad C 45 [some (.ref (ad 20)), some (.int (nI i)), some (.int (nI t)), some (.int (nI k))] [] := by
        intro hf
        refine j_iinc3 (pc := 45) h dX8_hasOutside_45 rfl (inc_n _) ?_
        refine j_goto (pc := 48) (tgt := 2) h dX8_hasOutside_48 (by decide) ?_
        exact ih (k + 1) (by omega) (lt_s hno hf)
      refine j_iload3 (pc := 2) h dX8_hasOutside_2 ?_
      refine j_aload0 (pc := 3) h dX8_hasOutside_3 ?_
      refine j_getf (pc := 4) h dX8_hasOutside_4 (f20) fl_X8_88 rfl ?_
      refine j_icmp_ge (pc := 7) (tgt := 51) h dX8_hasOutside_7 (by decide) (fun c7 => absurd c7 (nI_ge (by omega) (by omega))) (fun c7 => ?_)
      refine j_aload0 (pc := 10) h dX8_hasOutside_10 ?_
      refine j_getf (pc := 11) h dX8_hasOutside_11 (f20) fl_X8_45 rfl ?_
      refine j_iload3 (pc := 14) h dX8_hasOutside_14 ?_
      refine j_zald (pc := 15) h dX8_hasOutside_15 (f31) (by omega) (by decide) ?_
      refine j_if_eq (pc := 16) (tgt := 45) h dX8_hasOutside_16 (by decide) (fun c16 => ?_) (fun c16 => ?_)
      · exact nx (by simp [bI_0.mp c16])
      · refine j_aload0 (pc := 19) h dX8_hasOutside_19 ?_
        refine j_getf (pc := 20) h dX8_hasOutside_20 (f20) fl_X8_39 rfl ?_
        refine j_iload3 (pc := 23) h dX8_hasOutside_23 ?_
        refine j_iald (pc := 24) h dX8_hasOutside_24 (f29) (by omega) (by decide) ?_
        refine j_iload1 (pc := 25) h dX8_hasOutside_25 ?_
        refine j_icmp_ne (pc := 26) (tgt := 45) h dX8_hasOutside_26 (by decide) (fun c26 => ?_) (fun c26 => ?_)
        · exact nx (by have : ¬ σ.fl k = i := (fun q => c26 (by rw [q])); simp [this])
        · have hq := nI_inj c26 (by omega) (by omega)
          refine j_aload0 (pc := 29) h dX8_hasOutside_29 ?_
          refine j_aload0 (pc := 30) h dX8_hasOutside_30 ?_
          refine j_getf (pc := 31) h dX8_hasOutside_31 (f20) fl_X8_42 rfl ?_
          refine j_iload3 (pc := 34) h dX8_hasOutside_34 ?_
          refine j_iald (pc := 35) h dX8_hasOutside_35 (f30) (by omega) (by decide) ?_
          refine j_iload2 (pc := 36) h dX8_hasOutside_36 ?_
          refine j_callVr (pc := 37) h dX8_hasOutside_37 (k_X8_isOf m hI hnk ht) mv_X8_84 (f20) rfl rfl (by decide) (Nat.le_of_ble_eq_true rfl) (Nat.le_of_ble_eq_true rfl) (Nat.le_of_ble_eq_true rfl) ?_
          refine j_if_neB (pc := 40) (tgt := 45) h dX8_hasOutside_40 (by decide) (fun c40 => ?_) (fun c40 => ?_)
          · exact nx (by rw [c40]; simp)
          · refine j_iconst (pc := 43) h dX8_hasOutside_43 ic_1 ?_
            refine j_zretr (pc := 44) h dX8_hasOutside_44 (by decide) (bI_t (anyN_yes (k := k) (by omega) (by simp [bI_n0 c16, hq, c40])))
  refine j_iconst (pc := 0) h dX8_hasOutside_0 ic_0 ?_
  refine j_istore3 (pc := 1) h dX8_hasOutside_1 rfl ?_
  exact lp σ.nn 0 (by omega) lt_0
theorem k_X8_taken {t : Nat} (m : MW g ad σ τ C) (hI : Inv σ) (ht : t < σ.nf) : Cr l g yX8_taken cX8_taken 5 (some .int) 3 [.ref (ad 20), .int (nI t)] ad C (.int (nI (tkS σ t))) := by
  obtain ⟨f20, f21, f22, f23, f24, f25, f26, f27, f28, f29, f30, f31, f32, f33, f34, f35, f36, f37, f38⟩ := id m
  obtain ⟨hf1, hf2, hfl, hnn, hnm, hno, hc1, hc2⟩ := id hI.le
  refine Ct_of [some (.ref (ad 20)), some (.int (nI t)), none, none, none] (by decide) rfl rfl (Nat.le_of_ble_eq_true rfl) rfl rfl (fun X hX h => ?_)
  subst hX
  have lp : ∀ n i, i + n = σ.nfl → J X g 5 (QR X g ad C (.int (nI (tkS σ t)))) 0 0 ad C 5 [some (.ref (ad 20)), some (.int (nI t)), some (.long (orr (fun i => if isn σ i t = true then bk σ i else 0) i)), none, some (.int (nI i))] [] := by
    intro n
    induction n with
    | zero =>
      intro i hi
      obtain rfl : i = σ.nfl := by omega
      refine j_iload4 (pc := 5) h dX8_taken_5 ?_
      refine j_aload0 (pc := 7) h dX8_taken_7 ?_
      refine j_getf (pc := 8) h dX8_taken_8 (f20) fl_X8_91 rfl ?_
      refine j_icmp_ge (pc := 11) (tgt := 39) h dX8_taken_11 (by decide) (fun c11 => ?_) (fun c11 => absurd (nI_le (by omega) (by omega)) c11)
      refine j_lload2 (pc := 39) h dX8_taken_39 ?_
      refine j_callSr (pc := 40) h dX8_taken_40 (k_X8_bits' (lo60_tk hI t)) ms_X8_126 rfl rfl (by decide) (Nat.le_of_ble_eq_true rfl) (Nat.le_of_ble_eq_true rfl) (Nat.le_of_ble_eq_true rfl) ?_
      refine j_iretr (pc := 43) h dX8_taken_43 (rfl)
    | succ n ih =>
      intro i hi
      refine j_iload4 (pc := 5) h dX8_taken_5 ?_
      refine j_aload0 (pc := 7) h dX8_taken_7 ?_
      refine j_getf (pc := 8) h dX8_taken_8 (f20) fl_X8_91 rfl ?_
      refine j_icmp_ge (pc := 11) (tgt := 39) h dX8_taken_11 (by decide) (fun c11 => absurd c11 (nI_ge (by omega) (by omega))) (fun c11 => ?_)
      refine j_aload0 (pc := 14) h dX8_taken_14 ?_
      refine j_iload4 (pc := 15) h dX8_taken_15 ?_
      refine j_iload1 (pc := 17) h dX8_taken_17 ?_
      refine j_callVr (pc := 18) h dX8_taken_18 (k_X8_isIn m hI (by omega) ht) mv_X8_137 (f20) rfl rfl (by decide) (Nat.le_of_ble_eq_true rfl) (Nat.le_of_ble_eq_true rfl) (Nat.le_of_ble_eq_true rfl) ?_
      refine j_if_eqB (pc := 21) (tgt := 33) h dX8_taken_21 (by decide) (fun c21 => ?_) (fun c21 => ?_)
      · refine j_iinc4 (pc := 33) h dX8_taken_33 rfl (inc_n _) ?_
        refine j_goto (pc := 36) (tgt := 5) h dX8_taken_36 (by decide) ?_
        rw [show orr (fun i => if isn σ i t = true then bk σ i else 0) i = orr (fun i => if isn σ i t = true then bk σ i else 0) (i + 1) from orr_no (by simp [c21])]
        exact ih (i + 1) (by omega)
      · refine j_lload2 (pc := 24) h dX8_taken_24 ?_
        refine j_aload0 (pc := 25) h dX8_taken_25 ?_
        refine j_iload4 (pc := 26) h dX8_taken_26 ?_
        refine j_callVr (pc := 28) h dX8_taken_28 (k_X8_blocksOf m hI (by omega)) mv_X8_112 (f20) rfl rfl (by decide) (Nat.le_of_ble_eq_true rfl) (Nat.le_of_ble_eq_true rfl) (Nat.le_of_ble_eq_true rfl) ?_
        refine j_lor (pc := 31) h dX8_taken_31 ?_
        refine j_lstore2 (pc := 32) h dX8_taken_32 rfl ?_
        refine j_iinc4 (pc := 33) h dX8_taken_33 rfl (inc_n _) ?_
        refine j_goto (pc := 36) (tgt := 5) h dX8_taken_36 (by decide) ?_
        rw [show orr (fun i => if isn σ i t = true then bk σ i else 0) i ||| bk σ i = orr (fun i => if isn σ i t = true then bk σ i else 0) (i + 1) from by rw [orr, if_pos c21]]
        exact ih (i + 1) (by omega)
  refine j_lconst (pc := 0) h dX8_taken_0 lc_0 ?_
  refine j_lstore2 (pc := 1) h dX8_taken_1 rfl ?_
  refine j_iconst (pc := 2) h dX8_taken_2 ic_0 ?_
  refine j_istore4 (pc := 3) h dX8_taken_3 rfl ?_
  exact lp σ.nfl 0 (by omega)
theorem k_X8_isSnapshot_no {x : Int32} (m : MW g ad σ τ C) (hx : inN x 8 = false) : Cr l g yX8_isSnapshot cX8_isSnapshot 2 (some .boolean) 2 [.ref (ad 20), .int x] ad C (.int (bI false)) := by
  refine Ct_of [some (.ref (ad 20)), some (.int x)] (by decide) rfl rfl (Nat.le_of_ble_eq_true rfl) rfl rfl (fun X hX h => ?_)
  subst hX
  refine j_iload1 (pc := 0) h dX8_isSnapshot_0 ?_
  refine j_iconst (pc := 1) h dX8_isSnapshot_1 ic_0 ?_
  refine j_bipush (pc := 2) h dX8_isSnapshot_2 bp_7 ?_
  refine j_callSr (pc := 4) h dX8_isSnapshot_4 (k_X8_in) ms_X8_73 rfl rfl (by decide) (Nat.le_of_ble_eq_true rfl) (Nat.le_of_ble_eq_true rfl) (Nat.le_of_ble_eq_true rfl) ?_
  refine j_if_eqB (pc := 7) (tgt := 23) h dX8_isSnapshot_7 (by decide) (fun c7 => ?_) (fun c7 => absurd c7 (by rw [show nI 7 = nI 8 - nI 1 from rfl, rng_n (by decide), hx]; decide))
  refine j_iconst (pc := 23) h dX8_isSnapshot_23 ic_0 ?_
  refine j_zretr (pc := 24) h dX8_isSnapshot_24 (by decide) (rfl)
theorem k_X8_isSnapshot {i : Nat} (m : MW g ad σ τ C) (hI : Inv σ) (hi : i < 8) : Cr l g yX8_isSnapshot cX8_isSnapshot 2 (some .boolean) 2 [.ref (ad 20), .int (nI i)] ad C (.int (bI (σ.sb i))) := by
  obtain ⟨f20, f21, f22, f23, f24, f25, f26, f27, f28, f29, f30, f31, f32, f33, f34, f35, f36, f37, f38⟩ := id m
  obtain ⟨hf1, hf2, hfl, hnn, hnm, hno, hc1, hc2⟩ := id hI.le
  refine Ct_of [some (.ref (ad 20)), some (.int (nI i))] (by decide) rfl rfl (Nat.le_of_ble_eq_true rfl) rfl rfl (fun X hX h => ?_)
  subst hX
  refine j_iload1 (pc := 0) h dX8_isSnapshot_0 ?_
  refine j_iconst (pc := 1) h dX8_isSnapshot_1 ic_0 ?_
  refine j_bipush (pc := 2) h dX8_isSnapshot_2 bp_7 ?_
  refine j_callSr (pc := 4) h dX8_isSnapshot_4 (k_X8_in) ms_X8_73 rfl rfl (by decide) (Nat.le_of_ble_eq_true rfl) (Nat.le_of_ble_eq_true rfl) (Nat.le_of_ble_eq_true rfl) ?_
  refine j_if_eqB (pc := 7) (tgt := 23) h dX8_isSnapshot_7 (by decide) (fun c7 => absurd c7 (by rw [show nI 7 = nI 8 - nI 1 from rfl, rng_n (by decide), inN_nI (by omega)]; simp; omega)) (fun c7 => ?_)
  refine j_aload0 (pc := 10) h dX8_isSnapshot_10 ?_
  refine j_getf (pc := 11) h dX8_isSnapshot_11 (f20) fl_X8_48 rfl ?_
  refine j_iload1 (pc := 14) h dX8_isSnapshot_14 ?_
  refine j_zald (pc := 15) h dX8_isSnapshot_15 (f32) (by omega) (by decide) ?_
  refine j_if_eq (pc := 16) (tgt := 23) h dX8_isSnapshot_16 (by decide) (fun c16 => ?_) (fun c16 => ?_)
  · refine j_iconst (pc := 23) h dX8_isSnapshot_23 ic_0 ?_
    refine j_zretr (pc := 24) h dX8_isSnapshot_24 (by decide) (bI_f (bI_0.mp c16))
  · refine j_iconst (pc := 19) h dX8_isSnapshot_19 ic_1 ?_
    refine j_goto (pc := 20) (tgt := 24) h dX8_isSnapshot_20 (by decide) ?_
    refine j_zretr (pc := 24) h dX8_isSnapshot_24 (by decide) (bI_t (bI_n0 c16))
end MR

