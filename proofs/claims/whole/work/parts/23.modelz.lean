/-! The reference: told, count, freed, largest, full -/
theorem no_sw {x : Int32} {n : Nat} (h : inN x (n + 1) = false) : x.toInt < 0 ∨ (n : Int) < x.toInt := by
  simp [inN] at h
  omega
section MZ
variable {l : Launch} {g : GG} {ad : AD} {C : CC} {σ : Sg} {τ : Tm}
theorem k_X8_told_no {x y : Int32} (m : MW g ad σ τ C) (hI : Inv σ) (hx : inN x σ.nfl = false ∨ ∃ i, i < σ.nfl ∧ x = nI i ∧ lv σ i = false) : Cr l g yX8_told cX8_told 5 (some .int) 4 [.ref (ad 20), .int x, .int y] ad C (.int (-1)) := by
  obtain ⟨f20, f21, f22, f23, f24, f25, f26, f27, f28, f29, f30, f31, f32, f33, f34, f35, f36, f37, f38⟩ := id m
  obtain ⟨hf1, hf2, hfl, hnn, hnm, hno, hc1, hc2⟩ := id hI.le
  refine Ct_of [some (.ref (ad 20)), some (.int x), some (.int y), none, none] (by decide) rfl rfl (Nat.le_of_ble_eq_true rfl) rfl rfl (fun X hX h => ?_)
  subst hX
  rcases hx with hx | ⟨i, hi, rfl, hx⟩
  · refine j_aload0 (pc := 0) h dX8_told_0 ?_
    refine j_iload1 (pc := 1) h dX8_told_1 ?_
    refine j_callVr (pc := 2) h dX8_told_2 (k_X8_isFile_no m hI hx) mv_X8_109 (f20) rfl rfl (by decide) (Nat.le_of_ble_eq_true rfl) (Nat.le_of_ble_eq_true rfl) (Nat.le_of_ble_eq_true rfl) ?_
    refine j_if_neB (pc := 5) (tgt := 10) h dX8_told_5 (by decide) (fun c5 => absurd c5 (by decide)) (fun c5 => ?_)
    refine j_iconst (pc := 8) h dX8_told_8 ic_m1 ?_
    refine j_iretr (pc := 9) h dX8_told_9 (rfl)
  · refine j_aload0 (pc := 0) h dX8_told_0 ?_
    refine j_iload1 (pc := 1) h dX8_told_1 ?_
    refine j_callVr (pc := 2) h dX8_told_2 (k_X8_isFile m hI hi) mv_X8_109 (f20) rfl rfl (by decide) (Nat.le_of_ble_eq_true rfl) (Nat.le_of_ble_eq_true rfl) (Nat.le_of_ble_eq_true rfl) ?_
    refine j_if_neB (pc := 5) (tgt := 10) h dX8_told_5 (by decide) (fun c5 => absurd c5 (by rw [hx]; decide)) (fun c5 => ?_)
    refine j_iconst (pc := 8) h dX8_told_8 ic_m1 ?_
    refine j_iretr (pc := 9) h dX8_told_9 (rfl)
theorem k_X8_told_out {i : Nat} {y : Int32} (m : MW g ad σ τ C) (hI : Inv σ) (hi : i < σ.nfl) (hl : lv σ i = true) (hy : inN y 7 = false) : Cr l g yX8_told cX8_told 5 (some .int) 4 [.ref (ad 20), .int (nI i), .int y] ad C (.int (-1)) := by
  obtain ⟨f20, f21, f22, f23, f24, f25, f26, f27, f28, f29, f30, f31, f32, f33, f34, f35, f36, f37, f38⟩ := id m
  obtain ⟨hf1, hf2, hfl, hnn, hnm, hno, hc1, hc2⟩ := id hI.le
  refine Ct_of [some (.ref (ad 20)), some (.int (nI i)), some (.int y), none, none] (by decide) rfl rfl (Nat.le_of_ble_eq_true rfl) rfl rfl (fun X hX h => ?_)
  subst hX
  refine j_aload0 (pc := 0) h dX8_told_0 ?_
  refine j_iload1 (pc := 1) h dX8_told_1 ?_
  refine j_callVr (pc := 2) h dX8_told_2 (k_X8_isFile m hI hi) mv_X8_109 (f20) rfl rfl (by decide) (Nat.le_of_ble_eq_true rfl) (Nat.le_of_ble_eq_true rfl) (Nat.le_of_ble_eq_true rfl) ?_
  refine j_if_neB (pc := 5) (tgt := 10) h dX8_told_5 (by decide) (fun c5 => ?_) (fun c5 => absurd c5 (by rw [hl]; decide))
  refine j_iconst (pc := 10) h dX8_told_10 ic_0 ?_
  refine j_istore3 (pc := 11) h dX8_told_11 rfl ?_
  refine j_iload2 (pc := 12) h dX8_told_12 ?_
  refine j_tableOut (pc := 13) (tgt := 145) h dX8_told_13 (no_sw (n := 6) hy) (by decide) ?_
  refine j_iconst (pc := 145) h dX8_told_145 ic_m1 ?_
  refine j_iretr (pc := 146) h dX8_told_146 (rfl)
theorem k_X8_told0 {i : Nat} (m : MW g ad σ τ C) (hI : Inv σ) (hi : i < σ.nfl) (hl : lv σ i = true) : Cr l g yX8_told cX8_told 5 (some .int) 4 [.ref (ad 20), .int (nI i), .int (nI 0)] ad C (.int (nI (σ.ln i))) := by
  obtain ⟨f20, f21, f22, f23, f24, f25, f26, f27, f28, f29, f30, f31, f32, f33, f34, f35, f36, f37, f38⟩ := id m
  obtain ⟨hf1, hf2, hfl, hnn, hnm, hno, hc1, hc2⟩ := id hI.le
  refine Ct_of [some (.ref (ad 20)), some (.int (nI i)), some (.int (nI 0)), none, none] (by decide) rfl rfl (Nat.le_of_ble_eq_true rfl) rfl rfl (fun X hX h => ?_)
  subst hX
  refine j_aload0 (pc := 0) h dX8_told_0 ?_
  refine j_iload1 (pc := 1) h dX8_told_1 ?_
  refine j_callVr (pc := 2) h dX8_told_2 (k_X8_isFile m hI hi) mv_X8_109 (f20) rfl rfl (by decide) (Nat.le_of_ble_eq_true rfl) (Nat.le_of_ble_eq_true rfl) (Nat.le_of_ble_eq_true rfl) ?_
  refine j_if_neB (pc := 5) (tgt := 10) h dX8_told_5 (by decide) (fun c5 => ?_) (fun c5 => absurd c5 (by rw [hl]; decide))
  refine j_iconst (pc := 10) h dX8_told_10 ic_0 ?_
  refine j_istore3 (pc := 11) h dX8_told_11 rfl ?_
  refine j_iload2 (pc := 12) h dX8_told_12 ?_
  refine j_tableIn (pc := 13) (tgt := 56) h dX8_told_13 (by decide) (by decide) (rfl) (by decide) ?_
  refine j_aload0 (pc := 56) h dX8_told_56 ?_
  refine j_getf (pc := 57) h dX8_told_57 (f20) fl_X8_24 rfl ?_
  refine j_iload1 (pc := 60) h dX8_told_60 ?_
  refine j_iald (pc := 61) h dX8_told_61 (f24) (by omega) (by decide) ?_
  refine j_iretr (pc := 62) h dX8_told_62 (rfl)
theorem k_X8_told1 {i : Nat} (m : MW g ad σ τ C) (hI : Inv σ) (hi : i < σ.nfl) (hl : lv σ i = true) : Cr l g yX8_told cX8_told 5 (some .int) 4 [.ref (ad 20), .int (nI i), .int (nI 1)] ad C (.int (σ.ow i)) := by
  obtain ⟨f20, f21, f22, f23, f24, f25, f26, f27, f28, f29, f30, f31, f32, f33, f34, f35, f36, f37, f38⟩ := id m
  obtain ⟨hf1, hf2, hfl, hnn, hnm, hno, hc1, hc2⟩ := id hI.le
  refine Ct_of [some (.ref (ad 20)), some (.int (nI i)), some (.int (nI 1)), none, none] (by decide) rfl rfl (Nat.le_of_ble_eq_true rfl) rfl rfl (fun X hX h => ?_)
  subst hX
  refine j_aload0 (pc := 0) h dX8_told_0 ?_
  refine j_iload1 (pc := 1) h dX8_told_1 ?_
  refine j_callVr (pc := 2) h dX8_told_2 (k_X8_isFile m hI hi) mv_X8_109 (f20) rfl rfl (by decide) (Nat.le_of_ble_eq_true rfl) (Nat.le_of_ble_eq_true rfl) (Nat.le_of_ble_eq_true rfl) ?_
  refine j_if_neB (pc := 5) (tgt := 10) h dX8_told_5 (by decide) (fun c5 => ?_) (fun c5 => absurd c5 (by rw [hl]; decide))
  refine j_iconst (pc := 10) h dX8_told_10 ic_0 ?_
  refine j_istore3 (pc := 11) h dX8_told_11 rfl ?_
  refine j_iload2 (pc := 12) h dX8_told_12 ?_
  refine j_tableIn (pc := 13) (tgt := 63) h dX8_told_13 (by decide) (by decide) (rfl) (by decide) ?_
  refine j_aload0 (pc := 63) h dX8_told_63 ?_
  refine j_getf (pc := 64) h dX8_told_64 (f20) fl_X8_30 rfl ?_
  refine j_iload1 (pc := 67) h dX8_told_67 ?_
  refine j_iald (pc := 68) h dX8_told_68 (f26) (by omega) (by decide) ?_
  refine j_iretr (pc := 69) h dX8_told_69 (rfl)
theorem k_X8_told2 {i : Nat} (m : MW g ad σ τ C) (hI : Inv σ) (hi : i < σ.nfl) (hl : lv σ i = true) : Cr l g yX8_told cX8_told 5 (some .int) 4 [.ref (ad 20), .int (nI i), .int (nI 2)] ad C (.int (nI (σ.wo i))) := by
  obtain ⟨f20, f21, f22, f23, f24, f25, f26, f27, f28, f29, f30, f31, f32, f33, f34, f35, f36, f37, f38⟩ := id m
  obtain ⟨hf1, hf2, hfl, hnn, hnm, hno, hc1, hc2⟩ := id hI.le
  refine Ct_of [some (.ref (ad 20)), some (.int (nI i)), some (.int (nI 2)), none, none] (by decide) rfl rfl (Nat.le_of_ble_eq_true rfl) rfl rfl (fun X hX h => ?_)
  subst hX
  refine j_aload0 (pc := 0) h dX8_told_0 ?_
  refine j_iload1 (pc := 1) h dX8_told_1 ?_
  refine j_callVr (pc := 2) h dX8_told_2 (k_X8_isFile m hI hi) mv_X8_109 (f20) rfl rfl (by decide) (Nat.le_of_ble_eq_true rfl) (Nat.le_of_ble_eq_true rfl) (Nat.le_of_ble_eq_true rfl) ?_
  refine j_if_neB (pc := 5) (tgt := 10) h dX8_told_5 (by decide) (fun c5 => ?_) (fun c5 => absurd c5 (by rw [hl]; decide))
  refine j_iconst (pc := 10) h dX8_told_10 ic_0 ?_
  refine j_istore3 (pc := 11) h dX8_told_11 rfl ?_
  refine j_iload2 (pc := 12) h dX8_told_12 ?_
  refine j_tableIn (pc := 13) (tgt := 70) h dX8_told_13 (by decide) (by decide) (rfl) (by decide) ?_
  refine j_aload0 (pc := 70) h dX8_told_70 ?_
  refine j_getf (pc := 71) h dX8_told_71 (f20) fl_X8_33 rfl ?_
  refine j_iload1 (pc := 74) h dX8_told_74 ?_
  refine j_iald (pc := 75) h dX8_told_75 (f27) (by omega) (by decide) ?_
  refine j_iretr (pc := 76) h dX8_told_76 (rfl)
theorem k_X8_told3 {i : Nat} (m : MW g ad σ τ C) (hI : Inv σ) (hi : i < σ.nfl) (hl : lv σ i = true) : Cr l g yX8_told cX8_told 5 (some .int) 4 [.ref (ad 20), .int (nI i), .int (nI 3)] ad C (.int (σ.ch i)) := by
  obtain ⟨f20, f21, f22, f23, f24, f25, f26, f27, f28, f29, f30, f31, f32, f33, f34, f35, f36, f37, f38⟩ := id m
  obtain ⟨hf1, hf2, hfl, hnn, hnm, hno, hc1, hc2⟩ := id hI.le
  refine Ct_of [some (.ref (ad 20)), some (.int (nI i)), some (.int (nI 3)), none, none] (by decide) rfl rfl (Nat.le_of_ble_eq_true rfl) rfl rfl (fun X hX h => ?_)
  subst hX
  refine j_aload0 (pc := 0) h dX8_told_0 ?_
  refine j_iload1 (pc := 1) h dX8_told_1 ?_
  refine j_callVr (pc := 2) h dX8_told_2 (k_X8_isFile m hI hi) mv_X8_109 (f20) rfl rfl (by decide) (Nat.le_of_ble_eq_true rfl) (Nat.le_of_ble_eq_true rfl) (Nat.le_of_ble_eq_true rfl) ?_
  refine j_if_neB (pc := 5) (tgt := 10) h dX8_told_5 (by decide) (fun c5 => ?_) (fun c5 => absurd c5 (by rw [hl]; decide))
  refine j_iconst (pc := 10) h dX8_told_10 ic_0 ?_
  refine j_istore3 (pc := 11) h dX8_told_11 rfl ?_
  refine j_iload2 (pc := 12) h dX8_told_12 ?_
  refine j_tableIn (pc := 13) (tgt := 77) h dX8_told_13 (by decide) (by decide) (rfl) (by decide) ?_
  refine j_aload0 (pc := 77) h dX8_told_77 ?_
  refine j_getf (pc := 78) h dX8_told_78 (f20) fl_X8_36 rfl ?_
  refine j_iload1 (pc := 81) h dX8_told_81 ?_
  refine j_iald (pc := 82) h dX8_told_82 (f28) (by omega) (by decide) ?_
  refine j_iretr (pc := 83) h dX8_told_83 (rfl)
theorem k_X8_told4 {i : Nat} (m : MW g ad σ τ C) (hI : Inv σ) (hi : i < σ.nfl) (hl : lv σ i = true) : Cr l g yX8_told cX8_told 5 (some .int) 4 [.ref (ad 20), .int (nI i), .int (nI 4)] ad C (.int (nI (nms σ i))) := by
  obtain ⟨f20, f21, f22, f23, f24, f25, f26, f27, f28, f29, f30, f31, f32, f33, f34, f35, f36, f37, f38⟩ := id m
  obtain ⟨hf1, hf2, hfl, hnn, hnm, hno, hc1, hc2⟩ := id hI.le
  refine Ct_of [some (.ref (ad 20)), some (.int (nI i)), some (.int (nI 4)), none, none] (by decide) rfl rfl (Nat.le_of_ble_eq_true rfl) rfl rfl (fun X hX h => ?_)
  subst hX
  refine j_aload0 (pc := 0) h dX8_told_0 ?_
  refine j_iload1 (pc := 1) h dX8_told_1 ?_
  refine j_callVr (pc := 2) h dX8_told_2 (k_X8_isFile m hI hi) mv_X8_109 (f20) rfl rfl (by decide) (Nat.le_of_ble_eq_true rfl) (Nat.le_of_ble_eq_true rfl) (Nat.le_of_ble_eq_true rfl) ?_
  refine j_if_neB (pc := 5) (tgt := 10) h dX8_told_5 (by decide) (fun c5 => ?_) (fun c5 => absurd c5 (by rw [hl]; decide))
  refine j_iconst (pc := 10) h dX8_told_10 ic_0 ?_
  refine j_istore3 (pc := 11) h dX8_told_11 rfl ?_
  refine j_iload2 (pc := 12) h dX8_told_12 ?_
  refine j_tableIn (pc := 13) (tgt := 84) h dX8_told_13 (by decide) (by decide) (rfl) (by decide) ?_
  refine j_aload0 (pc := 84) h dX8_told_84 ?_
  refine j_iload1 (pc := 85) h dX8_told_85 ?_
  refine j_callVr (pc := 86) h dX8_told_86 (k_X8_namesOf m hI hi) mv_X8_94 (f20) rfl rfl (by decide) (Nat.le_of_ble_eq_true rfl) (Nat.le_of_ble_eq_true rfl) (Nat.le_of_ble_eq_true rfl) ?_
  refine j_iretr (pc := 89) h dX8_told_89 (rfl)
theorem k_X8_told5 {i : Nat} (m : MW g ad σ τ C) (hI : Inv σ) (hi : i < σ.nfl) (hl : lv σ i = true) : Cr l g yX8_told cX8_told 5 (some .int) 4 [.ref (ad 20), .int (nI i), .int (nI 5)] ad C (.int (nI (pcn (bkS σ i)))) := by
  obtain ⟨f20, f21, f22, f23, f24, f25, f26, f27, f28, f29, f30, f31, f32, f33, f34, f35, f36, f37, f38⟩ := id m
  obtain ⟨hf1, hf2, hfl, hnn, hnm, hno, hc1, hc2⟩ := id hI.le
  refine Ct_of [some (.ref (ad 20)), some (.int (nI i)), some (.int (nI 5)), none, none] (by decide) rfl rfl (Nat.le_of_ble_eq_true rfl) rfl rfl (fun X hX h => ?_)
  subst hX
  refine j_aload0 (pc := 0) h dX8_told_0 ?_
  refine j_iload1 (pc := 1) h dX8_told_1 ?_
  refine j_callVr (pc := 2) h dX8_told_2 (k_X8_isFile m hI hi) mv_X8_109 (f20) rfl rfl (by decide) (Nat.le_of_ble_eq_true rfl) (Nat.le_of_ble_eq_true rfl) (Nat.le_of_ble_eq_true rfl) ?_
  refine j_if_neB (pc := 5) (tgt := 10) h dX8_told_5 (by decide) (fun c5 => ?_) (fun c5 => absurd c5 (by rw [hl]; decide))
  refine j_iconst (pc := 10) h dX8_told_10 ic_0 ?_
  refine j_istore3 (pc := 11) h dX8_told_11 rfl ?_
  refine j_iload2 (pc := 12) h dX8_told_12 ?_
  refine j_tableIn (pc := 13) (tgt := 90) h dX8_told_13 (by decide) (by decide) (rfl) (by decide) ?_
  refine j_aload0 (pc := 90) h dX8_told_90 ?_
  refine j_iload1 (pc := 91) h dX8_told_91 ?_
  refine j_callVr (pc := 92) h dX8_told_92 (k_X8_blocksOf_l m hI hi hl) mv_X8_112 (f20) rfl rfl (by decide) (Nat.le_of_ble_eq_true rfl) (Nat.le_of_ble_eq_true rfl) (Nat.le_of_ble_eq_true rfl) ?_
  refine j_callSr (pc := 95) h dX8_told_95 (k_X8_bits' (lo60_orr (fun p _ => lo60_bO hI _))) ms_X8_126 rfl rfl (by decide) (Nat.le_of_ble_eq_true rfl) (Nat.le_of_ble_eq_true rfl) (Nat.le_of_ble_eq_true rfl) ?_
  refine j_iretr (pc := 98) h dX8_told_98 (rfl)
/-- how many holes -/
def holS (σ : Sg) (i : Nat) : Nat := cnt (fun p => σ.rb (60 * i + p) == none) (σ.ln i)
theorem k_X8_told6 {i : Nat} (m : MW g ad σ τ C) (hI : Inv σ) (hi : i < σ.nfl) (hl : lv σ i = true) : Cr l g yX8_told cX8_told 5 (some .int) 4 [.ref (ad 20), .int (nI i), .int (nI 6)] ad C (.int (nI (holS σ i))) := by
  obtain ⟨f20, f21, f22, f23, f24, f25, f26, f27, f28, f29, f30, f31, f32, f33, f34, f35, f36, f37, f38⟩ := id m
  obtain ⟨hf1, hf2, hfl, hnn, hnm, hno, hc1, hc2⟩ := id hI.le
  have hln := (hI.fil i hi).1
  refine Ct_of [some (.ref (ad 20)), some (.int (nI i)), some (.int (nI 6)), none, none] (by decide) rfl rfl (Nat.le_of_ble_eq_true rfl) rfl rfl (fun X hX h => ?_)
  subst hX
  have lp : ∀ n p, p + n = σ.ln i → J X g 5 (QR X g ad C (.int (nI (holS σ i)))) 0 0 ad C 102 [some (.ref (ad 20)), some (.int (nI i)), some (.int (nI 6)), some (.int (nI (cnt (fun p => σ.rb (60 * i + p) == none) p))), some (.int (nI p))] [] := by
    intro n
    induction n with
    | zero =>
      intro p hp
      refine j_iload4 (pc := 102) h dX8_told_102 ?_
      refine j_aload0 (pc := 104) h dX8_told_104 ?_
      refine j_getf (pc := 105) h dX8_told_105 (f20) fl_X8_24 rfl ?_
      refine j_iload1 (pc := 108) h dX8_told_108 ?_
      refine j_iald (pc := 109) h dX8_told_109 (f24) (by omega) (by decide) ?_
      refine j_icmp_ge (pc := 110) (tgt := 143) h dX8_told_110 (by decide) (fun c110 => ?_) (fun c110 => absurd (nI_le (by omega) (by omega)) c110)
      refine j_iload3 (pc := 143) h dX8_told_143 ?_
      refine j_iretr (pc := 144) h dX8_told_144 (by rw [show p = σ.ln i by omega]; rfl)
    | succ n ih =>
      intro p hp
      refine j_iload4 (pc := 102) h dX8_told_102 ?_
      refine j_aload0 (pc := 104) h dX8_told_104 ?_
      refine j_getf (pc := 105) h dX8_told_105 (f20) fl_X8_24 rfl ?_
      refine j_iload1 (pc := 108) h dX8_told_108 ?_
      refine j_iald (pc := 109) h dX8_told_109 (f24) (by omega) (by decide) ?_
      refine j_icmp_ge (pc := 110) (tgt := 143) h dX8_told_110 (by decide) (fun c110 => absurd c110 (nI_ge (by omega) (by omega))) (fun c110 => ?_)
      refine j_iload3 (pc := 113) h dX8_told_113 ?_
      refine j_aload0 (pc := 114) h dX8_told_114 ?_
      refine j_getf (pc := 115) h dX8_told_115 (f20) fl_X8_27 rfl ?_
      refine j_bipush (pc := 118) h dX8_told_118 bp_60 ?_
      refine j_iload1 (pc := 120) h dX8_told_120 ?_
      refine j_imulN (pc := 121) h dX8_told_121 ?_
      refine j_iload4 (pc := 122) h dX8_told_122 ?_
      refine j_iaddN (pc := 124) h dX8_told_124 ?_
      refine j_iald (pc := 125) h dX8_told_125 (f25) (by omega) (by decide) ?_
      refine j_iconst (pc := 126) h dX8_told_126 ic_m1 ?_
      refine j_icmp_ne (pc := 127) (tgt := 134) h dX8_told_127 (by decide) (fun c127 => ?_) (fun c127 => ?_)
      · have hr : ¬ σ.rb (60 * i + p) = none := fun q => c127 ((rI_m1 hI).mpr q)
        refine j_iconst (pc := 134) h dX8_told_134 ic_0 ?_
        refine j_iaddN (pc := 135) h dX8_told_135 ?_
        refine j_istore3 (pc := 136) h dX8_told_136 rfl ?_
        refine j_iinc4 (pc := 137) h dX8_told_137 rfl (inc_n _) ?_
        refine j_goto (pc := 140) (tgt := 102) h dX8_told_140 (by decide) ?_
        rw [show cnt (fun p => σ.rb (60 * i + p) == none) p + 0 = cnt (fun p => σ.rb (60 * i + p) == none) (p + 1) from (cnt_f (p := fun p => σ.rb (60 * i + p) == none) (by show (σ.rb (60 * i + p) == none) = false; exact beq_eq_false_iff_ne.mpr hr)).symm]
        exact ih (p + 1) (by omega)
      · have hr := (rI_m1 hI).mp c127
        refine j_iconst (pc := 130) h dX8_told_130 ic_1 ?_
        refine j_goto (pc := 131) (tgt := 135) h dX8_told_131 (by decide) ?_
        refine j_iaddN (pc := 135) h dX8_told_135 ?_
        refine j_istore3 (pc := 136) h dX8_told_136 rfl ?_
        refine j_iinc4 (pc := 137) h dX8_told_137 rfl (inc_n _) ?_
        refine j_goto (pc := 140) (tgt := 102) h dX8_told_140 (by decide) ?_
        rw [show cnt (fun p => σ.rb (60 * i + p) == none) p + 1 = cnt (fun p => σ.rb (60 * i + p) == none) (p + 1) from (cnt_t (by simp [hr])).symm]
        exact ih (p + 1) (by omega)
  refine j_aload0 (pc := 0) h dX8_told_0 ?_
  refine j_iload1 (pc := 1) h dX8_told_1 ?_
  refine j_callVr (pc := 2) h dX8_told_2 (k_X8_isFile m hI hi) mv_X8_109 (f20) rfl rfl (by decide) (Nat.le_of_ble_eq_true rfl) (Nat.le_of_ble_eq_true rfl) (Nat.le_of_ble_eq_true rfl) ?_
  refine j_if_neB (pc := 5) (tgt := 10) h dX8_told_5 (by decide) (fun c5 => ?_) (fun c5 => absurd c5 (by rw [hl]; decide))
  refine j_iconst (pc := 10) h dX8_told_10 ic_0 ?_
  refine j_istore3 (pc := 11) h dX8_told_11 rfl ?_
  refine j_iload2 (pc := 12) h dX8_told_12 ?_
  refine j_tableIn (pc := 13) (tgt := 99) h dX8_told_13 (by decide) (by decide) (rfl) (by decide) ?_
  refine j_iconst (pc := 99) h dX8_told_99 ic_0 ?_
  refine j_istore4 (pc := 100) h dX8_told_100 rfl ?_
  exact lp (σ.ln i) 0 (by omega)
theorem k_X8_count_out {x : Int32} (m : MW g ad σ τ C) (hx : inN x 8 = false) : Cr l g yX8_count cX8_count 4 (some .int) 4 [.ref (ad 20), .int x] ad C (.int (-1)) := by
  refine Ct_of [some (.ref (ad 20)), some (.int x), none, none] (by decide) rfl rfl (Nat.le_of_ble_eq_true rfl) rfl rfl (fun X hX h => ?_)
  subst hX
  refine j_iconst (pc := 0) h dX8_count_0 ic_0 ?_
  refine j_istore2 (pc := 1) h dX8_count_1 rfl ?_
  refine j_iload1 (pc := 2) h dX8_count_2 ?_
  refine j_tableOut (pc := 3) (tgt := 184) h dX8_count_3 (no_sw (n := 7) hx) (by decide) ?_
  refine j_iconst (pc := 184) h dX8_count_184 ic_m1 ?_
  refine j_iretr (pc := 185) h dX8_count_185 (rfl)
theorem k_X8_count0 (m : MW g ad σ τ C) (hI : Inv σ) : Cr l g yX8_count cX8_count 4 (some .int) 4 [.ref (ad 20), .int (nI 0)] ad C (.int (nI σ.now)) := by
  obtain ⟨f20, f21, f22, f23, f24, f25, f26, f27, f28, f29, f30, f31, f32, f33, f34, f35, f36, f37, f38⟩ := id m
  obtain ⟨hf1, hf2, hfl, hnn, hnm, hno, hc1, hc2⟩ := id hI.le
  refine Ct_of [some (.ref (ad 20)), some (.int (nI 0)), none, none] (by decide) rfl rfl (Nat.le_of_ble_eq_true rfl) rfl rfl (fun X hX h => ?_)
  subst hX
  refine j_iconst (pc := 0) h dX8_count_0 ic_0 ?_
  refine j_istore2 (pc := 1) h dX8_count_1 rfl ?_
  refine j_iload1 (pc := 2) h dX8_count_2 ?_
  refine j_tableIn (pc := 3) (tgt := 48) h dX8_count_3 (by decide) (by decide) (rfl) (by decide) ?_
  refine j_aload0 (pc := 48) h dX8_count_48 ?_
  refine j_getf (pc := 49) h dX8_count_49 (f20) fl_X8_77 rfl ?_
  refine j_iretr (pc := 52) h dX8_count_52 (rfl)
theorem k_X8_count1 (m : MW g ad σ τ C) (hI : Inv σ) : Cr l g yX8_count cX8_count 4 (some .int) 4 [.ref (ad 20), .int (nI 1)] ad C (.int (nI σ.nf)) := by
  obtain ⟨f20, f21, f22, f23, f24, f25, f26, f27, f28, f29, f30, f31, f32, f33, f34, f35, f36, f37, f38⟩ := id m
  obtain ⟨hf1, hf2, hfl, hnn, hnm, hno, hc1, hc2⟩ := id hI.le
  refine Ct_of [some (.ref (ad 20)), some (.int (nI 1)), none, none] (by decide) rfl rfl (Nat.le_of_ble_eq_true rfl) rfl rfl (fun X hX h => ?_)
  subst hX
  refine j_iconst (pc := 0) h dX8_count_0 ic_0 ?_
  refine j_istore2 (pc := 1) h dX8_count_1 rfl ?_
  refine j_iload1 (pc := 2) h dX8_count_2 ?_
  refine j_tableIn (pc := 3) (tgt := 53) h dX8_count_3 (by decide) (by decide) (rfl) (by decide) ?_
  refine j_aload0 (pc := 53) h dX8_count_53 ?_
  refine j_getf (pc := 54) h dX8_count_54 (f20) fl_X8_7 rfl ?_
  refine j_iretr (pc := 57) h dX8_count_57 (rfl)
theorem k_X8_count5 (m : MW g ad σ τ C) (hI : Inv σ) : Cr l g yX8_count cX8_count 4 (some .int) 4 [.ref (ad 20), .int (nI 5)] ad C (.int (nI σ.nm)) := by
  obtain ⟨f20, f21, f22, f23, f24, f25, f26, f27, f28, f29, f30, f31, f32, f33, f34, f35, f36, f37, f38⟩ := id m
  obtain ⟨hf1, hf2, hfl, hnn, hnm, hno, hc1, hc2⟩ := id hI.le
  refine Ct_of [some (.ref (ad 20)), some (.int (nI 5)), none, none] (by decide) rfl rfl (Nat.le_of_ble_eq_true rfl) rfl rfl (fun X hX h => ?_)
  subst hX
  refine j_iconst (pc := 0) h dX8_count_0 ic_0 ?_
  refine j_istore2 (pc := 1) h dX8_count_1 rfl ?_
  refine j_iload1 (pc := 2) h dX8_count_2 ?_
  refine j_tableIn (pc := 3) (tgt := 160) h dX8_count_3 (by decide) (by decide) (rfl) (by decide) ?_
  refine j_aload0 (pc := 160) h dX8_count_160 ?_
  refine j_getf (pc := 161) h dX8_count_161 (f20) fl_X8_154 rfl ?_
  refine j_iretr (pc := 164) h dX8_count_164 (rfl)
theorem k_X8_count6 (m : MW g ad σ τ C) (hI : Inv σ) : Cr l g yX8_count cX8_count 4 (some .int) 4 [.ref (ad 20), .int (nI 6)] ad C (.int (nI (pcn (had σ)))) := by
  obtain ⟨f20, f21, f22, f23, f24, f25, f26, f27, f28, f29, f30, f31, f32, f33, f34, f35, f36, f37, f38⟩ := id m
  obtain ⟨hf1, hf2, hfl, hnn, hnm, hno, hc1, hc2⟩ := id hI.le
  refine Ct_of [some (.ref (ad 20)), some (.int (nI 6)), none, none] (by decide) rfl rfl (Nat.le_of_ble_eq_true rfl) rfl rfl (fun X hX h => ?_)
  subst hX
  refine j_iconst (pc := 0) h dX8_count_0 ic_0 ?_
  refine j_istore2 (pc := 1) h dX8_count_1 rfl ?_
  refine j_iload1 (pc := 2) h dX8_count_2 ?_
  refine j_tableIn (pc := 3) (tgt := 165) h dX8_count_3 (by decide) (by decide) (rfl) (by decide) ?_
  refine j_aload0 (pc := 165) h dX8_count_165 ?_
  refine j_callVr (pc := 166) h dX8_count_166 (k_X8_allFiles m hI) mv_X8_119 (f20) rfl rfl (by decide) (Nat.le_of_ble_eq_true rfl) (Nat.le_of_ble_eq_true rfl) (Nat.le_of_ble_eq_true rfl) ?_
  refine j_aload0 (pc := 169) h dX8_count_169 ?_
  refine j_iconst (pc := 170) h dX8_count_170 ic_m1 ?_
  refine j_callVr (pc := 171) h dX8_count_171 (k_X8_shots m hI) mv_X8_123 (f20) rfl rfl (by decide) (Nat.le_of_ble_eq_true rfl) (Nat.le_of_ble_eq_true rfl) (Nat.le_of_ble_eq_true rfl) ?_
  refine j_lor (pc := 174) h dX8_count_174 ?_
  refine j_callSr (pc := 175) h dX8_count_175 (k_X8_bits' (lo60_had hI)) ms_X8_126 rfl rfl (by decide) (Nat.le_of_ble_eq_true rfl) (Nat.le_of_ble_eq_true rfl) (Nat.le_of_ble_eq_true rfl) ?_
  refine j_iretr (pc := 178) h dX8_count_178 (rfl)
theorem k_X8_count7 (m : MW g ad σ τ C) (hI : Inv σ) : Cr l g yX8_count cX8_count 4 (some .int) 4 [.ref (ad 20), .int (nI 7)] ad C (.int (nI σ.cap)) := by
  obtain ⟨f20, f21, f22, f23, f24, f25, f26, f27, f28, f29, f30, f31, f32, f33, f34, f35, f36, f37, f38⟩ := id m
  obtain ⟨hf1, hf2, hfl, hnn, hnm, hno, hc1, hc2⟩ := id hI.le
  refine Ct_of [some (.ref (ad 20)), some (.int (nI 7)), none, none] (by decide) rfl rfl (Nat.le_of_ble_eq_true rfl) rfl rfl (fun X hX h => ?_)
  subst hX
  refine j_iconst (pc := 0) h dX8_count_0 ic_0 ?_
  refine j_istore2 (pc := 1) h dX8_count_1 rfl ?_
  refine j_iload1 (pc := 2) h dX8_count_2 ?_
  refine j_tableIn (pc := 3) (tgt := 179) h dX8_count_3 (by decide) (by decide) (rfl) (by decide) ?_
  refine j_aload0 (pc := 179) h dX8_count_179 ?_
  refine j_getf (pc := 180) h dX8_count_180 (f20) fl_X8_61 rfl ?_
  refine j_iretr (pc := 183) h dX8_count_183 (rfl)
theorem k_X8_count2 (m : MW g ad σ τ C) (hI : Inv σ) : Cr l g yX8_count cX8_count 4 (some .int) 4 [.ref (ad 20), .int (nI 2)] ad C (.int (nI (cnt (lv σ) σ.nfl))) := by
  obtain ⟨f20, f21, f22, f23, f24, f25, f26, f27, f28, f29, f30, f31, f32, f33, f34, f35, f36, f37, f38⟩ := id m
  obtain ⟨hf1, hf2, hfl, hnn, hnm, hno, hc1, hc2⟩ := id hI.le
  refine Ct_of [some (.ref (ad 20)), some (.int (nI 2)), none, none] (by decide) rfl rfl (Nat.le_of_ble_eq_true rfl) rfl rfl (fun X hX h => ?_)
  subst hX
  have lp : ∀ n i, i + n = σ.nfl → J X g 4 (QR X g ad C (.int (nI (cnt (lv σ) σ.nfl)))) 0 0 ad C 60 [some (.ref (ad 20)), some (.int (nI 2)), some (.int (nI (cnt (lv σ) i))), some (.int (nI i))] [] := by
    intro n
    induction n with
    | zero =>
      intro i hi
      refine j_iload3 (pc := 60) h dX8_count_60 ?_
      refine j_aload0 (pc := 61) h dX8_count_61 ?_
      refine j_getf (pc := 62) h dX8_count_62 (f20) fl_X8_91 rfl ?_
      refine j_icmp_ge (pc := 65) (tgt := 90) h dX8_count_65 (by decide) (fun c65 => ?_) (fun c65 => absurd (nI_le (by omega) (by omega)) c65)
      refine j_iload2 (pc := 90) h dX8_count_90 ?_
      refine j_iretr (pc := 91) h dX8_count_91 (by rw [show i = σ.nfl by omega])
    | succ n ih =>
      intro i hi
      have hle := nms_le σ i
      refine j_iload3 (pc := 60) h dX8_count_60 ?_
      refine j_aload0 (pc := 61) h dX8_count_61 ?_
      refine j_getf (pc := 62) h dX8_count_62 (f20) fl_X8_91 rfl ?_
      refine j_icmp_ge (pc := 65) (tgt := 90) h dX8_count_65 (by decide) (fun c65 => absurd c65 (nI_ge (by omega) (by omega))) (fun c65 => ?_)
      refine j_iload2 (pc := 68) h dX8_count_68 ?_
      refine j_aload0 (pc := 69) h dX8_count_69 ?_
      refine j_iload3 (pc := 70) h dX8_count_70 ?_
      refine j_callVr (pc := 71) h dX8_count_71 (k_X8_namesOf m hI (by omega)) mv_X8_94 (f20) rfl rfl (by decide) (Nat.le_of_ble_eq_true rfl) (Nat.le_of_ble_eq_true rfl) (Nat.le_of_ble_eq_true rfl) ?_
      refine j_if_le (pc := 74) (tgt := 81) h dX8_count_74 (by decide) (fun c74 => ?_) (fun c74 => ?_)
      · have := nI_le_of (b := 0) c74 (by omega) (by omega)
        refine j_iconst (pc := 81) h dX8_count_81 ic_0 ?_
        refine j_iaddN (pc := 82) h dX8_count_82 ?_
        refine j_istore2 (pc := 83) h dX8_count_83 rfl ?_
        refine j_iinc3 (pc := 84) h dX8_count_84 rfl (inc_n _) ?_
        refine j_goto (pc := 87) (tgt := 60) h dX8_count_87 (by decide) ?_
        rw [show cnt (lv σ) i + 0 = cnt (lv σ) (i + 1) from (cnt_f (by simp [lv]; omega)).symm]
        exact ih (i + 1) (by omega)
      · have : ¬ nms σ i ≤ 0 := fun q => c74 (nI_le (b := 0) q (by decide))
        refine j_iconst (pc := 77) h dX8_count_77 ic_1 ?_
        refine j_goto (pc := 78) (tgt := 82) h dX8_count_78 (by decide) ?_
        refine j_iaddN (pc := 82) h dX8_count_82 ?_
        refine j_istore2 (pc := 83) h dX8_count_83 rfl ?_
        refine j_iinc3 (pc := 84) h dX8_count_84 rfl (inc_n _) ?_
        refine j_goto (pc := 87) (tgt := 60) h dX8_count_87 (by decide) ?_
        rw [show cnt (lv σ) i + 1 = cnt (lv σ) (i + 1) from (cnt_t (by simp [lv]; omega)).symm]
        exact ih (i + 1) (by omega)
  refine j_iconst (pc := 0) h dX8_count_0 ic_0 ?_
  refine j_istore2 (pc := 1) h dX8_count_1 rfl ?_
  refine j_iload1 (pc := 2) h dX8_count_2 ?_
  refine j_tableIn (pc := 3) (tgt := 58) h dX8_count_3 (by decide) (by decide) (rfl) (by decide) ?_
  refine j_iconst (pc := 58) h dX8_count_58 ic_0 ?_
  refine j_istore3 (pc := 59) h dX8_count_59 rfl ?_
  exact lp σ.nfl 0 (by omega)
theorem k_X8_count3 (m : MW g ad σ τ C) (hI : Inv σ) : Cr l g yX8_count cX8_count 4 (some .int) 4 [.ref (ad 20), .int (nI 3)] ad C (.int (nI (cnt σ.tb σ.nn))) := by
  obtain ⟨f20, f21, f22, f23, f24, f25, f26, f27, f28, f29, f30, f31, f32, f33, f34, f35, f36, f37, f38⟩ := id m
  obtain ⟨hf1, hf2, hfl, hnn, hnm, hno, hc1, hc2⟩ := id hI.le
  refine Ct_of [some (.ref (ad 20)), some (.int (nI 3)), none, none] (by decide) rfl rfl (Nat.le_of_ble_eq_true rfl) rfl rfl (fun X hX h => ?_)
  subst hX
  have lp : ∀ n i, i + n = σ.nn → J X g 4 (QR X g ad C (.int (nI (cnt σ.tb σ.nn)))) 0 0 ad C 94 [some (.ref (ad 20)), some (.int (nI 3)), some (.int (nI (cnt σ.tb i))), some (.int (nI i))] [] := by
    intro n
    induction n with
    | zero =>
      intro i hi
      refine j_iload3 (pc := 94) h dX8_count_94 ?_
      refine j_aload0 (pc := 95) h dX8_count_95 ?_
      refine j_getf (pc := 96) h dX8_count_96 (f20) fl_X8_88 rfl ?_
      refine j_icmp_ge (pc := 99) (tgt := 125) h dX8_count_99 (by decide) (fun c99 => ?_) (fun c99 => absurd (nI_le (by omega) (by omega)) c99)
      refine j_iload2 (pc := 125) h dX8_count_125 ?_
      refine j_iretr (pc := 126) h dX8_count_126 (by rw [show i = σ.nn by omega])
    | succ n ih =>
      intro i hi
      refine j_iload3 (pc := 94) h dX8_count_94 ?_
      refine j_aload0 (pc := 95) h dX8_count_95 ?_
      refine j_getf (pc := 96) h dX8_count_96 (f20) fl_X8_88 rfl ?_
      refine j_icmp_ge (pc := 99) (tgt := 125) h dX8_count_99 (by decide) (fun c99 => absurd c99 (nI_ge (by omega) (by omega))) (fun c99 => ?_)
      refine j_iload2 (pc := 102) h dX8_count_102 ?_
      refine j_aload0 (pc := 103) h dX8_count_103 ?_
      refine j_getf (pc := 104) h dX8_count_104 (f20) fl_X8_45 rfl ?_
      refine j_iload3 (pc := 107) h dX8_count_107 ?_
      refine j_zald (pc := 108) h dX8_count_108 (f31) (by omega) (by decide) ?_
      refine j_if_eq (pc := 109) (tgt := 116) h dX8_count_109 (by decide) (fun c109 => ?_) (fun c109 => ?_)
      · refine j_iconst (pc := 116) h dX8_count_116 ic_0 ?_
        refine j_iaddN (pc := 117) h dX8_count_117 ?_
        refine j_istore2 (pc := 118) h dX8_count_118 rfl ?_
        refine j_iinc3 (pc := 119) h dX8_count_119 rfl (inc_n _) ?_
        refine j_goto (pc := 122) (tgt := 94) h dX8_count_122 (by decide) ?_
        rw [show cnt σ.tb i + 0 = cnt σ.tb (i + 1) from (cnt_f (bI_0.mp c109)).symm]
        exact ih (i + 1) (by omega)
      · refine j_iconst (pc := 112) h dX8_count_112 ic_1 ?_
        refine j_goto (pc := 113) (tgt := 117) h dX8_count_113 (by decide) ?_
        refine j_iaddN (pc := 117) h dX8_count_117 ?_
        refine j_istore2 (pc := 118) h dX8_count_118 rfl ?_
        refine j_iinc3 (pc := 119) h dX8_count_119 rfl (inc_n _) ?_
        refine j_goto (pc := 122) (tgt := 94) h dX8_count_122 (by decide) ?_
        rw [show cnt σ.tb i + 1 = cnt σ.tb (i + 1) from (cnt_t (bI_n0 c109)).symm]
        exact ih (i + 1) (by omega)
  refine j_iconst (pc := 0) h dX8_count_0 ic_0 ?_
  refine j_istore2 (pc := 1) h dX8_count_1 rfl ?_
  refine j_iload1 (pc := 2) h dX8_count_2 ?_
  refine j_tableIn (pc := 3) (tgt := 92) h dX8_count_3 (by decide) (by decide) (rfl) (by decide) ?_
  refine j_iconst (pc := 92) h dX8_count_92 ic_0 ?_
  refine j_istore3 (pc := 93) h dX8_count_93 rfl ?_
  exact lp σ.nn 0 (by omega)
theorem k_X8_count4 (m : MW g ad σ τ C) (hI : Inv σ) : Cr l g yX8_count cX8_count 4 (some .int) 4 [.ref (ad 20), .int (nI 4)] ad C (.int (nI (cnt σ.sb 8))) := by
  obtain ⟨f20, f21, f22, f23, f24, f25, f26, f27, f28, f29, f30, f31, f32, f33, f34, f35, f36, f37, f38⟩ := id m
  obtain ⟨hf1, hf2, hfl, hnn, hnm, hno, hc1, hc2⟩ := id hI.le
  refine Ct_of [some (.ref (ad 20)), some (.int (nI 4)), none, none] (by decide) rfl rfl (Nat.le_of_ble_eq_true rfl) rfl rfl (fun X hX h => ?_)
  subst hX
  have lp : ∀ n i, i + n = 8 → J X g 4 (QR X g ad C (.int (nI (cnt σ.sb 8)))) 0 0 ad C 129 [some (.ref (ad 20)), some (.int (nI 4)), some (.int (nI (cnt σ.sb i))), some (.int (nI i))] [] := by
    intro n
    induction n with
    | zero =>
      intro i hi
      refine j_iload3 (pc := 129) h dX8_count_129 ?_
      refine j_bipush (pc := 130) h dX8_count_130 bp_8 ?_
      refine j_icmp_ge (pc := 132) (tgt := 158) h dX8_count_132 (by decide) (fun c132 => ?_) (fun c132 => absurd (nI_le (by omega) (by omega)) c132)
      refine j_iload2 (pc := 158) h dX8_count_158 ?_
      refine j_iretr (pc := 159) h dX8_count_159 (by rw [show i = 8 by omega])
    | succ n ih =>
      intro i hi
      refine j_iload3 (pc := 129) h dX8_count_129 ?_
      refine j_bipush (pc := 130) h dX8_count_130 bp_8 ?_
      refine j_icmp_ge (pc := 132) (tgt := 158) h dX8_count_132 (by decide) (fun c132 => absurd c132 (nI_ge (by omega) (by omega))) (fun c132 => ?_)
      refine j_iload2 (pc := 135) h dX8_count_135 ?_
      refine j_aload0 (pc := 136) h dX8_count_136 ?_
      refine j_getf (pc := 137) h dX8_count_137 (f20) fl_X8_48 rfl ?_
      refine j_iload3 (pc := 140) h dX8_count_140 ?_
      refine j_zald (pc := 141) h dX8_count_141 (f32) (by omega) (by decide) ?_
      refine j_if_eq (pc := 142) (tgt := 149) h dX8_count_142 (by decide) (fun c142 => ?_) (fun c142 => ?_)
      · refine j_iconst (pc := 149) h dX8_count_149 ic_0 ?_
        refine j_iaddN (pc := 150) h dX8_count_150 ?_
        refine j_istore2 (pc := 151) h dX8_count_151 rfl ?_
        refine j_iinc3 (pc := 152) h dX8_count_152 rfl (inc_n _) ?_
        refine j_goto (pc := 155) (tgt := 129) h dX8_count_155 (by decide) ?_
        rw [show cnt σ.sb i + 0 = cnt σ.sb (i + 1) from (cnt_f (bI_0.mp c142)).symm]
        exact ih (i + 1) (by omega)
      · refine j_iconst (pc := 145) h dX8_count_145 ic_1 ?_
        refine j_goto (pc := 146) (tgt := 150) h dX8_count_146 (by decide) ?_
        refine j_iaddN (pc := 150) h dX8_count_150 ?_
        refine j_istore2 (pc := 151) h dX8_count_151 rfl ?_
        refine j_iinc3 (pc := 152) h dX8_count_152 rfl (inc_n _) ?_
        refine j_goto (pc := 155) (tgt := 129) h dX8_count_155 (by decide) ?_
        rw [show cnt σ.sb i + 1 = cnt σ.sb (i + 1) from (cnt_t (bI_n0 c142)).symm]
        exact ih (i + 1) (by omega)
  refine j_iconst (pc := 0) h dX8_count_0 ic_0 ?_
  refine j_istore2 (pc := 1) h dX8_count_1 rfl ?_
  refine j_iload1 (pc := 2) h dX8_count_2 ?_
  refine j_tableIn (pc := 3) (tgt := 127) h dX8_count_3 (by decide) (by decide) (rfl) (by decide) ?_
  refine j_iconst (pc := 127) h dX8_count_127 ic_0 ?_
  refine j_istore3 (pc := 128) h dX8_count_128 rfl ?_
  exact lp 8 0 (by omega)
/-- what goes, what is kept -/
def gon (σ : Sg) (gs : Nat → Bool) : Nat → Int64 := fun i => if gs i = true then bk σ i else 0
def kep (σ : Sg) (gs : Nat → Bool) : Nat → Int64 := fun i => if gs i = true then 0 else bk σ i
def frB (σ : Sg) (gs : Nat → Bool) : Nat := pcn (orr (gon σ gs) σ.nfl &&& ((shS σ (-1) ||| orr (kep σ gs) σ.nfl) ^^^ (-1)))
theorem lo60_gon {σ : Sg} (hI : Inv σ) (gs : Nat → Bool) (n : Nat) : lo60 (orr (gon σ gs) n) := lo60_orr (fun i _ => by unfold gon; split; exact lo60_bk hI i; exact lo60_0)
theorem k_X8_freedBy (m : MW g ad σ τ C) (hI : Inv σ) : Cr l g yX8_freedBy cX8_freedBy 6 (some .int) 3 [.ref (ad 20)] ad C (.int (nI (frB σ τ.1))) := by
  obtain ⟨f20, f21, f22, f23, f24, f25, f26, f27, f28, f29, f30, f31, f32, f33, f34, f35, f36, f37, f38⟩ := id m
  obtain ⟨hf1, hf2, hfl, hnn, hnm, hno, hc1, hc2⟩ := id hI.le
  refine Ct_of [some (.ref (ad 20)), none, none, none, none, none] (by decide) rfl rfl (Nat.le_of_ble_eq_true rfl) rfl rfl (fun X hX h => ?_)
  subst hX
  have lp : ∀ n i, i + n = σ.nfl → J X g 6 (QR X g ad C (.int (nI (frB σ τ.1)))) 0 0 ad C 11 [some (.ref (ad 20)), some (.long (orr (gon σ τ.1) i)), none, some (.long (shS σ (-1) ||| orr (kep σ τ.1) i)), none, some (.int (nI i))] [] := by
    intro n
    induction n with
    | zero =>
      intro i hi
      obtain rfl : i = σ.nfl := by omega
      refine j_iload5 (pc := 11) h dX8_freedBy_11 ?_
      refine j_aload0 (pc := 13) h dX8_freedBy_13 ?_
      refine j_getf (pc := 14) h dX8_freedBy_14 (f20) fl_X8_91 rfl ?_
      refine j_icmp_ge (pc := 17) (tgt := 57) h dX8_freedBy_17 (by decide) (fun c17 => ?_) (fun c17 => absurd (nI_le (by omega) (by omega)) c17)
      refine j_lload1 (pc := 57) h dX8_freedBy_57 ?_
      refine j_lload3 (pc := 58) h dX8_freedBy_58 ?_
      refine j_ldc2 (pc := 59) h dX8_freedBy_59 kc_X8_149 ?_
      refine j_lxor (pc := 62) h dX8_freedBy_62 ?_
      refine j_land (pc := 63) h dX8_freedBy_63 ?_
      refine j_callSr (pc := 64) h dX8_freedBy_64 (k_X8_bits' (lo60_and (lo60_gon hI _ _))) ms_X8_126 rfl rfl (by decide) (Nat.le_of_ble_eq_true rfl) (Nat.le_of_ble_eq_true rfl) (Nat.le_of_ble_eq_true rfl) ?_
      refine j_iretr (pc := 67) h dX8_freedBy_67 (rfl)
    | succ n ih =>
      intro i hi
      refine j_iload5 (pc := 11) h dX8_freedBy_11 ?_
      refine j_aload0 (pc := 13) h dX8_freedBy_13 ?_
      refine j_getf (pc := 14) h dX8_freedBy_14 (f20) fl_X8_91 rfl ?_
      refine j_icmp_ge (pc := 17) (tgt := 57) h dX8_freedBy_17 (by decide) (fun c17 => absurd c17 (nI_ge (by omega) (by omega))) (fun c17 => ?_)
      refine j_aload0 (pc := 20) h dX8_freedBy_20 ?_
      refine j_getf (pc := 21) h dX8_freedBy_21 (f20) fl_X8_64 rfl ?_
      refine j_iload5 (pc := 24) h dX8_freedBy_24 ?_
      refine j_zald (pc := 26) h dX8_freedBy_26 (f36) (by omega) (by decide) ?_
      refine j_if_eq (pc := 27) (tgt := 42) h dX8_freedBy_27 (by decide) (fun c27 => ?_) (fun c27 => ?_)
      · have hg := bI_0.mp c27
        refine j_lload3 (pc := 42) h dX8_freedBy_42 ?_
        refine j_aload0 (pc := 43) h dX8_freedBy_43 ?_
        refine j_iload5 (pc := 44) h dX8_freedBy_44 ?_
        refine j_callVr (pc := 46) h dX8_freedBy_46 (k_X8_blocksOf m hI (by omega)) mv_X8_112 (f20) rfl rfl (by decide) (Nat.le_of_ble_eq_true rfl) (Nat.le_of_ble_eq_true rfl) (Nat.le_of_ble_eq_true rfl) ?_
        refine j_lor (pc := 49) h dX8_freedBy_49 ?_
        refine j_lstore3 (pc := 50) h dX8_freedBy_50 rfl ?_
        refine j_iinc5 (pc := 51) h dX8_freedBy_51 rfl (inc_n _) ?_
        refine j_goto (pc := 54) (tgt := 11) h dX8_freedBy_54 (by decide) ?_
        rw [show orr (gon σ τ.1) i = orr (gon σ τ.1) (i + 1) from orr_no (by simp [gon, hg]), show shS σ (-1) ||| orr (kep σ τ.1) i ||| bk σ i = shS σ (-1) ||| orr (kep σ τ.1) (i + 1) from by rw [orr, Int64.or_assoc, kep]; simp [hg]]
        exact ih (i + 1) (by omega)
      · have hg := bI_n0 c27
        refine j_lload1 (pc := 30) h dX8_freedBy_30 ?_
        refine j_aload0 (pc := 31) h dX8_freedBy_31 ?_
        refine j_iload5 (pc := 32) h dX8_freedBy_32 ?_
        refine j_callVr (pc := 34) h dX8_freedBy_34 (k_X8_blocksOf m hI (by omega)) mv_X8_112 (f20) rfl rfl (by decide) (Nat.le_of_ble_eq_true rfl) (Nat.le_of_ble_eq_true rfl) (Nat.le_of_ble_eq_true rfl) ?_
        refine j_lor (pc := 37) h dX8_freedBy_37 ?_
        refine j_lstore1 (pc := 38) h dX8_freedBy_38 rfl ?_
        refine j_goto (pc := 39) (tgt := 51) h dX8_freedBy_39 (by decide) ?_
        refine j_iinc5 (pc := 51) h dX8_freedBy_51 rfl (inc_n _) ?_
        refine j_goto (pc := 54) (tgt := 11) h dX8_freedBy_54 (by decide) ?_
        rw [show orr (kep σ τ.1) i = orr (kep σ τ.1) (i + 1) from orr_no (by simp [kep, hg]), show orr (gon σ τ.1) i ||| bk σ i = orr (gon σ τ.1) (i + 1) from by rw [orr, gon]; simp [hg]]
        exact ih (i + 1) (by omega)
  refine j_lconst (pc := 0) h dX8_freedBy_0 lc_0 ?_
  refine j_lstore1 (pc := 1) h dX8_freedBy_1 rfl ?_
  refine j_aload0 (pc := 2) h dX8_freedBy_2 ?_
  refine j_iconst (pc := 3) h dX8_freedBy_3 ic_m1 ?_
  refine j_callVr (pc := 4) h dX8_freedBy_4 (k_X8_shots m hI) mv_X8_123 (f20) rfl rfl (by decide) (Nat.le_of_ble_eq_true rfl) (Nat.le_of_ble_eq_true rfl) (Nat.le_of_ble_eq_true rfl) ?_
  refine j_lstore3 (pc := 7) h dX8_freedBy_7 rfl ?_
  refine j_iconst (pc := 8) h dX8_freedBy_8 ic_0 ?_
  refine j_istore5 (pc := 9) h dX8_freedBy_9 rfl ?_
  refine j_L ?_ (lp σ.nfl 0 (by omega))
  rw [show shS σ (-1) ||| orr (kep σ τ.1) 0 = shS σ (-1) from by simp [orr]]
  rfl
theorem frB_cong {σ : Sg} {g1 g2 : Nat → Bool} (h : ∀ i, i < σ.nfl → g1 i = g2 i) : frB σ g1 = frB σ g2 := by
  unfold frB
  rw [orr_cong (p := gon σ g1) (q := gon σ g2) (fun i hi => by rw [gon, gon, h i hi]), orr_cong (p := kep σ g1) (q := kep σ g2) (fun i hi => by rw [kep, kep, h i hi])]
/-- goes, filled as far as i -/
def fil (p q : Nat → Bool) (n : Nat) : Nat → Bool := fun i => if i < n then p i else q i
theorem fil_s {p q : Nat → Bool} {i : Nat} : upd (bF (fil p q i)) i (bI (p i)) = bF (fil p q (i + 1)) := by
  funext j
  by_cases h : j = i
  · subst h; simp [upd, bF, fil]
  · have e : j < i + 1 ↔ j < i := by omega
    simp [upd, bF, fil, h, e]
theorem fil_0 {p q : Nat → Bool} : fil p q 0 = q := by funext j; simp [fil]
theorem k_X8_freed_no {x : Int32} (m : MW g ad σ τ C) (hI : Inv σ) (hx : inN x σ.nf = false) : Cr l g yX8_freed cX8_freed 3 (some .int) 4 [.ref (ad 20), .int x] ad C (.int (-1)) := by
  obtain ⟨f20, f21, f22, f23, f24, f25, f26, f27, f28, f29, f30, f31, f32, f33, f34, f35, f36, f37, f38⟩ := id m
  obtain ⟨hf1, hf2, hfl, hnn, hnm, hno, hc1, hc2⟩ := id hI.le
  refine Ct_of [some (.ref (ad 20)), some (.int x), none] (by decide) rfl rfl (Nat.le_of_ble_eq_true rfl) rfl rfl (fun X hX h => ?_)
  subst hX
  refine j_aload0 (pc := 0) h dX8_freed_0 ?_
  refine j_iload1 (pc := 1) h dX8_freed_1 ?_
  refine j_callVr (pc := 2) h dX8_freed_2 (k_X8_isFolder m hI) mv_X8_80 (f20) rfl rfl (by decide) (Nat.le_of_ble_eq_true rfl) (Nat.le_of_ble_eq_true rfl) (Nat.le_of_ble_eq_true rfl) ?_
  refine j_if_neB (pc := 5) (tgt := 10) h dX8_freed_5 (by decide) (fun c5 => absurd c5 (by rw [hx]; decide)) (fun c5 => ?_)
  refine j_iconst (pc := 8) h dX8_freed_8 ic_m1 ?_
  refine j_iretr (pc := 9) h dX8_freed_9 (rfl)
def goT (σ : Sg) (t : Nat) : Nat → Bool := fun i => isn σ i t && !iso σ i t
theorem k_X8_freed {t : Nat} (m : MW g ad σ τ C) (hI : Inv σ) (ht : t < σ.nf) : Ct l g yX8_freed cX8_freed 3 (some .int) 4 0 0 [.ref (ad 20), .int (nI t)] ad C (PMo g ad C (.int (nI (frB σ (goT σ t)))) (σ)) := by
  obtain ⟨f20, f21, f22, f23, f24, f25, f26, f27, f28, f29, f30, f31, f32, f33, f34, f35, f36, f37, f38⟩ := id m
  obtain ⟨hf1, hf2, hfl, hnn, hnm, hno, hc1, hc2⟩ := id hI.le
  refine Ct_of [some (.ref (ad 20)), some (.int (nI t)), none] (by decide) rfl rfl (Nat.le_of_ble_eq_true rfl) rfl rfl (fun X hX h => ?_)
  subst hX
  have lp : ∀ n i D, i + n = σ.nfl → MW g ad σ (fil (goT σ t) τ.1 i, τ.2) D → frM C D → J X g 3 (QX X g 0 0 (PMo g ad C (.int (nI (frB σ (goT σ t)))) σ)) 0 0 ad D 12 [some (.ref (ad 20)), some (.int (nI t)), some (.int (nI i))] [] := by
    intro n
    induction n with
    | zero =>
      intro i D hi mD hfr
      obtain rfl : i = σ.nfl := by omega
      refine j_iload2 (pc := 12) h dX8_freed_12 ?_
      refine j_aload0 (pc := 13) h dX8_freed_13 ?_
      refine j_getf (pc := 14) h dX8_freed_14 (mD.1) fl_X8_91 rfl ?_
      refine j_icmp_ge (pc := 17) (tgt := 55) h dX8_freed_17 (by decide) (fun c17 => ?_) (fun c17 => absurd (nI_le (by omega) (by omega)) c17)
      refine j_aload0 (pc := 55) h dX8_freed_55 ?_
      refine j_callVr (pc := 56) h dX8_freed_56 (k_X8_freedBy mD hI) mv_X8_161 (mD.1) rfl rfl (by decide) (Nat.le_of_ble_eq_true rfl) (Nat.le_of_ble_eq_true rfl) (Nat.le_of_ble_eq_true rfl) ?_
      refine j_iret (pc := 59) h dX8_freed_59 (⟨by rw [frB_cong (g1 := fil (goT σ t) τ.1 σ.nfl) (g2 := goT σ t) (fun i hi => by simp [fil, hi])], rfl, ⟨_, mD⟩, hfr⟩)
    | succ n ih =>
      intro i D hi mD hfr
      obtain ⟨f20, f21, f22, f23, f24, f25, f26, f27, f28, f29, f30, f31, f32, f33, f34, f35, f36, f37, f38⟩ := id mD
      have nx : ∀ D', D' = va_up D 36 (some (eZ g 40 (bF (fil (goT σ t) τ.1 (i + 1))))) → J X g 3 (QX X g 0 0 (PMo g ad C (.int (nI (frB σ (goT σ t)))) σ)) 0 0 ad D' 49 [some (.ref (ad 20)), some (.int (nI t)), some (.int (nI i))] [] := by
        intro D' hD
        subst hD
        refine j_iinc2 (pc := 49) h dX8_freed_49 rfl (inc_n _) ?_
        refine j_goto (pc := 52) (tgt := 12) h dX8_freed_52 (by decide) ?_
        exact ih (i + 1) _ (by omega) ⟨f20, f21, f22, f23, f24, f25, f26, f27, f28, f29, f30, f31, f32, f33, f34, f35, rfl, f37, f38⟩ (frM_up hfr (by decide) (by decide))
      refine j_iload2 (pc := 12) h dX8_freed_12 ?_
      refine j_aload0 (pc := 13) h dX8_freed_13 ?_
      refine j_getf (pc := 14) h dX8_freed_14 (f20) fl_X8_91 rfl ?_
      refine j_icmp_ge (pc := 17) (tgt := 55) h dX8_freed_17 (by decide) (fun c17 => absurd c17 (nI_ge (by omega) (by omega))) (fun c17 => ?_)
      refine j_aload0 (pc := 20) h dX8_freed_20 ?_
      refine j_getf (pc := 21) h dX8_freed_21 (f20) fl_X8_64 rfl ?_
      refine j_iload2 (pc := 24) h dX8_freed_24 ?_
      refine j_aload0 (pc := 25) h dX8_freed_25 ?_
      refine j_iload2 (pc := 26) h dX8_freed_26 ?_
      refine j_iload1 (pc := 27) h dX8_freed_27 ?_
      refine j_callVr (pc := 28) h dX8_freed_28 (k_X8_isIn mD hI (by omega) ht) mv_X8_137 (f20) rfl rfl (by decide) (Nat.le_of_ble_eq_true rfl) (Nat.le_of_ble_eq_true rfl) (Nat.le_of_ble_eq_true rfl) ?_
      refine j_if_eqB (pc := 31) (tgt := 47) h dX8_freed_31 (by decide) (fun c31 => ?_) (fun c31 => ?_)
      · refine j_iconst (pc := 47) h dX8_freed_47 ic_0 ?_
        refine j_zast (pc := 48) h dX8_freed_48 (f36) (by omega) (by decide) (nar_0) ?_
        exact nx _ (by rw [← fil_s]; simp [goT, c31]; rfl)
      · refine j_aload0 (pc := 34) h dX8_freed_34 ?_
        refine j_iload2 (pc := 35) h dX8_freed_35 ?_
        refine j_iload1 (pc := 36) h dX8_freed_36 ?_
        refine j_callVr (pc := 37) h dX8_freed_37 (k_X8_hasOutside mD hI (by omega) ht) mv_X8_158 (f20) rfl rfl (by decide) (Nat.le_of_ble_eq_true rfl) (Nat.le_of_ble_eq_true rfl) (Nat.le_of_ble_eq_true rfl) ?_
        refine j_if_neB (pc := 40) (tgt := 47) h dX8_freed_40 (by decide) (fun c40 => ?_) (fun c40 => ?_)
        · refine j_iconst (pc := 47) h dX8_freed_47 ic_0 ?_
          refine j_zast (pc := 48) h dX8_freed_48 (f36) (by omega) (by decide) (nar_0) ?_
          exact nx _ (by rw [← fil_s]; simp [goT, c40]; rfl)
        · refine j_iconst (pc := 43) h dX8_freed_43 ic_1 ?_
          refine j_goto (pc := 44) (tgt := 48) h dX8_freed_44 (by decide) ?_
          refine j_zast (pc := 48) h dX8_freed_48 (f36) (by omega) (by decide) (nar_1) ?_
          exact nx _ (by rw [← fil_s]; simp [goT, c31, c40]; rfl)
  refine j_aload0 (pc := 0) h dX8_freed_0 ?_
  refine j_iload1 (pc := 1) h dX8_freed_1 ?_
  refine j_callVr (pc := 2) h dX8_freed_2 (k_X8_isFolder m hI) mv_X8_80 (f20) rfl rfl (by decide) (Nat.le_of_ble_eq_true rfl) (Nat.le_of_ble_eq_true rfl) (Nat.le_of_ble_eq_true rfl) ?_
  refine j_if_neB (pc := 5) (tgt := 10) h dX8_freed_5 (by decide) (fun c5 => ?_) (fun c5 => absurd c5 (by rw [inN_nI (by omega)]; simp; omega))
  refine j_iconst (pc := 10) h dX8_freed_10 ic_0 ?_
  refine j_istore2 (pc := 11) h dX8_freed_11 rfl ?_
  exact lp σ.nfl 0 C (by omega) (by rw [fil_0]; exact m) (frM_rf C)
theorem k_X8_both_no {x y : Int32} (m : MW g ad σ τ C) (hI : Inv σ) (hx : inN x σ.nfl = false ∨ (∃ i, i < σ.nfl ∧ x = nI i ∧ lv σ i = false) ∨ inN y σ.nfl = false ∨ ∃ i, i < σ.nfl ∧ y = nI i ∧ lv σ i = false) : Cr l g yX8_both cX8_both 4 (some .int) 4 [.ref (ad 20), .int x, .int y] ad C (.int (-1)) := by
  obtain ⟨f20, f21, f22, f23, f24, f25, f26, f27, f28, f29, f30, f31, f32, f33, f34, f35, f36, f37, f38⟩ := id m
  obtain ⟨hf1, hf2, hfl, hnn, hnm, hno, hc1, hc2⟩ := id hI.le
  refine Ct_of [some (.ref (ad 20)), some (.int x), some (.int y), none] (by decide) rfl rfl (Nat.le_of_ble_eq_true rfl) rfl rfl (fun X hX h => ?_)
  subst hX
  rcases inN_cases x σ.nfl with hz | ⟨i, hi, rfl⟩
  · refine j_aload0 (pc := 0) h dX8_both_0 ?_
    refine j_iload1 (pc := 1) h dX8_both_1 ?_
    refine j_callVr (pc := 2) h dX8_both_2 (k_X8_isFile_no m hI hz) mv_X8_109 (f20) rfl rfl (by decide) (Nat.le_of_ble_eq_true rfl) (Nat.le_of_ble_eq_true rfl) (Nat.le_of_ble_eq_true rfl) ?_
    refine j_if_eqB (pc := 5) (tgt := 16) h dX8_both_5 (by decide) (fun c5 => ?_) (fun c5 => absurd c5 (by decide))
    refine j_iconst (pc := 16) h dX8_both_16 ic_m1 ?_
    refine j_iretr (pc := 17) h dX8_both_17 (rfl)
  · refine j_aload0 (pc := 0) h dX8_both_0 ?_
    refine j_iload1 (pc := 1) h dX8_both_1 ?_
    refine j_callVr (pc := 2) h dX8_both_2 (k_X8_isFile m hI hi) mv_X8_109 (f20) rfl rfl (by decide) (Nat.le_of_ble_eq_true rfl) (Nat.le_of_ble_eq_true rfl) (Nat.le_of_ble_eq_true rfl) ?_
    refine j_if_eqB (pc := 5) (tgt := 16) h dX8_both_5 (by decide) (fun c5 => ?_) (fun c5 => ?_)
    · refine j_iconst (pc := 16) h dX8_both_16 ic_m1 ?_
      refine j_iretr (pc := 17) h dX8_both_17 (rfl)
    · rcases inN_cases y σ.nfl with hz | ⟨j, hj, rfl⟩
      · refine j_aload0 (pc := 8) h dX8_both_8 ?_
        refine j_iload2 (pc := 9) h dX8_both_9 ?_
        refine j_callVr (pc := 10) h dX8_both_10 (k_X8_isFile_no m hI hz) mv_X8_109 (f20) rfl rfl (by decide) (Nat.le_of_ble_eq_true rfl) (Nat.le_of_ble_eq_true rfl) (Nat.le_of_ble_eq_true rfl) ?_
        refine j_if_neB (pc := 13) (tgt := 18) h dX8_both_13 (by decide) (fun c13 => absurd c13 (by decide)) (fun c13 => ?_)
        refine j_iconst (pc := 16) h dX8_both_16 ic_m1 ?_
        refine j_iretr (pc := 17) h dX8_both_17 (rfl)
      · refine j_aload0 (pc := 8) h dX8_both_8 ?_
        refine j_iload2 (pc := 9) h dX8_both_9 ?_
        refine j_callVr (pc := 10) h dX8_both_10 (k_X8_isFile m hI hj) mv_X8_109 (f20) rfl rfl (by decide) (Nat.le_of_ble_eq_true rfl) (Nat.le_of_ble_eq_true rfl) (Nat.le_of_ble_eq_true rfl) ?_
        refine j_if_neB (pc := 13) (tgt := 18) h dX8_both_13 (by decide) (fun c13 => absurd c13 (by rcases hx with hx|⟨q,hq,he,hx⟩|hx|⟨q,hq,he,hx⟩; rw [inN_nI (by omega)] at hx; simp at hx; omega; have := nI_inj he (by omega) (by omega); subst this; rw [hx] at c5; cases c5; rw [inN_nI (by omega)] at hx; simp at hx; omega; have := nI_inj he (by omega) (by omega); subst this; rw [hx]; decide)) (fun c13 => ?_)
        refine j_iconst (pc := 16) h dX8_both_16 ic_m1 ?_
        refine j_iretr (pc := 17) h dX8_both_17 (rfl)
theorem k_X8_both {i j : Nat} (m : MW g ad σ τ C) (hI : Inv σ) (hi : i < σ.nfl) (hl : lv σ i = true) (hj : j < σ.nfl) (hlj : lv σ j = true) : Ct l g yX8_both cX8_both 4 (some .int) 4 0 0 [.ref (ad 20), .int (nI i), .int (nI j)] ad C (PMo g ad C (.int (nI (frB σ (fun f => f == i || f == j)))) (σ)) := by
  obtain ⟨f20, f21, f22, f23, f24, f25, f26, f27, f28, f29, f30, f31, f32, f33, f34, f35, f36, f37, f38⟩ := id m
  obtain ⟨hf1, hf2, hfl, hnn, hnm, hno, hc1, hc2⟩ := id hI.le
  refine Ct_of [some (.ref (ad 20)), some (.int (nI i)), some (.int (nI j)), none] (by decide) rfl rfl (Nat.le_of_ble_eq_true rfl) rfl rfl (fun X hX h => ?_)
  subst hX
  have lp : ∀ n q D, q + n = σ.nfl → MW g ad σ (fil (fun f => f == i || f == j) τ.1 q, τ.2) D → frM C D → J X g 4 (QX X g 0 0 (PMo g ad C (.int (nI (frB σ (fun f => f == i || f == j)))) σ)) 0 0 ad D 20 [some (.ref (ad 20)), some (.int (nI i)), some (.int (nI j)), some (.int (nI q))] [] := by
    intro n
    induction n with
    | zero =>
      intro q D hq mD hfr
      obtain rfl : q = σ.nfl := by omega
      refine j_iload3 (pc := 20) h dX8_both_20 ?_
      refine j_aload0 (pc := 21) h dX8_both_21 ?_
      refine j_getf (pc := 22) h dX8_both_22 (mD.1) fl_X8_91 rfl ?_
      refine j_icmp_ge (pc := 25) (tgt := 55) h dX8_both_25 (by decide) (fun c25 => ?_) (fun c25 => absurd (nI_le (by omega) (by omega)) c25)
      refine j_aload0 (pc := 55) h dX8_both_55 ?_
      refine j_callVr (pc := 56) h dX8_both_56 (k_X8_freedBy mD hI) mv_X8_161 (mD.1) rfl rfl (by decide) (Nat.le_of_ble_eq_true rfl) (Nat.le_of_ble_eq_true rfl) (Nat.le_of_ble_eq_true rfl) ?_
      refine j_iret (pc := 59) h dX8_both_59 (⟨by rw [frB_cong (g1 := fil (fun f => f == i || f == j) τ.1 σ.nfl) (g2 := fun f => f == i || f == j) (fun i hi => by simp [fil, hi])], rfl, ⟨_, mD⟩, hfr⟩)
    | succ n ih =>
      intro q D hq mD hfr
      obtain ⟨f20, f21, f22, f23, f24, f25, f26, f27, f28, f29, f30, f31, f32, f33, f34, f35, f36, f37, f38⟩ := id mD
      have nx : ∀ D', D' = va_up D 36 (some (eZ g 40 (bF (fil (fun f => f == i || f == j) τ.1 (q + 1))))) → J X g 4 (QX X g 0 0 (PMo g ad C (.int (nI (frB σ (fun f => f == i || f == j)))) σ)) 0 0 ad D' 49 [some (.ref (ad 20)), some (.int (nI i)), some (.int (nI j)), some (.int (nI q))] [] := by
        intro D' hD
        subst hD
        refine j_iinc3 (pc := 49) h dX8_both_49 rfl (inc_n _) ?_
        refine j_goto (pc := 52) (tgt := 20) h dX8_both_52 (by decide) ?_
        exact ih (q + 1) _ (by omega) ⟨f20, f21, f22, f23, f24, f25, f26, f27, f28, f29, f30, f31, f32, f33, f34, f35, rfl, f37, f38⟩ (frM_up hfr (by decide) (by decide))
      refine j_iload3 (pc := 20) h dX8_both_20 ?_
      refine j_aload0 (pc := 21) h dX8_both_21 ?_
      refine j_getf (pc := 22) h dX8_both_22 (f20) fl_X8_91 rfl ?_
      refine j_icmp_ge (pc := 25) (tgt := 55) h dX8_both_25 (by decide) (fun c25 => absurd c25 (nI_ge (by omega) (by omega))) (fun c25 => ?_)
      refine j_aload0 (pc := 28) h dX8_both_28 ?_
      refine j_getf (pc := 29) h dX8_both_29 (f20) fl_X8_64 rfl ?_
      refine j_iload3 (pc := 32) h dX8_both_32 ?_
      refine j_iload3 (pc := 33) h dX8_both_33 ?_
      refine j_iload1 (pc := 34) h dX8_both_34 ?_
      refine j_icmp_eq (pc := 35) (tgt := 43) h dX8_both_35 (by decide) (fun c35 => ?_) (fun c35 => ?_)
      · have e := nI_inj c35 (by omega) (by omega)
        refine j_iconst (pc := 43) h dX8_both_43 ic_1 ?_
        refine j_goto (pc := 44) (tgt := 48) h dX8_both_44 (by decide) ?_
        refine j_zast (pc := 48) h dX8_both_48 (f36) (by omega) (by decide) (nar_1) ?_
        exact nx _ (by rw [← fil_s]; simp [e]; rfl)
      · have e : ¬ q = i := fun z => c35 (by rw [z])
        refine j_iload3 (pc := 38) h dX8_both_38 ?_
        refine j_iload2 (pc := 39) h dX8_both_39 ?_
        refine j_icmp_ne (pc := 40) (tgt := 47) h dX8_both_40 (by decide) (fun c40 => ?_) (fun c40 => ?_)
        · have e2 : ¬ q = j := fun z => c40 (by rw [z])
          refine j_iconst (pc := 47) h dX8_both_47 ic_0 ?_
          refine j_zast (pc := 48) h dX8_both_48 (f36) (by omega) (by decide) (nar_0) ?_
          exact nx _ (by rw [← fil_s]; have e3 : (q == i || q == j) = false := (by simp [e, e2]); simp only [e3]; rfl)
        · have e2 := nI_inj c40 (by omega) (by omega)
          refine j_iconst (pc := 43) h dX8_both_43 ic_1 ?_
          refine j_goto (pc := 44) (tgt := 48) h dX8_both_44 (by decide) ?_
          refine j_zast (pc := 48) h dX8_both_48 (f36) (by omega) (by decide) (nar_1) ?_
          exact nx _ (by rw [← fil_s]; simp [e2]; rfl)
  refine j_aload0 (pc := 0) h dX8_both_0 ?_
  refine j_iload1 (pc := 1) h dX8_both_1 ?_
  refine j_callVr (pc := 2) h dX8_both_2 (k_X8_isFile m hI hi) mv_X8_109 (f20) rfl rfl (by decide) (Nat.le_of_ble_eq_true rfl) (Nat.le_of_ble_eq_true rfl) (Nat.le_of_ble_eq_true rfl) ?_
  refine j_if_eqB (pc := 5) (tgt := 16) h dX8_both_5 (by decide) (fun c5 => absurd c5 (by rw [hl]; decide)) (fun c5 => ?_)
  refine j_aload0 (pc := 8) h dX8_both_8 ?_
  refine j_iload2 (pc := 9) h dX8_both_9 ?_
  refine j_callVr (pc := 10) h dX8_both_10 (k_X8_isFile m hI hj) mv_X8_109 (f20) rfl rfl (by decide) (Nat.le_of_ble_eq_true rfl) (Nat.le_of_ble_eq_true rfl) (Nat.le_of_ble_eq_true rfl) ?_
  refine j_if_neB (pc := 13) (tgt := 18) h dX8_both_13 (by decide) (fun c13 => ?_) (fun c13 => absurd c13 (by rw [hlj]; decide))
  refine j_iconst (pc := 18) h dX8_both_18 ic_0 ?_
  refine j_istore3 (pc := 19) h dX8_both_19 rfl ?_
  exact lp σ.nfl 0 C (by omega) (by rw [fil_0]; exact m) (frM_rf C)
end MZ

