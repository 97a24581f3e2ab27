/-! The class: reads that the outside calls -/
theorem sumN_cong {f h : Nat → Nat} : ∀ {n : Nat}, (∀ i, i < n → f i = h i) → sumN f n = sumN h n
  | 0, _ => rfl
  | n + 1, q => by rw [sumN, sumN, sumN_cong (fun i hi => q i (by omega)), q n (by omega)]
theorem cnt_no {p : Nat → Bool} : ∀ {n : Nat}, (∀ i, i < n → p i = false) → cnt p n = 0
  | 0, _ => rfl
  | n + 1, q => by rw [cnt_f (q n (by omega)), cnt_no (fun i hi => q i (by omega))]
theorem cnt_not (p : Nat → Bool) : ∀ n, cnt (fun k => !p k) n + cnt p n = n
  | 0 => rfl
  | n + 1 => by
    have ih := cnt_not p n
    cases e : p n with
    | false => rw [cnt_f e, cnt_t (p := fun k => !p k) (by simp [e])]; omega
    | true => rw [cnt_t e, cnt_f (p := fun k => !p k) (by simp [e])]; omega
theorem nam_eq {σ : Sg} {fn : Nat → Int32} (hI : Inv σ) (hfn : ∀ k, k < σ.nn → fn k = if σ.tb k = true then nI (σ.fl k) else -1) {a : Nat} {z : Int32} (ha : a < σ.nf) : scan (fun k => fn k != -1 && nI (σ.ni k) == nI a) z 0 σ.nn = scan (namP σ a) z 0 σ.nn := by
  have hle := hI.le
  refine scan_cong (fun k hk => ?_)
  obtain ⟨h1, h2⟩ := hI.nam k (by omega)
  have e : (nI (σ.ni k) == nI a) = (σ.ni k == a) := by
    by_cases e : σ.ni k = a
    · simp [e]
    · rw [beq_eq_false_iff_ne.mpr e, beq_eq_false_iff_ne.mpr (fun q => e (nI_inj q (by omega) (by omega)))]
  unfold namP
  rw [hfn k (by omega), e]
  cases σ.tb k with
  | false => simp
  | true =>
    have hne : (nI (σ.fl k) != -1) = true := bne_iff_ne.mpr (nI_m1 (by omega))
    rw [if_pos rfl, hne]
theorem full_sw {x : Int32} (h : inN x 2 = false) : Op.lookupswitch.offset [(0, 27), (1, 39)] 51 x.toInt = 51 := by
  have h0 := no_sw (n := 1) h
  have h1 : ¬ (0 : Int) = x.toInt := by omega
  have h2 : ¬ (1 : Int) = x.toInt := by omega
  have h3 : ¬ x.toInt = (0 : Int) := by omega
  have h4 : ¬ x.toInt = (1 : Int) := by omega
  simp [Op.lookupswitch.offset, h1, h2, h3, h4]
theorem fsw0 : Op.lookupswitch.offset [(0, 27), (1, 39)] 51 (nI 0).toInt = 27 := by decide
theorem fsw1 : Op.lookupswitch.offset [(0, 27), (1, 39)] 51 (nI 1).toInt = 39 := by decide
theorem sum_z {σ : Sg} {a : Nat} {y z : Int32} (ha : a < σ.nf) (hy : inN y 6 = true) (hx : inN (nI a) σ.nf = false ∨ inN y 6 = false ∨ inN z 3 = false) (h : σ.nf ≤ 30) : inN z 3 = false := by
  rcases hx with hx | hx | hx
  · rw [inN_nI (by omega)] at hx; simp at hx; omega
  · rw [hy] at hx; cases hx
  · exact hx
theorem len_eq {g : GG} {ad : AD} {C : CC} {σ : Sg} {ρ : Rm} {t : Nat} (w : CW g ad σ ρ C) (hI : Inv σ) : sumN (fun i => if (lv σ i && mbr (ftS σ ρ t) (nI i)) = true then σ.ln i else 0) σ.nfl = lenS σ t := by
  have hle := hI.le
  refine sumN_cong (fun i hi => ?_)
  rw [mbr_bit _ (by omega), ft_bit w hI]
  cases e : isn σ i t with
  | false => simp
  | true => rw [isn_lv e]; rfl
theorem fil_eq {g : GG} {ad : AD} {C : CC} {σ : Sg} {ρ : Rm} {t : Nat} (w : CW g ad σ ρ C) (hI : Inv σ) : pcn (ftS σ ρ t) = filS σ t := by
  have hle := hI.le
  unfold pcn filS
  rw [cnt_cong (q := fun i => isn σ i t) (fun i _ => ft_bit w hI t i)]
  have e := cnt_split (fun i => isn σ i t) σ.nfl (64 - σ.nfl)
  rw [show σ.nfl + (64 - σ.nfl) = 64 by omega] at e
  rw [e, cnt_cong (q := fun _ => false) (n := 64 - σ.nfl) (fun k _ => by
    cases h : isn σ (σ.nfl + k) t with
    | false => rfl
    | true => exact absurd (isn_lt hI h) (by omega))]
  rw [cnt_no (fun _ _ => rfl)]
  rfl
theorem nm_cnt {σ : Sg} {fn : Nat → Int32} (hI : Inv σ) (hfn : ∀ k, k < σ.nn → fn k = if σ.tb k = true then nI (σ.fl k) else -1) {i : Nat} (hi : i < 2 ^ 31) : cnt (fun k => fn k == nI i) σ.nn = nms σ i := by
  have hle := hI.le
  refine cnt_cong (fun k hk => ?_)
  have h1 := (hI.nam k hk).1
  rw [hfn k hk]
  cases σ.tb k with
  | false =>
    have : ¬ (-1 : Int32) = nI i := fun q => nI_m1 hi q.symm
    simp [this]
  | true =>
    by_cases e : σ.fl k = i
    · simp [e]
    · rw [if_pos rfl, beq_eq_false_iff_ne.mpr e, beq_eq_false_iff_ne.mpr (fun q => e (nI_inj q (by omega) hi))]; rfl
theorem nm_there {σ : Sg} {fn : Nat → Int32} (hI : Inv σ) (hfn : ∀ k, k < σ.nn → fn k = if σ.tb k = true then nI (σ.fl k) else -1) : σ.nn - cnt (fun k => fn k == -1) σ.nn = cnt σ.tb σ.nn := by
  have hle := hI.le
  have e1 : cnt (fun k => fn k == -1) σ.nn = cnt (fun k => !σ.tb k) σ.nn := by
    refine cnt_cong (fun k hk => ?_)
    have h1 := (hI.nam k hk).1
    rw [hfn k hk]
    cases σ.tb k with
    | false => simp
    | true =>
      have : ¬ nI (σ.fl k) = -1 := nI_m1 (by omega)
      simp [this]
  have e2 := cnt_not σ.tb σ.nn
  omega
theorem hol_eq {σ : Sg} {pl : Nat → Int32} {i : Nat} (hI : Inv σ) (h : ∀ p, p < σ.ln i → pl p = rI (σ.rb (60 * i + p))) : cnt (fun p => pl p == -1) (σ.ln i) = holS σ i := by
  refine cnt_cong (fun p hp => ?_)
  rw [h p hp]
  cases e : σ.rb (60 * i + p) with
  | none => rfl
  | some b =>
    have : ¬ nI b = -1 := nI_m1 (by have := hI.blk _ b e; omega)
    simp [rI, this]
section CS
variable {l : Launch} {g : GG} {ad : AD} {C : CC} {σ : Sg} {ρ : Rm}
theorem k_X7_sum_no {x y z : Int32} (w : CW g ad σ ρ C) (hI : Inv σ) (hx : inN x σ.nf = false ∨ inN y 6 = false ∨ inN z 3 = false) : Cr l g yX7_sum cX7_sum 6 (some .int) 5 [.ref (ad 0), .int x, .int y, .int z] ad C (.int (-1)) := by
  obtain ⟨f0, f1, f2, f3, f4, f5, f6, f7, f8, f9, f10, f11, f12, f13, f14, f15, f16, f17, f18, f19, hal, hfn, fp, fq, ffr⟩ := id w
  obtain ⟨hf1, hf2, hfl, hnn, hnm, hno, hc1, hc2⟩ := id hI.le
  refine Ct_of [some (.ref (ad 0)), some (.int x), some (.int y), some (.int z), none, none] (by decide) rfl rfl (Nat.le_of_ble_eq_true rfl) rfl rfl (fun X hX h => ?_)
  subst hX
  rcases inN_cases x σ.nf with h1 | ⟨a, ha, rfl⟩
  · refine j_aload0 (pc := 0) h dX7_sum_0 ?_
    refine j_getf (pc := 1) h dX7_sum_1 (f0) fl_X7_12 rfl ?_
    refine j_iload1 (pc := 4) h dX7_sum_4 ?_
    refine j_callVr (pc := 5) h dX7_sum_5 (k_X1_has f1 hf2) mv_X7_64 (f1) rfl rfl (by decide) (Nat.le_of_ble_eq_true rfl) (Nat.le_of_ble_eq_true rfl) (Nat.le_of_ble_eq_true rfl) ?_
    refine j_if_eqB (pc := 8) (tgt := 30) h dX7_sum_8 (by decide) (fun c8 => ?_) (fun c8 => absurd c8 (by rw [h1]; decide))
    refine j_iconst (pc := 30) h dX7_sum_30 ic_m1 ?_
    refine j_iretr (pc := 31) h dX7_sum_31 (rfl)
  · refine j_aload0 (pc := 0) h dX7_sum_0 ?_
    refine j_getf (pc := 1) h dX7_sum_1 (f0) fl_X7_12 rfl ?_
    refine j_iload1 (pc := 4) h dX7_sum_4 ?_
    refine j_callVr (pc := 5) h dX7_sum_5 (k_X1_has f1 hf2) mv_X7_64 (f1) rfl rfl (by decide) (Nat.le_of_ble_eq_true rfl) (Nat.le_of_ble_eq_true rfl) (Nat.le_of_ble_eq_true rfl) ?_
    refine j_if_eqB (pc := 8) (tgt := 30) h dX7_sum_8 (by decide) (fun c8 => absurd c8 (by rw [inN_nI (by omega)]; simp; omega)) (fun c8 => ?_)
    refine j_iload2 (pc := 11) h dX7_sum_11 ?_
    refine j_callSr (pc := 12) h dX7_sum_12 (k_X7_isPerson) ms_X7_68 rfl rfl (by decide) (Nat.le_of_ble_eq_true rfl) (Nat.le_of_ble_eq_true rfl) (Nat.le_of_ble_eq_true rfl) ?_
    refine j_if_eqB (pc := 15) (tgt := 30) h dX7_sum_15 (by decide) (fun c15 => ?_) (fun c15 => ?_)
    · refine j_iconst (pc := 30) h dX7_sum_30 ic_m1 ?_
      refine j_iretr (pc := 31) h dX7_sum_31 (rfl)
    · refine j_aload0 (pc := 18) h dX7_sum_18 ?_
      refine j_getf (pc := 19) h dX7_sum_19 (f0) fl_X7_12 rfl ?_
      refine j_iload1 (pc := 22) h dX7_sum_22 ?_
      refine j_iload2 (pc := 23) h dX7_sum_23 ?_
      refine j_callVr (pc := 24) h dX7_sum_24 (k_X1_maySum f1 f2 f3 f4 hf2 ha hI.ok hI.pr) mv_X7_149 (f1) rfl rfl (by decide) (Nat.le_of_ble_eq_true rfl) (Nat.le_of_ble_eq_true rfl) (Nat.le_of_ble_eq_true rfl) ?_
      refine j_if_neB (pc := 27) (tgt := 32) h dX7_sum_27 (by decide) (fun c27 => ?_) (fun c27 => ?_)
      · refine j_aload0 (pc := 32) h dX7_sum_32 ?_
        refine j_iload1 (pc := 33) h dX7_sum_33 ?_
        refine j_callVr (pc := 34) h dX7_sum_34 (k_X7_filesOfTree w hI ha) mv_X7_152 (f0) rfl rfl (by decide) (Nat.le_of_ble_eq_true rfl) (Nat.le_of_ble_eq_true rfl) (Nat.le_of_ble_eq_true rfl) ?_
        refine j_lstore4 (pc := 37) h dX7_sum_37 rfl ?_
        refine j_iload3 (pc := 39) h dX7_sum_39 ?_
        refine j_tableOut (pc := 40) (tgt := 97) h dX7_sum_40 (no_sw (n := 2) (sum_z ha c15 hx hf2)) (by decide) ?_
        refine j_iconst (pc := 97) h dX7_sum_97 ic_m1 ?_
        refine j_iretr (pc := 98) h dX7_sum_98 (rfl)
      · refine j_iconst (pc := 30) h dX7_sum_30 ic_m1 ?_
        refine j_iretr (pc := 31) h dX7_sum_31 (rfl)
theorem k_X7_sum_nm {a : Nat} {y z : Int32} (w : CW g ad σ ρ C) (hI : Inv σ) (ha : a < σ.nf) (hy : inN y 6 = true) (hm : may σ y a = false) : Cr l g yX7_sum cX7_sum 6 (some .int) 5 [.ref (ad 0), .int (nI a), .int y, .int z] ad C (.int (-1)) := by
  obtain ⟨f0, f1, f2, f3, f4, f5, f6, f7, f8, f9, f10, f11, f12, f13, f14, f15, f16, f17, f18, f19, hal, hfn, fp, fq, ffr⟩ := id w
  obtain ⟨hf1, hf2, hfl, hnn, hnm, hno, hc1, hc2⟩ := id hI.le
  refine Ct_of [some (.ref (ad 0)), some (.int (nI a)), some (.int y), some (.int z), none, none] (by decide) rfl rfl (Nat.le_of_ble_eq_true rfl) rfl rfl (fun X hX h => ?_)
  subst hX
  refine j_aload0 (pc := 0) h dX7_sum_0 ?_
  refine j_getf (pc := 1) h dX7_sum_1 (f0) fl_X7_12 rfl ?_
  refine j_iload1 (pc := 4) h dX7_sum_4 ?_
  refine j_callVr (pc := 5) h dX7_sum_5 (k_X1_has f1 hf2) mv_X7_64 (f1) rfl rfl (by decide) (Nat.le_of_ble_eq_true rfl) (Nat.le_of_ble_eq_true rfl) (Nat.le_of_ble_eq_true rfl) ?_
  refine j_if_eqB (pc := 8) (tgt := 30) h dX7_sum_8 (by decide) (fun c8 => absurd c8 (by rw [inN_nI (by omega)]; simp; omega)) (fun c8 => ?_)
  refine j_iload2 (pc := 11) h dX7_sum_11 ?_
  refine j_callSr (pc := 12) h dX7_sum_12 (k_X7_isPerson) ms_X7_68 rfl rfl (by decide) (Nat.le_of_ble_eq_true rfl) (Nat.le_of_ble_eq_true rfl) (Nat.le_of_ble_eq_true rfl) ?_
  refine j_if_eqB (pc := 15) (tgt := 30) h dX7_sum_15 (by decide) (fun c15 => absurd c15 (by rw [hy]; decide)) (fun c15 => ?_)
  refine j_aload0 (pc := 18) h dX7_sum_18 ?_
  refine j_getf (pc := 19) h dX7_sum_19 (f0) fl_X7_12 rfl ?_
  refine j_iload1 (pc := 22) h dX7_sum_22 ?_
  refine j_iload2 (pc := 23) h dX7_sum_23 ?_
  refine j_callVr (pc := 24) h dX7_sum_24 (k_X1_maySum f1 f2 f3 f4 hf2 ha hI.ok hI.pr) mv_X7_149 (f1) rfl rfl (by decide) (Nat.le_of_ble_eq_true rfl) (Nat.le_of_ble_eq_true rfl) (Nat.le_of_ble_eq_true rfl) ?_
  refine j_if_neB (pc := 27) (tgt := 32) h dX7_sum_27 (by decide) (fun c27 => absurd (c27.symm.trans hm) (by decide)) (fun c27 => ?_)
  refine j_iconst (pc := 30) h dX7_sum_30 ic_m1 ?_
  refine j_iretr (pc := 31) h dX7_sum_31 (rfl)
theorem k_X7_sum0 {a : Nat} {y : Int32} (w : CW g ad σ ρ C) (hI : Inv σ) (ha : a < σ.nf) (hy : inN y 6 = true) (hm : may σ y a = true) : Cr l g yX7_sum cX7_sum 6 (some .int) 5 [.ref (ad 0), .int (nI a), .int y, .int (nI 0)] ad C (.int (nI (tkS σ a))) := by
  obtain ⟨f0, f1, f2, f3, f4, f5, f6, f7, f8, f9, f10, f11, f12, f13, f14, f15, f16, f17, f18, f19, hal, hfn, fp, fq, ffr⟩ := id w
  obtain ⟨hf1, hf2, hfl, hnn, hnm, hno, hc1, hc2⟩ := id hI.le
  refine Ct_of [some (.ref (ad 0)), some (.int (nI a)), some (.int y), some (.int (nI 0)), none, none] (by decide) rfl rfl (Nat.le_of_ble_eq_true rfl) rfl rfl (fun X hX h => ?_)
  subst hX
  refine j_aload0 (pc := 0) h dX7_sum_0 ?_
  refine j_getf (pc := 1) h dX7_sum_1 (f0) fl_X7_12 rfl ?_
  refine j_iload1 (pc := 4) h dX7_sum_4 ?_
  refine j_callVr (pc := 5) h dX7_sum_5 (k_X1_has f1 hf2) mv_X7_64 (f1) rfl rfl (by decide) (Nat.le_of_ble_eq_true rfl) (Nat.le_of_ble_eq_true rfl) (Nat.le_of_ble_eq_true rfl) ?_
  refine j_if_eqB (pc := 8) (tgt := 30) h dX7_sum_8 (by decide) (fun c8 => absurd c8 (by rw [inN_nI (by omega)]; simp; omega)) (fun c8 => ?_)
  refine j_iload2 (pc := 11) h dX7_sum_11 ?_
  refine j_callSr (pc := 12) h dX7_sum_12 (k_X7_isPerson) ms_X7_68 rfl rfl (by decide) (Nat.le_of_ble_eq_true rfl) (Nat.le_of_ble_eq_true rfl) (Nat.le_of_ble_eq_true rfl) ?_
  refine j_if_eqB (pc := 15) (tgt := 30) h dX7_sum_15 (by decide) (fun c15 => absurd c15 (by rw [hy]; decide)) (fun c15 => ?_)
  refine j_aload0 (pc := 18) h dX7_sum_18 ?_
  refine j_getf (pc := 19) h dX7_sum_19 (f0) fl_X7_12 rfl ?_
  refine j_iload1 (pc := 22) h dX7_sum_22 ?_
  refine j_iload2 (pc := 23) h dX7_sum_23 ?_
  refine j_callVr (pc := 24) h dX7_sum_24 (k_X1_maySum f1 f2 f3 f4 hf2 ha hI.ok hI.pr) mv_X7_149 (f1) rfl rfl (by decide) (Nat.le_of_ble_eq_true rfl) (Nat.le_of_ble_eq_true rfl) (Nat.le_of_ble_eq_true rfl) ?_
  refine j_if_neB (pc := 27) (tgt := 32) h dX7_sum_27 (by decide) (fun c27 => ?_) (fun c27 => absurd (hm.symm.trans c27) (by decide))
  refine j_aload0 (pc := 32) h dX7_sum_32 ?_
  refine j_iload1 (pc := 33) h dX7_sum_33 ?_
  refine j_callVr (pc := 34) h dX7_sum_34 (k_X7_filesOfTree w hI ha) mv_X7_152 (f0) rfl rfl (by decide) (Nat.le_of_ble_eq_true rfl) (Nat.le_of_ble_eq_true rfl) (Nat.le_of_ble_eq_true rfl) ?_
  refine j_lstore4 (pc := 37) h dX7_sum_37 rfl ?_
  refine j_iload3 (pc := 39) h dX7_sum_39 ?_
  refine j_tableIn (pc := 40) (tgt := 68) h dX7_sum_40 (by decide) (by decide) (rfl) (by decide) ?_
  refine j_aload0 (pc := 68) h dX7_sum_68 ?_
  refine j_getf (pc := 69) h dX7_sum_69 (f0) fl_X7_19 rfl ?_
  refine j_lload4 (pc := 72) h dX7_sum_72 ?_
  refine j_callVr (pc := 74) h dX7_sum_74 (k_X0_hadBy f5 f6 fp hfl hal) mv_X7_156 (f5) rfl rfl (by decide) (Nat.le_of_ble_eq_true rfl) (Nat.le_of_ble_eq_true rfl) (Nat.le_of_ble_eq_true rfl) ?_
  refine j_callSr (pc := 77) h dX7_sum_77 (k_J13_bitCount_95d88) ms_X7_125 rfl rfl (by decide) (Nat.le_of_ble_eq_true rfl) (Nat.le_of_ble_eq_true rfl) (Nat.le_of_ble_eq_true rfl) ?_
  refine j_iretr (pc := 80) h dX7_sum_80 (by rw [hb_gon hI (gs := fun i => isn σ i a) (fun i _ => ft_bit w hI a i)]; rfl)
theorem k_X7_sum1 {a : Nat} {y : Int32} (w : CW g ad σ ρ C) (hI : Inv σ) (ha : a < σ.nf) (hy : inN y 6 = true) (hm : may σ y a = true) : Cr l g yX7_sum cX7_sum 6 (some .int) 5 [.ref (ad 0), .int (nI a), .int y, .int (nI 1)] ad C (.int (nI (lenS σ a))) := by
  obtain ⟨f0, f1, f2, f3, f4, f5, f6, f7, f8, f9, f10, f11, f12, f13, f14, f15, f16, f17, f18, f19, hal, hfn, fp, fq, ffr⟩ := id w
  obtain ⟨hf1, hf2, hfl, hnn, hnm, hno, hc1, hc2⟩ := id hI.le
  refine Ct_of [some (.ref (ad 0)), some (.int (nI a)), some (.int y), some (.int (nI 1)), none, none] (by decide) rfl rfl (Nat.le_of_ble_eq_true rfl) rfl rfl (fun X hX h => ?_)
  subst hX
  refine j_aload0 (pc := 0) h dX7_sum_0 ?_
  refine j_getf (pc := 1) h dX7_sum_1 (f0) fl_X7_12 rfl ?_
  refine j_iload1 (pc := 4) h dX7_sum_4 ?_
  refine j_callVr (pc := 5) h dX7_sum_5 (k_X1_has f1 hf2) mv_X7_64 (f1) rfl rfl (by decide) (Nat.le_of_ble_eq_true rfl) (Nat.le_of_ble_eq_true rfl) (Nat.le_of_ble_eq_true rfl) ?_
  refine j_if_eqB (pc := 8) (tgt := 30) h dX7_sum_8 (by decide) (fun c8 => absurd c8 (by rw [inN_nI (by omega)]; simp; omega)) (fun c8 => ?_)
  refine j_iload2 (pc := 11) h dX7_sum_11 ?_
  refine j_callSr (pc := 12) h dX7_sum_12 (k_X7_isPerson) ms_X7_68 rfl rfl (by decide) (Nat.le_of_ble_eq_true rfl) (Nat.le_of_ble_eq_true rfl) (Nat.le_of_ble_eq_true rfl) ?_
  refine j_if_eqB (pc := 15) (tgt := 30) h dX7_sum_15 (by decide) (fun c15 => absurd c15 (by rw [hy]; decide)) (fun c15 => ?_)
  refine j_aload0 (pc := 18) h dX7_sum_18 ?_
  refine j_getf (pc := 19) h dX7_sum_19 (f0) fl_X7_12 rfl ?_
  refine j_iload1 (pc := 22) h dX7_sum_22 ?_
  refine j_iload2 (pc := 23) h dX7_sum_23 ?_
  refine j_callVr (pc := 24) h dX7_sum_24 (k_X1_maySum f1 f2 f3 f4 hf2 ha hI.ok hI.pr) mv_X7_149 (f1) rfl rfl (by decide) (Nat.le_of_ble_eq_true rfl) (Nat.le_of_ble_eq_true rfl) (Nat.le_of_ble_eq_true rfl) ?_
  refine j_if_neB (pc := 27) (tgt := 32) h dX7_sum_27 (by decide) (fun c27 => ?_) (fun c27 => absurd (hm.symm.trans c27) (by decide))
  refine j_aload0 (pc := 32) h dX7_sum_32 ?_
  refine j_iload1 (pc := 33) h dX7_sum_33 ?_
  refine j_callVr (pc := 34) h dX7_sum_34 (k_X7_filesOfTree w hI ha) mv_X7_152 (f0) rfl rfl (by decide) (Nat.le_of_ble_eq_true rfl) (Nat.le_of_ble_eq_true rfl) (Nat.le_of_ble_eq_true rfl) ?_
  refine j_lstore4 (pc := 37) h dX7_sum_37 rfl ?_
  refine j_iload3 (pc := 39) h dX7_sum_39 ?_
  refine j_tableIn (pc := 40) (tgt := 81) h dX7_sum_40 (by decide) (by decide) (rfl) (by decide) ?_
  refine j_aload0 (pc := 81) h dX7_sum_81 ?_
  refine j_getf (pc := 82) h dX7_sum_82 (f0) fl_X7_19 rfl ?_
  refine j_lload4 (pc := 85) h dX7_sum_85 ?_
  refine j_callVr (pc := 87) h dX7_sum_87 (k_X0_lengthOf f5 f6 fp hfl hal) mv_X7_160 (f5) rfl rfl (by decide) (Nat.le_of_ble_eq_true rfl) (Nat.le_of_ble_eq_true rfl) (Nat.le_of_ble_eq_true rfl) ?_
  refine j_iretr (pc := 90) h dX7_sum_90 (by rw [len_eq w hI])
theorem k_X7_sum2 {a : Nat} {y : Int32} (w : CW g ad σ ρ C) (hI : Inv σ) (ha : a < σ.nf) (hy : inN y 6 = true) (hm : may σ y a = true) : Cr l g yX7_sum cX7_sum 6 (some .int) 5 [.ref (ad 0), .int (nI a), .int y, .int (nI 2)] ad C (.int (nI (filS σ a))) := by
  obtain ⟨f0, f1, f2, f3, f4, f5, f6, f7, f8, f9, f10, f11, f12, f13, f14, f15, f16, f17, f18, f19, hal, hfn, fp, fq, ffr⟩ := id w
  obtain ⟨hf1, hf2, hfl, hnn, hnm, hno, hc1, hc2⟩ := id hI.le
  refine Ct_of [some (.ref (ad 0)), some (.int (nI a)), some (.int y), some (.int (nI 2)), none, none] (by decide) rfl rfl (Nat.le_of_ble_eq_true rfl) rfl rfl (fun X hX h => ?_)
  subst hX
  refine j_aload0 (pc := 0) h dX7_sum_0 ?_
  refine j_getf (pc := 1) h dX7_sum_1 (f0) fl_X7_12 rfl ?_
  refine j_iload1 (pc := 4) h dX7_sum_4 ?_
  refine j_callVr (pc := 5) h dX7_sum_5 (k_X1_has f1 hf2) mv_X7_64 (f1) rfl rfl (by decide) (Nat.le_of_ble_eq_true rfl) (Nat.le_of_ble_eq_true rfl) (Nat.le_of_ble_eq_true rfl) ?_
  refine j_if_eqB (pc := 8) (tgt := 30) h dX7_sum_8 (by decide) (fun c8 => absurd c8 (by rw [inN_nI (by omega)]; simp; omega)) (fun c8 => ?_)
  refine j_iload2 (pc := 11) h dX7_sum_11 ?_
  refine j_callSr (pc := 12) h dX7_sum_12 (k_X7_isPerson) ms_X7_68 rfl rfl (by decide) (Nat.le_of_ble_eq_true rfl) (Nat.le_of_ble_eq_true rfl) (Nat.le_of_ble_eq_true rfl) ?_
  refine j_if_eqB (pc := 15) (tgt := 30) h dX7_sum_15 (by decide) (fun c15 => absurd c15 (by rw [hy]; decide)) (fun c15 => ?_)
  refine j_aload0 (pc := 18) h dX7_sum_18 ?_
  refine j_getf (pc := 19) h dX7_sum_19 (f0) fl_X7_12 rfl ?_
  refine j_iload1 (pc := 22) h dX7_sum_22 ?_
  refine j_iload2 (pc := 23) h dX7_sum_23 ?_
  refine j_callVr (pc := 24) h dX7_sum_24 (k_X1_maySum f1 f2 f3 f4 hf2 ha hI.ok hI.pr) mv_X7_149 (f1) rfl rfl (by decide) (Nat.le_of_ble_eq_true rfl) (Nat.le_of_ble_eq_true rfl) (Nat.le_of_ble_eq_true rfl) ?_
  refine j_if_neB (pc := 27) (tgt := 32) h dX7_sum_27 (by decide) (fun c27 => ?_) (fun c27 => absurd (hm.symm.trans c27) (by decide))
  refine j_aload0 (pc := 32) h dX7_sum_32 ?_
  refine j_iload1 (pc := 33) h dX7_sum_33 ?_
  refine j_callVr (pc := 34) h dX7_sum_34 (k_X7_filesOfTree w hI ha) mv_X7_152 (f0) rfl rfl (by decide) (Nat.le_of_ble_eq_true rfl) (Nat.le_of_ble_eq_true rfl) (Nat.le_of_ble_eq_true rfl) ?_
  refine j_lstore4 (pc := 37) h dX7_sum_37 rfl ?_
  refine j_iload3 (pc := 39) h dX7_sum_39 ?_
  refine j_tableIn (pc := 40) (tgt := 91) h dX7_sum_40 (by decide) (by decide) (rfl) (by decide) ?_
  refine j_lload4 (pc := 91) h dX7_sum_91 ?_
  refine j_callSr (pc := 93) h dX7_sum_93 (k_J13_bitCount_95d88) ms_X7_125 rfl rfl (by decide) (Nat.le_of_ble_eq_true rfl) (Nat.le_of_ble_eq_true rfl) (Nat.le_of_ble_eq_true rfl) ?_
  refine j_iretr (pc := 96) h dX7_sum_96 (by rw [fil_eq w hI])
theorem k_X7_named_no {x y z : Int32} (w : CW g ad σ ρ C) (hI : Inv σ) (hx : inN x σ.nf = false ∨ inN y 6 = false ∨ ∃ a, a < σ.nf ∧ x = nI a ∧ sees σ.pr σ.hd σ.fow y 29 a = false) : Cr l g yX7_named cX7_named 4 (some .int) 3 [.ref (ad 0), .int x, .int y, .int z] ad C (.int (-1)) := by
  obtain ⟨f0, f1, f2, f3, f4, f5, f6, f7, f8, f9, f10, f11, f12, f13, f14, f15, f16, f17, f18, f19, hal, hfn, fp, fq, ffr⟩ := id w
  obtain ⟨hf1, hf2, hfl, hnn, hnm, hno, hc1, hc2⟩ := id hI.le
  refine Ct_of [some (.ref (ad 0)), some (.int x), some (.int y), some (.int z)] (by decide) rfl rfl (Nat.le_of_ble_eq_true rfl) rfl rfl (fun X hX h => ?_)
  subst hX
  refine j_aload0 (pc := 0) h dX7_named_0 ?_
  refine j_getf (pc := 1) h dX7_named_1 (f0) fl_X7_12 rfl ?_
  refine j_iload1 (pc := 4) h dX7_named_4 ?_
  refine j_callVr (pc := 5) h dX7_named_5 (k_X1_has f1 hf2) mv_X7_64 (f1) rfl rfl (by decide) (Nat.le_of_ble_eq_true rfl) (Nat.le_of_ble_eq_true rfl) (Nat.le_of_ble_eq_true rfl) ?_
  refine j_if_eqB (pc := 8) (tgt := 30) h dX7_named_8 (by decide) (fun c8 => ?_) (fun c8 => ?_)
  · refine j_iconst (pc := 30) h dX7_named_30 ic_m1 ?_
    refine j_iretr (pc := 31) h dX7_named_31 (rfl)
  · refine j_iload2 (pc := 11) h dX7_named_11 ?_
    refine j_callSr (pc := 12) h dX7_named_12 (k_X7_isPerson) ms_X7_68 rfl rfl (by decide) (Nat.le_of_ble_eq_true rfl) (Nat.le_of_ble_eq_true rfl) (Nat.le_of_ble_eq_true rfl) ?_
    refine j_if_eqB (pc := 15) (tgt := 30) h dX7_named_15 (by decide) (fun c15 => ?_) (fun c15 => ?_)
    · refine j_iconst (pc := 30) h dX7_named_30 ic_m1 ?_
      refine j_iretr (pc := 31) h dX7_named_31 (rfl)
    · rcases hx with hx | hx | ⟨a, ha, rfl, hx⟩
      · rw [c8] at hx; cases hx
      · rw [c15] at hx; cases hx
      · refine j_aload0 (pc := 18) h dX7_named_18 ?_
        refine j_getf (pc := 19) h dX7_named_19 (f0) fl_X7_12 rfl ?_
        refine j_iload1 (pc := 22) h dX7_named_22 ?_
        refine j_iload2 (pc := 23) h dX7_named_23 ?_
        refine j_callVr (pc := 24) h dX7_named_24 (k_X1_isSeen f1 f2 f3 f4 hf2 ha (hI.ok a ha)) mv_X7_163 (f1) rfl rfl (by decide) (Nat.le_of_ble_eq_true rfl) (Nat.le_of_ble_eq_true rfl) (Nat.le_of_ble_eq_true rfl) ?_
        refine j_if_neB (pc := 27) (tgt := 32) h dX7_named_27 (by decide) (fun c27 => absurd (c27.symm.trans hx) (by decide)) (fun c27 => ?_)
        refine j_iconst (pc := 30) h dX7_named_30 ic_m1 ?_
        refine j_iretr (pc := 31) h dX7_named_31 (rfl)
theorem k_X7_named {a : Nat} {y z : Int32} (w : CW g ad σ ρ C) (hI : Inv σ) (ha : a < σ.nf) (hy : inN y 6 = true) (hs : sees σ.pr σ.hd σ.fow y 29 a = true) : Cr l g yX7_named cX7_named 4 (some .int) 3 [.ref (ad 0), .int (nI a), .int y, .int z] ad C (.int (scan (namP σ a) z 0 σ.nn)) := by
  obtain ⟨f0, f1, f2, f3, f4, f5, f6, f7, f8, f9, f10, f11, f12, f13, f14, f15, f16, f17, f18, f19, hal, hfn, fp, fq, ffr⟩ := id w
  obtain ⟨hf1, hf2, hfl, hnn, hnm, hno, hc1, hc2⟩ := id hI.le
  refine Ct_of [some (.ref (ad 0)), some (.int (nI a)), some (.int y), some (.int z)] (by decide) rfl rfl (Nat.le_of_ble_eq_true rfl) rfl rfl (fun X hX h => ?_)
  subst hX
  refine j_aload0 (pc := 0) h dX7_named_0 ?_
  refine j_getf (pc := 1) h dX7_named_1 (f0) fl_X7_12 rfl ?_
  refine j_iload1 (pc := 4) h dX7_named_4 ?_
  refine j_callVr (pc := 5) h dX7_named_5 (k_X1_has f1 hf2) mv_X7_64 (f1) rfl rfl (by decide) (Nat.le_of_ble_eq_true rfl) (Nat.le_of_ble_eq_true rfl) (Nat.le_of_ble_eq_true rfl) ?_
  refine j_if_eqB (pc := 8) (tgt := 30) h dX7_named_8 (by decide) (fun c8 => absurd c8 (by rw [inN_nI (by omega)]; simp; omega)) (fun c8 => ?_)
  refine j_iload2 (pc := 11) h dX7_named_11 ?_
  refine j_callSr (pc := 12) h dX7_named_12 (k_X7_isPerson) ms_X7_68 rfl rfl (by decide) (Nat.le_of_ble_eq_true rfl) (Nat.le_of_ble_eq_true rfl) (Nat.le_of_ble_eq_true rfl) ?_
  refine j_if_eqB (pc := 15) (tgt := 30) h dX7_named_15 (by decide) (fun c15 => absurd c15 (by rw [hy]; decide)) (fun c15 => ?_)
  refine j_aload0 (pc := 18) h dX7_named_18 ?_
  refine j_getf (pc := 19) h dX7_named_19 (f0) fl_X7_12 rfl ?_
  refine j_iload1 (pc := 22) h dX7_named_22 ?_
  refine j_iload2 (pc := 23) h dX7_named_23 ?_
  refine j_callVr (pc := 24) h dX7_named_24 (k_X1_isSeen f1 f2 f3 f4 hf2 ha (hI.ok a ha)) mv_X7_163 (f1) rfl rfl (by decide) (Nat.le_of_ble_eq_true rfl) (Nat.le_of_ble_eq_true rfl) (Nat.le_of_ble_eq_true rfl) ?_
  refine j_if_neB (pc := 27) (tgt := 32) h dX7_named_27 (by decide) (fun c27 => ?_) (fun c27 => absurd (hs.symm.trans c27) (by decide))
  refine j_aload0 (pc := 32) h dX7_named_32 ?_
  refine j_getf (pc := 33) h dX7_named_33 (f0) fl_X7_26 rfl ?_
  refine j_iload1 (pc := 36) h dX7_named_36 ?_
  refine j_iload3 (pc := 37) h dX7_named_37 ?_
  refine j_callVr (pc := 38) h dX7_named_38 (k_X3_memberIn f7 f8 f9 hnn) mv_X7_166 (f7) rfl rfl (by decide) (Nat.le_of_ble_eq_true rfl) (Nat.le_of_ble_eq_true rfl) (Nat.le_of_ble_eq_true rfl) ?_
  refine j_iretr (pc := 41) h dX7_named_41 (nam_eq hI hfn ha)
theorem k_X7_grew_no {x y z : Int32} (w : CW g ad σ ρ C) (hI : Inv σ) (hx : inN x σ.nf = false ∨ inN y σ.nm = false ∨ (inN z σ.nm = false ∧ ¬ z = -1)) : Cr l g yX7_grew cX7_grew 4 (some .int) 6 [.ref (ad 0), .int x, .int y, .int z] ad C (.int (-2147483648)) := by
  obtain ⟨f0, f1, f2, f3, f4, f5, f6, f7, f8, f9, f10, f11, f12, f13, f14, f15, f16, f17, f18, f19, hal, hfn, fp, fq, ffr⟩ := id w
  obtain ⟨hf1, hf2, hfl, hnn, hnm, hno, hc1, hc2⟩ := id hI.le
  refine Ct_of [some (.ref (ad 0)), some (.int x), some (.int y), some (.int z)] (by decide) rfl rfl (Nat.le_of_ble_eq_true rfl) rfl rfl (fun X hX h => ?_)
  subst hX
  refine j_aload0 (pc := 0) h dX7_grew_0 ?_
  refine j_getf (pc := 1) h dX7_grew_1 (f0) fl_X7_12 rfl ?_
  refine j_iload1 (pc := 4) h dX7_grew_4 ?_
  refine j_callVr (pc := 5) h dX7_grew_5 (k_X1_has f1 hf2) mv_X7_64 (f1) rfl rfl (by decide) (Nat.le_of_ble_eq_true rfl) (Nat.le_of_ble_eq_true rfl) (Nat.le_of_ble_eq_true rfl) ?_
  refine j_if_eqB (pc := 8) (tgt := 22) h dX7_grew_8 (by decide) (fun c8 => ?_) (fun c8 => ?_)
  · refine j_ldc (pc := 22) h dX7_grew_22 kc_X7_187 ?_
    refine j_iretr (pc := 24) h dX7_grew_24 (rfl)
  · refine j_aload0 (pc := 11) h dX7_grew_11 ?_
    refine j_getf (pc := 12) h dX7_grew_12 (f0) fl_X7_40 rfl ?_
    refine j_iload2 (pc := 15) h dX7_grew_15 ?_
    refine j_callVr (pc := 16) h dX7_grew_16 (k_X2_has f13 hnm) mv_X7_186 (f13) rfl rfl (by decide) (Nat.le_of_ble_eq_true rfl) (Nat.le_of_ble_eq_true rfl) (Nat.le_of_ble_eq_true rfl) ?_
    refine j_if_neB (pc := 19) (tgt := 25) h dX7_grew_19 (by decide) (fun c19 => ?_) (fun c19 => ?_)
    · rcases hx with hx | hx | ⟨hx, hz⟩
      · rw [c8] at hx; cases hx
      · rw [c19] at hx; cases hx
      · refine j_iload3 (pc := 25) h dX7_grew_25 ?_
        refine j_iconst (pc := 26) h dX7_grew_26 ic_m1 ?_
        refine j_icmp_ne (pc := 27) (tgt := 46) h dX7_grew_27 (by decide) (fun c27 => ?_) (fun c27 => absurd c27 (hz))
        refine j_aload0 (pc := 46) h dX7_grew_46 ?_
        refine j_getf (pc := 47) h dX7_grew_47 (f0) fl_X7_40 rfl ?_
        refine j_iload3 (pc := 50) h dX7_grew_50 ?_
        refine j_callVr (pc := 51) h dX7_grew_51 (k_X2_has f13 hnm) mv_X7_186 (f13) rfl rfl (by decide) (Nat.le_of_ble_eq_true rfl) (Nat.le_of_ble_eq_true rfl) (Nat.le_of_ble_eq_true rfl) ?_
        refine j_if_neB (pc := 54) (tgt := 60) h dX7_grew_54 (by decide) (fun c54 => absurd (c54.symm.trans hx) (by decide)) (fun c54 => ?_)
        refine j_ldc (pc := 57) h dX7_grew_57 kc_X7_187 ?_
        refine j_iretr (pc := 59) h dX7_grew_59 (rfl)
    · refine j_ldc (pc := 22) h dX7_grew_22 kc_X7_187 ?_
      refine j_iretr (pc := 24) h dX7_grew_24 (rfl)
theorem k_X7_grew_now {a f : Nat} (w : CW g ad σ ρ C) (hI : Inv σ) (ha : a < σ.nf) (hf : f < σ.nm) : Cr l g yX7_grew cX7_grew 4 (some .int) 6 [.ref (ad 0), .int (nI a), .int (nI f), .int (-1)] ad C (.int (nI (tkS σ a) - nI (σ.mt (30 * f + a)))) := by
  obtain ⟨f0, f1, f2, f3, f4, f5, f6, f7, f8, f9, f10, f11, f12, f13, f14, f15, f16, f17, f18, f19, hal, hfn, fp, fq, ffr⟩ := id w
  obtain ⟨hf1, hf2, hfl, hnn, hnm, hno, hc1, hc2⟩ := id hI.le
  refine Ct_of [some (.ref (ad 0)), some (.int (nI a)), some (.int (nI f)), some (.int (-1))] (by decide) rfl rfl (Nat.le_of_ble_eq_true rfl) rfl rfl (fun X hX h => ?_)
  subst hX
  refine j_aload0 (pc := 0) h dX7_grew_0 ?_
  refine j_getf (pc := 1) h dX7_grew_1 (f0) fl_X7_12 rfl ?_
  refine j_iload1 (pc := 4) h dX7_grew_4 ?_
  refine j_callVr (pc := 5) h dX7_grew_5 (k_X1_has f1 hf2) mv_X7_64 (f1) rfl rfl (by decide) (Nat.le_of_ble_eq_true rfl) (Nat.le_of_ble_eq_true rfl) (Nat.le_of_ble_eq_true rfl) ?_
  refine j_if_eqB (pc := 8) (tgt := 22) h dX7_grew_8 (by decide) (fun c8 => absurd c8 (by rw [inN_nI (by omega)]; simp; omega)) (fun c8 => ?_)
  refine j_aload0 (pc := 11) h dX7_grew_11 ?_
  refine j_getf (pc := 12) h dX7_grew_12 (f0) fl_X7_40 rfl ?_
  refine j_iload2 (pc := 15) h dX7_grew_15 ?_
  refine j_callVr (pc := 16) h dX7_grew_16 (k_X2_has f13 hnm) mv_X7_186 (f13) rfl rfl (by decide) (Nat.le_of_ble_eq_true rfl) (Nat.le_of_ble_eq_true rfl) (Nat.le_of_ble_eq_true rfl) ?_
  refine j_if_neB (pc := 19) (tgt := 25) h dX7_grew_19 (by decide) (fun c19 => ?_) (fun c19 => absurd c19 (by rw [inN_nI (by omega)]; simp; omega))
  refine j_iload3 (pc := 25) h dX7_grew_25 ?_
  refine j_iconst (pc := 26) h dX7_grew_26 ic_m1 ?_
  refine j_icmp_ne (pc := 27) (tgt := 46) h dX7_grew_27 (by decide) (fun c27 => absurd (rfl) c27) (fun c27 => ?_)
  refine j_aload0 (pc := 30) h dX7_grew_30 ?_
  refine j_iload1 (pc := 31) h dX7_grew_31 ?_
  refine j_callVr (pc := 32) h dX7_grew_32 (k_X7_takenBy w hI ha) mv_X7_180 (f0) rfl rfl (by decide) (Nat.le_of_ble_eq_true rfl) (Nat.le_of_ble_eq_true rfl) (Nat.le_of_ble_eq_true rfl) ?_
  refine j_aload0 (pc := 35) h dX7_grew_35 ?_
  refine j_getf (pc := 36) h dX7_grew_36 (f0) fl_X7_40 rfl ?_
  refine j_iload2 (pc := 39) h dX7_grew_39 ?_
  refine j_iload1 (pc := 40) h dX7_grew_40 ?_
  refine j_callVr (pc := 41) h dX7_grew_41 (k_X2_takenAt f13 f15 hnm hf (by omega)) mv_X7_188 (f13) rfl rfl (by decide) (Nat.le_of_ble_eq_true rfl) (Nat.le_of_ble_eq_true rfl) (Nat.le_of_ble_eq_true rfl) ?_
  refine j_isub (pc := 44) h dX7_grew_44 ?_
  refine j_iretr (pc := 45) h dX7_grew_45 (by rw [Nat.mul_comm f 30])
theorem k_X7_grew {a f t : Nat} (w : CW g ad σ ρ C) (hI : Inv σ) (ha : a < σ.nf) (hf : f < σ.nm) (ht : t < σ.nm) : Cr l g yX7_grew cX7_grew 4 (some .int) 6 [.ref (ad 0), .int (nI a), .int (nI f), .int (nI t)] ad C (.int (nI (σ.mt (30 * t + a)) - nI (σ.mt (30 * f + a)))) := by
  obtain ⟨f0, f1, f2, f3, f4, f5, f6, f7, f8, f9, f10, f11, f12, f13, f14, f15, f16, f17, f18, f19, hal, hfn, fp, fq, ffr⟩ := id w
  obtain ⟨hf1, hf2, hfl, hnn, hnm, hno, hc1, hc2⟩ := id hI.le
  refine Ct_of [some (.ref (ad 0)), some (.int (nI a)), some (.int (nI f)), some (.int (nI t))] (by decide) rfl rfl (Nat.le_of_ble_eq_true rfl) rfl rfl (fun X hX h => ?_)
  subst hX
  refine j_aload0 (pc := 0) h dX7_grew_0 ?_
  refine j_getf (pc := 1) h dX7_grew_1 (f0) fl_X7_12 rfl ?_
  refine j_iload1 (pc := 4) h dX7_grew_4 ?_
  refine j_callVr (pc := 5) h dX7_grew_5 (k_X1_has f1 hf2) mv_X7_64 (f1) rfl rfl (by decide) (Nat.le_of_ble_eq_true rfl) (Nat.le_of_ble_eq_true rfl) (Nat.le_of_ble_eq_true rfl) ?_
  refine j_if_eqB (pc := 8) (tgt := 22) h dX7_grew_8 (by decide) (fun c8 => absurd c8 (by rw [inN_nI (by omega)]; simp; omega)) (fun c8 => ?_)
  refine j_aload0 (pc := 11) h dX7_grew_11 ?_
  refine j_getf (pc := 12) h dX7_grew_12 (f0) fl_X7_40 rfl ?_
  refine j_iload2 (pc := 15) h dX7_grew_15 ?_
  refine j_callVr (pc := 16) h dX7_grew_16 (k_X2_has f13 hnm) mv_X7_186 (f13) rfl rfl (by decide) (Nat.le_of_ble_eq_true rfl) (Nat.le_of_ble_eq_true rfl) (Nat.le_of_ble_eq_true rfl) ?_
  refine j_if_neB (pc := 19) (tgt := 25) h dX7_grew_19 (by decide) (fun c19 => ?_) (fun c19 => absurd c19 (by rw [inN_nI (by omega)]; simp; omega))
  refine j_iload3 (pc := 25) h dX7_grew_25 ?_
  refine j_iconst (pc := 26) h dX7_grew_26 ic_m1 ?_
  refine j_icmp_ne (pc := 27) (tgt := 46) h dX7_grew_27 (by decide) (fun c27 => ?_) (fun c27 => absurd c27 (nI_m1 (by omega)))
  refine j_aload0 (pc := 46) h dX7_grew_46 ?_
  refine j_getf (pc := 47) h dX7_grew_47 (f0) fl_X7_40 rfl ?_
  refine j_iload3 (pc := 50) h dX7_grew_50 ?_
  refine j_callVr (pc := 51) h dX7_grew_51 (k_X2_has f13 hnm) mv_X7_186 (f13) rfl rfl (by decide) (Nat.le_of_ble_eq_true rfl) (Nat.le_of_ble_eq_true rfl) (Nat.le_of_ble_eq_true rfl) ?_
  refine j_if_neB (pc := 54) (tgt := 60) h dX7_grew_54 (by decide) (fun c54 => ?_) (fun c54 => absurd c54 (by rw [inN_nI (by omega)]; simp; omega))
  refine j_aload0 (pc := 60) h dX7_grew_60 ?_
  refine j_getf (pc := 61) h dX7_grew_61 (f0) fl_X7_40 rfl ?_
  refine j_iload3 (pc := 64) h dX7_grew_64 ?_
  refine j_iload1 (pc := 65) h dX7_grew_65 ?_
  refine j_callVr (pc := 66) h dX7_grew_66 (k_X2_takenAt f13 f15 hnm ht (by omega)) mv_X7_188 (f13) rfl rfl (by decide) (Nat.le_of_ble_eq_true rfl) (Nat.le_of_ble_eq_true rfl) (Nat.le_of_ble_eq_true rfl) ?_
  refine j_aload0 (pc := 69) h dX7_grew_69 ?_
  refine j_getf (pc := 70) h dX7_grew_70 (f0) fl_X7_40 rfl ?_
  refine j_iload2 (pc := 73) h dX7_grew_73 ?_
  refine j_iload1 (pc := 74) h dX7_grew_74 ?_
  refine j_callVr (pc := 75) h dX7_grew_75 (k_X2_takenAt f13 f15 hnm hf (by omega)) mv_X7_188 (f13) rfl rfl (by decide) (Nat.le_of_ble_eq_true rfl) (Nat.le_of_ble_eq_true rfl) (Nat.le_of_ble_eq_true rfl) ?_
  refine j_isub (pc := 78) h dX7_grew_78 ?_
  refine j_iretr (pc := 79) h dX7_grew_79 (by rw [Nat.mul_comm f 30, Nat.mul_comm t 30])
theorem k_X7_full_no {x : Int32} (w : CW g ad σ ρ C) (hx : inN x 2 = false) : Cr l g yX7_full cX7_full 2 (some .int) 7 [.ref (ad 0), .int x] ad C (.int (-1)) := by
  refine Ct_of [some (.ref (ad 0)), some (.int x)] (by decide) rfl rfl (Nat.le_of_ble_eq_true rfl) rfl rfl (fun X hX h => ?_)
  subst hX
  refine j_iload1 (pc := 0) h dX7_full_0 ?_
  refine j_lookup (pc := 1) (tgt := 52) h dX7_full_1 (by decide) (full_sw hx) (by decide) ?_
  refine j_iconst (pc := 52) h dX7_full_52 ic_m1 ?_
  refine j_iretr (pc := 53) h dX7_full_53 (rfl)
theorem k_X7_full0 (w : CW g ad σ ρ C) (hI : Inv σ) (hM : InvM σ) : Cr l g yX7_full cX7_full 2 (some .int) 7 [.ref (ad 0), .int (nI 0)] ad C (.int (fulS σ (grG σ.md (tkF σ) (σ.nm - 1)))) := by
  obtain ⟨f0, f1, f2, f3, f4, f5, f6, f7, f8, f9, f10, f11, f12, f13, f14, f15, f16, f17, f18, f19, hal, hfn, fp, fq, ffr⟩ := id w
  obtain ⟨hf1, hf2, hfl, hnn, hnm, hno, hc1, hc2⟩ := id hI.le
  refine Ct_of [some (.ref (ad 0)), some (.int (nI 0))] (by decide) rfl rfl (Nat.le_of_ble_eq_true rfl) rfl rfl (fun X hX h => ?_)
  subst hX
  refine j_iload1 (pc := 0) h dX7_full_0 ?_
  refine j_lookup (pc := 1) (tgt := 28) h dX7_full_1 (by decide) (fsw0) (by decide) ?_
  refine j_aload0 (pc := 28) h dX7_full_28 ?_
  refine j_aload0 (pc := 29) h dX7_full_29 ?_
  refine j_getf (pc := 30) h dX7_full_30 (f0) fl_X7_40 rfl ?_
  refine j_callVr (pc := 33) h dX7_full_33 (k_X2_greatestGrowth f13 f14 f15 hnm (fun i hi => Nat.le_trans (hM.1 i hi) hno)) mv_X7_214 (f13) rfl rfl (by decide) (Nat.le_of_ble_eq_true rfl) (Nat.le_of_ble_eq_true rfl) (Nat.le_of_ble_eq_true rfl) ?_
  refine j_callVr (pc := 36) h dX7_full_36 (k_X7_dayFullBy w hI) mv_X7_218 (f0) rfl rfl (by decide) (Nat.le_of_ble_eq_true rfl) (Nat.le_of_ble_eq_true rfl) (Nat.le_of_ble_eq_true rfl) ?_
  refine j_iretr (pc := 39) h dX7_full_39 (rfl)
theorem k_X7_full1 (w : CW g ad σ ρ C) (hI : Inv σ) (hM : InvM σ) : Cr l g yX7_full cX7_full 2 (some .int) 7 [.ref (ad 0), .int (nI 1)] ad C (.int (fulS σ (grL σ.md (tkF σ) (σ.nm - 1)))) := by
  obtain ⟨f0, f1, f2, f3, f4, f5, f6, f7, f8, f9, f10, f11, f12, f13, f14, f15, f16, f17, f18, f19, hal, hfn, fp, fq, ffr⟩ := id w
  obtain ⟨hf1, hf2, hfl, hnn, hnm, hno, hc1, hc2⟩ := id hI.le
  refine Ct_of [some (.ref (ad 0)), some (.int (nI 1))] (by decide) rfl rfl (Nat.le_of_ble_eq_true rfl) rfl rfl (fun X hX h => ?_)
  subst hX
  refine j_iload1 (pc := 0) h dX7_full_0 ?_
  refine j_lookup (pc := 1) (tgt := 40) h dX7_full_1 (by decide) (fsw1) (by decide) ?_
  refine j_aload0 (pc := 40) h dX7_full_40 ?_
  refine j_aload0 (pc := 41) h dX7_full_41 ?_
  refine j_getf (pc := 42) h dX7_full_42 (f0) fl_X7_40 rfl ?_
  refine j_callVr (pc := 45) h dX7_full_45 (k_X2_leastGrowth f13 f14 f15 hnm (fun i hi => Nat.le_trans (hM.1 i hi) hno)) mv_X7_221 (f13) rfl rfl (by decide) (Nat.le_of_ble_eq_true rfl) (Nat.le_of_ble_eq_true rfl) (Nat.le_of_ble_eq_true rfl) ?_
  refine j_callVr (pc := 48) h dX7_full_48 (k_X7_dayFullBy w hI) mv_X7_218 (f0) rfl rfl (by decide) (Nat.le_of_ble_eq_true rfl) (Nat.le_of_ble_eq_true rfl) (Nat.le_of_ble_eq_true rfl) ?_
  refine j_iretr (pc := 51) h dX7_full_51 (rfl)
theorem k_X7_told_no {x y : Int32} (w : CW g ad σ ρ C) (hI : Inv σ) (hx : inN x σ.nfl = false ∨ ∃ i, i < σ.nfl ∧ x = nI i ∧ lv σ i = false) : Cr l g yX7_told cX7_told 4 (some .int) 3 [.ref (ad 0), .int x, .int y] ad C (.int (-1)) := by
  obtain ⟨f0, f1, f2, f3, f4, f5, f6, f7, f8, f9, f10, f11, f12, f13, f14, f15, f16, f17, f18, f19, hal, hfn, fp, fq, ffr⟩ := id w
  obtain ⟨hf1, hf2, hfl, hnn, hnm, hno, hc1, hc2⟩ := id hI.le
  refine Ct_of [some (.ref (ad 0)), some (.int x), some (.int y), none] (by decide) rfl rfl (Nat.le_of_ble_eq_true rfl) rfl rfl (fun X hX h => ?_)
  subst hX
  rcases hx with hx | ⟨i, hi, rfl, hx⟩
  · refine j_aload0 (pc := 0) h dX7_told_0 ?_
    refine j_getf (pc := 1) h dX7_told_1 (f0) fl_X7_19 rfl ?_
    refine j_iload1 (pc := 4) h dX7_told_4 ?_
    refine j_callVr (pc := 5) h dX7_told_5 (k_X0_find_no f5 hfl hx) mv_X7_101 (f5) rfl rfl (by decide) (Nat.le_of_ble_eq_true rfl) (Nat.le_of_ble_eq_true rfl) (Nat.le_of_ble_eq_true rfl) ?_
    refine j_astore3N (pc := 8) h dX7_told_8 rfl ?_
    refine j_aload3N (pc := 9) h dX7_told_9 ?_
    refine j_ifnonnullN (pc := 10) h dX7_told_10 ?_
    refine j_iconst (pc := 13) h dX7_told_13 ic_m1 ?_
    refine j_iretr (pc := 14) h dX7_told_14 (rfl)
  · refine j_aload0 (pc := 0) h dX7_told_0 ?_
    refine j_getf (pc := 1) h dX7_told_1 (f0) fl_X7_19 rfl ?_
    refine j_iload1 (pc := 4) h dX7_told_4 ?_
    refine j_callVr (pc := 5) h dX7_told_5 (k_X0_find_n f5 f6 hfl hi hal hx) mv_X7_101 (f5) rfl rfl (by decide) (Nat.le_of_ble_eq_true rfl) (Nat.le_of_ble_eq_true rfl) (Nat.le_of_ble_eq_true rfl) ?_
    refine j_astore3N (pc := 8) h dX7_told_8 rfl ?_
    refine j_aload3N (pc := 9) h dX7_told_9 ?_
    refine j_ifnonnullN (pc := 10) h dX7_told_10 ?_
    refine j_iconst (pc := 13) h dX7_told_13 ic_m1 ?_
    refine j_iretr (pc := 14) h dX7_told_14 (rfl)
theorem k_X7_told_out {i : Nat} {y : Int32} (w : CW g ad σ ρ C) (hI : Inv σ) (hi : i < σ.nfl) (hl : lv σ i = true) (hy : inN y 7 = false) : Cr l g yX7_told cX7_told 4 (some .int) 3 [.ref (ad 0), .int (nI i), .int y] ad C (.int (-1)) := by
  obtain ⟨f0, f1, f2, f3, f4, f5, f6, f7, f8, f9, f10, f11, f12, f13, f14, f15, f16, f17, f18, f19, hal, hfn, fp, fq, ffr⟩ := id w
  obtain ⟨hf1, hf2, hfl, hnn, hnm, hno, hc1, hc2⟩ := id hI.le
  refine Ct_of [some (.ref (ad 0)), some (.int (nI i)), some (.int y), none] (by decide) rfl rfl (Nat.le_of_ble_eq_true rfl) rfl rfl (fun X hX h => ?_)
  subst hX
  refine j_aload0 (pc := 0) h dX7_told_0 ?_
  refine j_getf (pc := 1) h dX7_told_1 (f0) fl_X7_19 rfl ?_
  refine j_iload1 (pc := 4) h dX7_told_4 ?_
  refine j_callVr (pc := 5) h dX7_told_5 (k_X0_find f5 f6 hfl hi hal hl) mv_X7_101 (f5) rfl rfl (by decide) (Nat.le_of_ble_eq_true rfl) (Nat.le_of_ble_eq_true rfl) (Nat.le_of_ble_eq_true rfl) ?_
  refine j_astore3 (pc := 8) h dX7_told_8 rfl ?_
  refine j_aload3 (pc := 9) h dX7_told_9 ?_
  refine j_ifnonnull (pc := 10) (tgt := 15) h dX7_told_10 (by decide) ?_
  refine j_iload2 (pc := 15) h dX7_told_15 ?_
  refine j_tableOut (pc := 16) (tgt := 102) h dX7_told_16 (no_sw (n := 6) hy) (by decide) ?_
  refine j_iconst (pc := 102) h dX7_told_102 ic_m1 ?_
  refine j_iretr (pc := 103) h dX7_told_103 (rfl)
theorem k_X7_told0 {i : Nat} (w : CW g ad σ ρ C) (hI : Inv σ) (hi : i < σ.nfl) (hl : lv σ i = true) : Cr l g yX7_told cX7_told 4 (some .int) 3 [.ref (ad 0), .int (nI i), .int (nI 0)] ad C (.int (nI (σ.ln i))) := by
  obtain ⟨f0, f1, f2, f3, f4, f5, f6, f7, f8, f9, f10, f11, f12, f13, f14, f15, f16, f17, f18, f19, hal, hfn, fp, fq, ffr⟩ := id w
  obtain ⟨hf1, hf2, hfl, hnn, hnm, hno, hc1, hc2⟩ := id hI.le
  refine Ct_of [some (.ref (ad 0)), some (.int (nI i)), some (.int (nI 0)), none] (by decide) rfl rfl (Nat.le_of_ble_eq_true rfl) rfl rfl (fun X hX h => ?_)
  subst hX
  refine j_aload0 (pc := 0) h dX7_told_0 ?_
  refine j_getf (pc := 1) h dX7_told_1 (f0) fl_X7_19 rfl ?_
  refine j_iload1 (pc := 4) h dX7_told_4 ?_
  refine j_callVr (pc := 5) h dX7_told_5 (k_X0_find f5 f6 hfl hi hal hl) mv_X7_101 (f5) rfl rfl (by decide) (Nat.le_of_ble_eq_true rfl) (Nat.le_of_ble_eq_true rfl) (Nat.le_of_ble_eq_true rfl) ?_
  refine j_astore3 (pc := 8) h dX7_told_8 rfl ?_
  refine j_aload3 (pc := 9) h dX7_told_9 ?_
  refine j_ifnonnull (pc := 10) (tgt := 15) h dX7_told_10 (by decide) ?_
  refine j_iload2 (pc := 15) h dX7_told_15 ?_
  refine j_tableIn (pc := 16) (tgt := 60) h dX7_told_16 (by decide) (by decide) (rfl) (by decide) ?_
  refine j_aload3 (pc := 60) h dX7_told_60 ?_
  refine j_getf (pc := 61) h dX7_told_61 (fp i hi) fl_X7_143 rfl ?_
  refine j_iretr (pc := 64) h dX7_told_64 (rfl)
theorem k_X7_told1 {i : Nat} (w : CW g ad σ ρ C) (hI : Inv σ) (hi : i < σ.nfl) (hl : lv σ i = true) : Cr l g yX7_told cX7_told 4 (some .int) 3 [.ref (ad 0), .int (nI i), .int (nI 1)] ad C (.int (σ.ow i)) := by
  obtain ⟨f0, f1, f2, f3, f4, f5, f6, f7, f8, f9, f10, f11, f12, f13, f14, f15, f16, f17, f18, f19, hal, hfn, fp, fq, ffr⟩ := id w
  obtain ⟨hf1, hf2, hfl, hnn, hnm, hno, hc1, hc2⟩ := id hI.le
  refine Ct_of [some (.ref (ad 0)), some (.int (nI i)), some (.int (nI 1)), none] (by decide) rfl rfl (Nat.le_of_ble_eq_true rfl) rfl rfl (fun X hX h => ?_)
  subst hX
  refine j_aload0 (pc := 0) h dX7_told_0 ?_
  refine j_getf (pc := 1) h dX7_told_1 (f0) fl_X7_19 rfl ?_
  refine j_iload1 (pc := 4) h dX7_told_4 ?_
  refine j_callVr (pc := 5) h dX7_told_5 (k_X0_find f5 f6 hfl hi hal hl) mv_X7_101 (f5) rfl rfl (by decide) (Nat.le_of_ble_eq_true rfl) (Nat.le_of_ble_eq_true rfl) (Nat.le_of_ble_eq_true rfl) ?_
  refine j_astore3 (pc := 8) h dX7_told_8 rfl ?_
  refine j_aload3 (pc := 9) h dX7_told_9 ?_
  refine j_ifnonnull (pc := 10) (tgt := 15) h dX7_told_10 (by decide) ?_
  refine j_iload2 (pc := 15) h dX7_told_15 ?_
  refine j_tableIn (pc := 16) (tgt := 65) h dX7_told_16 (by decide) (by decide) (rfl) (by decide) ?_
  refine j_aload3 (pc := 65) h dX7_told_65 ?_
  refine j_getf (pc := 66) h dX7_told_66 (fp i hi) fl_X7_224 rfl ?_
  refine j_iretr (pc := 69) h dX7_told_69 (rfl)
theorem k_X7_told2 {i : Nat} (w : CW g ad σ ρ C) (hI : Inv σ) (hi : i < σ.nfl) (hl : lv σ i = true) : Cr l g yX7_told cX7_told 4 (some .int) 3 [.ref (ad 0), .int (nI i), .int (nI 2)] ad C (.int (nI (σ.wo i))) := by
  obtain ⟨f0, f1, f2, f3, f4, f5, f6, f7, f8, f9, f10, f11, f12, f13, f14, f15, f16, f17, f18, f19, hal, hfn, fp, fq, ffr⟩ := id w
  obtain ⟨hf1, hf2, hfl, hnn, hnm, hno, hc1, hc2⟩ := id hI.le
  refine Ct_of [some (.ref (ad 0)), some (.int (nI i)), some (.int (nI 2)), none] (by decide) rfl rfl (Nat.le_of_ble_eq_true rfl) rfl rfl (fun X hX h => ?_)
  subst hX
  refine j_aload0 (pc := 0) h dX7_told_0 ?_
  refine j_getf (pc := 1) h dX7_told_1 (f0) fl_X7_19 rfl ?_
  refine j_iload1 (pc := 4) h dX7_told_4 ?_
  refine j_callVr (pc := 5) h dX7_told_5 (k_X0_find f5 f6 hfl hi hal hl) mv_X7_101 (f5) rfl rfl (by decide) (Nat.le_of_ble_eq_true rfl) (Nat.le_of_ble_eq_true rfl) (Nat.le_of_ble_eq_true rfl) ?_
  refine j_astore3 (pc := 8) h dX7_told_8 rfl ?_
  refine j_aload3 (pc := 9) h dX7_told_9 ?_
  refine j_ifnonnull (pc := 10) (tgt := 15) h dX7_told_10 (by decide) ?_
  refine j_iload2 (pc := 15) h dX7_told_15 ?_
  refine j_tableIn (pc := 16) (tgt := 70) h dX7_told_16 (by decide) (by decide) (rfl) (by decide) ?_
  refine j_aload3 (pc := 70) h dX7_told_70 ?_
  refine j_getf (pc := 71) h dX7_told_71 (fp i hi) fl_X7_227 rfl ?_
  refine j_iretr (pc := 74) h dX7_told_74 (rfl)
theorem k_X7_told3 {i : Nat} (w : CW g ad σ ρ C) (hI : Inv σ) (hi : i < σ.nfl) (hl : lv σ i = true) : Cr l g yX7_told cX7_told 4 (some .int) 3 [.ref (ad 0), .int (nI i), .int (nI 3)] ad C (.int (σ.ch i)) := by
  obtain ⟨f0, f1, f2, f3, f4, f5, f6, f7, f8, f9, f10, f11, f12, f13, f14, f15, f16, f17, f18, f19, hal, hfn, fp, fq, ffr⟩ := id w
  obtain ⟨hf1, hf2, hfl, hnn, hnm, hno, hc1, hc2⟩ := id hI.le
  refine Ct_of [some (.ref (ad 0)), some (.int (nI i)), some (.int (nI 3)), none] (by decide) rfl rfl (Nat.le_of_ble_eq_true rfl) rfl rfl (fun X hX h => ?_)
  subst hX
  refine j_aload0 (pc := 0) h dX7_told_0 ?_
  refine j_getf (pc := 1) h dX7_told_1 (f0) fl_X7_19 rfl ?_
  refine j_iload1 (pc := 4) h dX7_told_4 ?_
  refine j_callVr (pc := 5) h dX7_told_5 (k_X0_find f5 f6 hfl hi hal hl) mv_X7_101 (f5) rfl rfl (by decide) (Nat.le_of_ble_eq_true rfl) (Nat.le_of_ble_eq_true rfl) (Nat.le_of_ble_eq_true rfl) ?_
  refine j_astore3 (pc := 8) h dX7_told_8 rfl ?_
  refine j_aload3 (pc := 9) h dX7_told_9 ?_
  refine j_ifnonnull (pc := 10) (tgt := 15) h dX7_told_10 (by decide) ?_
  refine j_iload2 (pc := 15) h dX7_told_15 ?_
  refine j_tableIn (pc := 16) (tgt := 75) h dX7_told_16 (by decide) (by decide) (rfl) (by decide) ?_
  refine j_aload3 (pc := 75) h dX7_told_75 ?_
  refine j_getf (pc := 76) h dX7_told_76 (fp i hi) fl_X7_230 rfl ?_
  refine j_iretr (pc := 79) h dX7_told_79 (rfl)
theorem k_X7_told4 {i : Nat} (w : CW g ad σ ρ C) (hI : Inv σ) (hi : i < σ.nfl) (hl : lv σ i = true) : Cr l g yX7_told cX7_told 4 (some .int) 3 [.ref (ad 0), .int (nI i), .int (nI 4)] ad C (.int (nI (nms σ i))) := by
  obtain ⟨f0, f1, f2, f3, f4, f5, f6, f7, f8, f9, f10, f11, f12, f13, f14, f15, f16, f17, f18, f19, hal, hfn, fp, fq, ffr⟩ := id w
  obtain ⟨hf1, hf2, hfl, hnn, hnm, hno, hc1, hc2⟩ := id hI.le
  refine Ct_of [some (.ref (ad 0)), some (.int (nI i)), some (.int (nI 4)), none] (by decide) rfl rfl (Nat.le_of_ble_eq_true rfl) rfl rfl (fun X hX h => ?_)
  subst hX
  refine j_aload0 (pc := 0) h dX7_told_0 ?_
  refine j_getf (pc := 1) h dX7_told_1 (f0) fl_X7_19 rfl ?_
  refine j_iload1 (pc := 4) h dX7_told_4 ?_
  refine j_callVr (pc := 5) h dX7_told_5 (k_X0_find f5 f6 hfl hi hal hl) mv_X7_101 (f5) rfl rfl (by decide) (Nat.le_of_ble_eq_true rfl) (Nat.le_of_ble_eq_true rfl) (Nat.le_of_ble_eq_true rfl) ?_
  refine j_astore3 (pc := 8) h dX7_told_8 rfl ?_
  refine j_aload3 (pc := 9) h dX7_told_9 ?_
  refine j_ifnonnull (pc := 10) (tgt := 15) h dX7_told_10 (by decide) ?_
  refine j_iload2 (pc := 15) h dX7_told_15 ?_
  refine j_tableIn (pc := 16) (tgt := 80) h dX7_told_16 (by decide) (by decide) (rfl) (by decide) ?_
  refine j_aload0 (pc := 80) h dX7_told_80 ?_
  refine j_getf (pc := 81) h dX7_told_81 (f0) fl_X7_26 rfl ?_
  refine j_iload1 (pc := 84) h dX7_told_84 ?_
  refine j_callVr (pc := 85) h dX7_told_85 (k_X3_countOf f7 f8 hnn) mv_X7_112 (f7) rfl rfl (by decide) (Nat.le_of_ble_eq_true rfl) (Nat.le_of_ble_eq_true rfl) (Nat.le_of_ble_eq_true rfl) ?_
  refine j_iretr (pc := 88) h dX7_told_88 (by rw [nm_cnt hI hfn (by omega)])
theorem k_X7_told5 {i : Nat} (w : CW g ad σ ρ C) (hI : Inv σ) (hi : i < σ.nfl) (hl : lv σ i = true) : Cr l g yX7_told cX7_told 4 (some .int) 3 [.ref (ad 0), .int (nI i), .int (nI 5)] ad C (.int (nI (pcn (bkS σ i)))) := by
  obtain ⟨f0, f1, f2, f3, f4, f5, f6, f7, f8, f9, f10, f11, f12, f13, f14, f15, f16, f17, f18, f19, hal, hfn, fp, fq, ffr⟩ := id w
  obtain ⟨hf1, hf2, hfl, hnn, hnm, hno, hc1, hc2⟩ := id hI.le
  refine Ct_of [some (.ref (ad 0)), some (.int (nI i)), some (.int (nI 5)), none] (by decide) rfl rfl (Nat.le_of_ble_eq_true rfl) rfl rfl (fun X hX h => ?_)
  subst hX
  refine j_aload0 (pc := 0) h dX7_told_0 ?_
  refine j_getf (pc := 1) h dX7_told_1 (f0) fl_X7_19 rfl ?_
  refine j_iload1 (pc := 4) h dX7_told_4 ?_
  refine j_callVr (pc := 5) h dX7_told_5 (k_X0_find f5 f6 hfl hi hal hl) mv_X7_101 (f5) rfl rfl (by decide) (Nat.le_of_ble_eq_true rfl) (Nat.le_of_ble_eq_true rfl) (Nat.le_of_ble_eq_true rfl) ?_
  refine j_astore3 (pc := 8) h dX7_told_8 rfl ?_
  refine j_aload3 (pc := 9) h dX7_told_9 ?_
  refine j_ifnonnull (pc := 10) (tgt := 15) h dX7_told_10 (by decide) ?_
  refine j_iload2 (pc := 15) h dX7_told_15 ?_
  refine j_tableIn (pc := 16) (tgt := 89) h dX7_told_16 (by decide) (by decide) (rfl) (by decide) ?_
  refine j_aload3 (pc := 89) h dX7_told_89 ?_
  refine j_getf (pc := 90) h dX7_told_90 (fp i hi) fl_X7_233 rfl ?_
  refine j_callSr (pc := 93) h dX7_told_93 (k_J13_bitCount_95d88) ms_X7_125 rfl rfl (by decide) (Nat.le_of_ble_eq_true rfl) (Nat.le_of_ble_eq_true rfl) (Nat.le_of_ble_eq_true rfl) ?_
  refine j_iretr (pc := 96) h dX7_told_96 (rfl)
theorem k_X7_told6 {i : Nat} (w : CW g ad σ ρ C) (hI : Inv σ) (hi : i < σ.nfl) (hl : lv σ i = true) : Cr l g yX7_told cX7_told 4 (some .int) 3 [.ref (ad 0), .int (nI i), .int (nI 6)] ad C (.int (nI (holS σ i))) := by
  obtain ⟨f0, f1, f2, f3, f4, f5, f6, f7, f8, f9, f10, f11, f12, f13, f14, f15, f16, f17, f18, f19, hal, hfn, fp, fq, ffr⟩ := id w
  obtain ⟨hf1, hf2, hfl, hnn, hnm, hno, hc1, hc2⟩ := id hI.le
  have hln := (hI.fil i hi).1
  obtain ⟨pl, hpl, hpp⟩ := fq i hi
  refine Ct_of [some (.ref (ad 0)), some (.int (nI i)), some (.int (nI 6)), none] (by decide) rfl rfl (Nat.le_of_ble_eq_true rfl) rfl rfl (fun X hX h => ?_)
  subst hX
  refine j_aload0 (pc := 0) h dX7_told_0 ?_
  refine j_getf (pc := 1) h dX7_told_1 (f0) fl_X7_19 rfl ?_
  refine j_iload1 (pc := 4) h dX7_told_4 ?_
  refine j_callVr (pc := 5) h dX7_told_5 (k_X0_find f5 f6 hfl hi hal hl) mv_X7_101 (f5) rfl rfl (by decide) (Nat.le_of_ble_eq_true rfl) (Nat.le_of_ble_eq_true rfl) (Nat.le_of_ble_eq_true rfl) ?_
  refine j_astore3 (pc := 8) h dX7_told_8 rfl ?_
  refine j_aload3 (pc := 9) h dX7_told_9 ?_
  refine j_ifnonnull (pc := 10) (tgt := 15) h dX7_told_10 (by decide) ?_
  refine j_iload2 (pc := 15) h dX7_told_15 ?_
  refine j_tableIn (pc := 16) (tgt := 97) h dX7_told_16 (by decide) (by decide) (rfl) (by decide) ?_
  refine j_aload3 (pc := 97) h dX7_told_97 ?_
  refine j_callVr (pc := 98) h dX7_told_98 (k_X6_countHoles (fp i hi) hpl hln) mv_X7_236 (fp i hi) rfl rfl (by decide) (Nat.le_of_ble_eq_true rfl) (Nat.le_of_ble_eq_true rfl) (Nat.le_of_ble_eq_true rfl) ?_
  refine j_iretr (pc := 101) h dX7_told_101 (by rw [hol_eq hI hpp])
theorem k_X7_count_out {x : Int32} (w : CW g ad σ ρ C) (hx : inN x 8 = false) : Cr l g yX7_count cX7_count 2 (some .int) 5 [.ref (ad 0), .int x] ad C (.int (-1)) := by
  refine Ct_of [some (.ref (ad 0)), some (.int x)] (by decide) rfl rfl (Nat.le_of_ble_eq_true rfl) rfl rfl (fun X hX h => ?_)
  subst hX
  refine j_iload1 (pc := 0) h dX7_count_0 ?_
  refine j_tableOut (pc := 1) (tgt := 106) h dX7_count_1 (no_sw (n := 7) hx) (by decide) ?_
  refine j_iconst (pc := 106) h dX7_count_106 ic_m1 ?_
  refine j_iretr (pc := 107) h dX7_count_107 (rfl)
theorem k_X7_count0 (w : CW g ad σ ρ C) (hI : Inv σ) : Cr l g yX7_count cX7_count 2 (some .int) 5 [.ref (ad 0), .int (nI 0)] ad C (.int (nI σ.now)) := by
  obtain ⟨f0, f1, f2, f3, f4, f5, f6, f7, f8, f9, f10, f11, f12, f13, f14, f15, f16, f17, f18, f19, hal, hfn, fp, fq, ffr⟩ := id w
  obtain ⟨hf1, hf2, hfl, hnn, hnm, hno, hc1, hc2⟩ := id hI.le
  refine Ct_of [some (.ref (ad 0)), some (.int (nI 0))] (by decide) rfl rfl (Nat.le_of_ble_eq_true rfl) rfl rfl (fun X hX h => ?_)
  subst hX
  refine j_iload1 (pc := 0) h dX7_count_0 ?_
  refine j_tableIn (pc := 1) (tgt := 48) h dX7_count_1 (by decide) (by decide) (rfl) (by decide) ?_
  refine j_aload0 (pc := 48) h dX7_count_48 ?_
  refine j_getf (pc := 49) h dX7_count_49 (f0) fl_X7_51 rfl ?_
  refine j_iretr (pc := 52) h dX7_count_52 (rfl)
theorem k_X7_count1 (w : CW g ad σ ρ C) (hI : Inv σ) : Cr l g yX7_count cX7_count 2 (some .int) 5 [.ref (ad 0), .int (nI 1)] ad C (.int (nI σ.nf)) := by
  obtain ⟨f0, f1, f2, f3, f4, f5, f6, f7, f8, f9, f10, f11, f12, f13, f14, f15, f16, f17, f18, f19, hal, hfn, fp, fq, ffr⟩ := id w
  obtain ⟨hf1, hf2, hfl, hnn, hnm, hno, hc1, hc2⟩ := id hI.le
  refine Ct_of [some (.ref (ad 0)), some (.int (nI 1))] (by decide) rfl rfl (Nat.le_of_ble_eq_true rfl) rfl rfl (fun X hX h => ?_)
  subst hX
  refine j_iload1 (pc := 0) h dX7_count_0 ?_
  refine j_tableIn (pc := 1) (tgt := 53) h dX7_count_1 (by decide) (by decide) (rfl) (by decide) ?_
  refine j_aload0 (pc := 53) h dX7_count_53 ?_
  refine j_getf (pc := 54) h dX7_count_54 (f0) fl_X7_12 rfl ?_
  refine j_getf (pc := 57) h dX7_count_57 (f1) fl_X7_177 rfl ?_
  refine j_iretr (pc := 60) h dX7_count_60 (rfl)
theorem k_X7_count2 (w : CW g ad σ ρ C) (hI : Inv σ) : Cr l g yX7_count cX7_count 2 (some .int) 5 [.ref (ad 0), .int (nI 2)] ad C (.int (nI (cnt (lv σ) σ.nfl))) := by
  obtain ⟨f0, f1, f2, f3, f4, f5, f6, f7, f8, f9, f10, f11, f12, f13, f14, f15, f16, f17, f18, f19, hal, hfn, fp, fq, ffr⟩ := id w
  obtain ⟨hf1, hf2, hfl, hnn, hnm, hno, hc1, hc2⟩ := id hI.le
  refine Ct_of [some (.ref (ad 0)), some (.int (nI 2))] (by decide) rfl rfl (Nat.le_of_ble_eq_true rfl) rfl rfl (fun X hX h => ?_)
  subst hX
  refine j_iload1 (pc := 0) h dX7_count_0 ?_
  refine j_tableIn (pc := 1) (tgt := 61) h dX7_count_1 (by decide) (by decide) (rfl) (by decide) ?_
  refine j_aload0 (pc := 61) h dX7_count_61 ?_
  refine j_getf (pc := 62) h dX7_count_62 (f0) fl_X7_19 rfl ?_
  refine j_callVr (pc := 65) h dX7_count_65 (k_X0_countThere f5 f6 hfl hal) mv_X7_239 (f5) rfl rfl (by decide) (Nat.le_of_ble_eq_true rfl) (Nat.le_of_ble_eq_true rfl) (Nat.le_of_ble_eq_true rfl) ?_
  refine j_iretr (pc := 68) h dX7_count_68 (rfl)
theorem k_X7_count3 (w : CW g ad σ ρ C) (hI : Inv σ) : Cr l g yX7_count cX7_count 2 (some .int) 5 [.ref (ad 0), .int (nI 3)] ad C (.int (nI (cnt σ.tb σ.nn))) := by
  obtain ⟨f0, f1, f2, f3, f4, f5, f6, f7, f8, f9, f10, f11, f12, f13, f14, f15, f16, f17, f18, f19, hal, hfn, fp, fq, ffr⟩ := id w
  obtain ⟨hf1, hf2, hfl, hnn, hnm, hno, hc1, hc2⟩ := id hI.le
  refine Ct_of [some (.ref (ad 0)), some (.int (nI 3))] (by decide) rfl rfl (Nat.le_of_ble_eq_true rfl) rfl rfl (fun X hX h => ?_)
  subst hX
  refine j_iload1 (pc := 0) h dX7_count_0 ?_
  refine j_tableIn (pc := 1) (tgt := 69) h dX7_count_1 (by decide) (by decide) (rfl) (by decide) ?_
  refine j_aload0 (pc := 69) h dX7_count_69 ?_
  refine j_getf (pc := 70) h dX7_count_70 (f0) fl_X7_26 rfl ?_
  refine j_callVr (pc := 73) h dX7_count_73 (k_X3_countThere f7 f8 hnn) mv_X7_242 (f7) rfl rfl (by decide) (Nat.le_of_ble_eq_true rfl) (Nat.le_of_ble_eq_true rfl) (Nat.le_of_ble_eq_true rfl) ?_
  refine j_iretr (pc := 76) h dX7_count_76 (by rw [nm_there hI hfn])
theorem k_X7_count4 (w : CW g ad σ ρ C) (hI : Inv σ) : Cr l g yX7_count cX7_count 2 (some .int) 5 [.ref (ad 0), .int (nI 4)] ad C (.int (nI (cnt σ.sb 8))) := by
  obtain ⟨f0, f1, f2, f3, f4, f5, f6, f7, f8, f9, f10, f11, f12, f13, f14, f15, f16, f17, f18, f19, hal, hfn, fp, fq, ffr⟩ := id w
  obtain ⟨hf1, hf2, hfl, hnn, hnm, hno, hc1, hc2⟩ := id hI.le
  refine Ct_of [some (.ref (ad 0)), some (.int (nI 4))] (by decide) rfl rfl (Nat.le_of_ble_eq_true rfl) rfl rfl (fun X hX h => ?_)
  subst hX
  refine j_iload1 (pc := 0) h dX7_count_0 ?_
  refine j_tableIn (pc := 1) (tgt := 77) h dX7_count_1 (by decide) (by decide) (rfl) (by decide) ?_
  refine j_aload0 (pc := 77) h dX7_count_77 ?_
  refine j_getf (pc := 78) h dX7_count_78 (f0) fl_X7_33 rfl ?_
  refine j_callVr (pc := 81) h dX7_count_81 (k_X5_countThere f10 f11) mv_X7_243 (f10) rfl rfl (by decide) (Nat.le_of_ble_eq_true rfl) (Nat.le_of_ble_eq_true rfl) (Nat.le_of_ble_eq_true rfl) ?_
  refine j_iretr (pc := 84) h dX7_count_84 (rfl)
theorem k_X7_count5 (w : CW g ad σ ρ C) (hI : Inv σ) : Cr l g yX7_count cX7_count 2 (some .int) 5 [.ref (ad 0), .int (nI 5)] ad C (.int (nI σ.nm)) := by
  obtain ⟨f0, f1, f2, f3, f4, f5, f6, f7, f8, f9, f10, f11, f12, f13, f14, f15, f16, f17, f18, f19, hal, hfn, fp, fq, ffr⟩ := id w
  obtain ⟨hf1, hf2, hfl, hnn, hnm, hno, hc1, hc2⟩ := id hI.le
  refine Ct_of [some (.ref (ad 0)), some (.int (nI 5))] (by decide) rfl rfl (Nat.le_of_ble_eq_true rfl) rfl rfl (fun X hX h => ?_)
  subst hX
  refine j_iload1 (pc := 0) h dX7_count_0 ?_
  refine j_tableIn (pc := 1) (tgt := 85) h dX7_count_1 (by decide) (by decide) (rfl) (by decide) ?_
  refine j_aload0 (pc := 85) h dX7_count_85 ?_
  refine j_getf (pc := 86) h dX7_count_86 (f0) fl_X7_40 rfl ?_
  refine j_getf (pc := 89) h dX7_count_89 (f13) fl_X7_244 rfl ?_
  refine j_iretr (pc := 92) h dX7_count_92 (rfl)
theorem k_X7_count6 (w : CW g ad σ ρ C) (hI : Inv σ) : Cr l g yX7_count cX7_count 2 (some .int) 5 [.ref (ad 0), .int (nI 6)] ad C (.int (nI (pcn (had σ)))) := by
  obtain ⟨f0, f1, f2, f3, f4, f5, f6, f7, f8, f9, f10, f11, f12, f13, f14, f15, f16, f17, f18, f19, hal, hfn, fp, fq, ffr⟩ := id w
  obtain ⟨hf1, hf2, hfl, hnn, hnm, hno, hc1, hc2⟩ := id hI.le
  refine Ct_of [some (.ref (ad 0)), some (.int (nI 6))] (by decide) rfl rfl (Nat.le_of_ble_eq_true rfl) rfl rfl (fun X hX h => ?_)
  subst hX
  refine j_iload1 (pc := 0) h dX7_count_0 ?_
  refine j_tableIn (pc := 1) (tgt := 93) h dX7_count_1 (by decide) (by decide) (rfl) (by decide) ?_
  refine j_aload0 (pc := 93) h dX7_count_93 ?_
  refine j_callVr (pc := 94) h dX7_count_94 (k_X7_blocksHad w hI) mv_X7_121 (f0) rfl rfl (by decide) (Nat.le_of_ble_eq_true rfl) (Nat.le_of_ble_eq_true rfl) (Nat.le_of_ble_eq_true rfl) ?_
  refine j_callSr (pc := 97) h dX7_count_97 (k_J13_bitCount_95d88) ms_X7_125 rfl rfl (by decide) (Nat.le_of_ble_eq_true rfl) (Nat.le_of_ble_eq_true rfl) (Nat.le_of_ble_eq_true rfl) ?_
  refine j_iretr (pc := 100) h dX7_count_100 (rfl)
theorem k_X7_count7 (w : CW g ad σ ρ C) (hI : Inv σ) : Cr l g yX7_count cX7_count 2 (some .int) 5 [.ref (ad 0), .int (nI 7)] ad C (.int (nI σ.cap)) := by
  obtain ⟨f0, f1, f2, f3, f4, f5, f6, f7, f8, f9, f10, f11, f12, f13, f14, f15, f16, f17, f18, f19, hal, hfn, fp, fq, ffr⟩ := id w
  obtain ⟨hf1, hf2, hfl, hnn, hnm, hno, hc1, hc2⟩ := id hI.le
  refine Ct_of [some (.ref (ad 0)), some (.int (nI 7))] (by decide) rfl rfl (Nat.le_of_ble_eq_true rfl) rfl rfl (fun X hX h => ?_)
  subst hX
  refine j_iload1 (pc := 0) h dX7_count_0 ?_
  refine j_tableIn (pc := 1) (tgt := 101) h dX7_count_1 (by decide) (by decide) (rfl) (by decide) ?_
  refine j_aload0 (pc := 101) h dX7_count_101 ?_
  refine j_getf (pc := 102) h dX7_count_102 (f0) fl_X7_55 rfl ?_
  refine j_iretr (pc := 105) h dX7_count_105 (rfl)
end CS

