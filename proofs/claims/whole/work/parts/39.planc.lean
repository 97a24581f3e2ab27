/-! The class: the planner -/
def Rm.uP (ρ : Rm) (nu pw : Nat → Int32) (pb : Nat → Int64) (sz wa lw : Int32) (be : Int64) : Rm := (ρ.al, ρ.fn, nu, pw, pb, sz, wa, lw, be)
/-- the least worth and the best set, as the planner has them -/
def lwO (σ : Sg) (t : Nat) : Option Nat → Nat
  | none => 12000
  | some b => plWt σ t b 0
def beO (σ : Sg) (t : Nat) : Option Nat → Int64
  | none => 0
  | some b => plGo σ t b 0
def oPs (ad : AD) (σ : Sg) (t n : Nat) (st : Option Nat) : va_E := oPl ad (nI (filS σ t)) (nI n) (nI (lwO σ t st)) (beO σ t st)
theorem up_same {C : CC} {k : Nat} {v : Option va_E} (h : C k = v) : va_up C k v = C := by
  funext j
  by_cases e : j = k
  · subst e; rw [up_eq, h]
  · rw [va_up_ne _ _ e]
theorem pcn_64 (v : Int64) : pcn v ≤ 64 := cnt_le _ _
theorem plR_hit {σ : Sg} {t n h : Nat} {st : Option Nat} (hc : n ≤ pcn (plFr σ t h 0)) (hl : plWt σ t h 0 < lwO σ t st) : plR σ t n 0 h st = some h := by
  unfold plR
  rw [rnS]
  cases st with
  | none => rw [stp, if_pos hc]
  | some b => rw [stp, if_pos ⟨hc, hl⟩]
theorem plR_two {σ : Sg} {t n o h : Nat} {st : Option Nat} : plR σ t n o (2 * h + 1) (plR σ t n o (2 * h) st) = plR σ t n (o + 1) h st := by
  unfold plR
  rw [rnS]
theorem plR_out {σ : Sg} {t n o h : Nat} {st : Option Nat} (ho : o ≤ filS σ t) (hw : plWt σ t h o < 12000) (hl : lwO σ t st ≤ plWt σ t h o) : plR σ t n o h st = st := by
  cases st with
  | none => exact absurd (show 12000 ≤ plWt σ t h o from hl) (by omega)
  | some b => exact plR_pr ho (Or.inr ⟨b, rfl, hl⟩)
theorem lwO_le {σ : Sg} (hI : Inv σ) {t : Nat} (hm : filS σ t ≤ 12) (st : Option Nat) : lwO σ t st ≤ 12000 := by
  cases st with
  | none => exact Nat.le_refl _
  | some b => have := plWt_le hI hm b 0; rw [lwO]; omega
section PC
variable {l : Launch} {g : GG} {ad : AD} {σ : Sg}
theorem k_X4_decide {t n : Nat} {nu pw : Nat → Int32} {pb : Nat → Int64} (hI : Inv σ) (hm : filS σ t ≤ 12) (hn : n ≤ 60) (hk : ∀ k, k < filS σ t → nu k = nI (plF σ t k) ∧ pw k = nI (plW σ t k) ∧ pb k = plB σ t k) : ∀ (o h : Nat) (st : Option Nat) (C : CC), o ≤ filS σ t → C 16 = some (oPs ad σ t n st) → C 17 = some (eI g 12 nu) → C 18 = some (eI g 12 pw) → C 19 = some (eJ g 12 pb) → Ct l g yX4_decide cX4_decide 10 none (o+2) 0 0 [.ref (ad 16), .int (nI o), .long (plFr σ t h o), .long (plGo σ t h o), .int (nI (plWt σ t h o))] ad C (fun r ad' C' => r = none ∧ ad' = ad ∧ C' = va_up C 16 (some (oPs ad σ t n (plR σ t n o h st)))) := by
  intro o
  induction o with
  | zero =>
    intro hh st C ho f16 f17 f18 f19
    have hw := plWt_le hI hm hh 0
    have hp := pcn_64 (plFr σ t hh 0)
    have hlw := lwO_le hI hm st
    refine Ct_of [some (.ref (ad 16)), some (.int (nI 0)), some (.long (plFr σ t hh 0)), none, some (.long (plGo σ t hh 0)), none, some (.int (nI (plWt σ t hh 0))), none, none, none] (by decide) rfl rfl (Nat.le_of_ble_eq_true rfl) rfl rfl (fun X hX h => ?_)
    subst hX
    refine j_iload1 (pc := 0) h dX4_decide_0 ?_
    refine j_aload0 (pc := 1) h dX4_decide_1 ?_
    refine j_getf (pc := 2) h dX4_decide_2 (f16) fl_X4_37 rfl ?_
    refine j_icmp_gt (pc := 5) (tgt := 14) h dX4_decide_5 (by decide) (fun c5 => absurd c5 (nI_nlt (by omega) (by omega))) (fun c5 => ?_)
    refine j_iload1 (pc := 8) h dX4_decide_8 ?_
    refine j_bipush (pc := 9) h dX4_decide_9 bp_12 ?_
    refine j_icmp_le (pc := 11) (tgt := 15) h dX4_decide_11 (by decide) (fun c11 => ?_) (fun c11 => absurd (nI_le (by omega) (by omega)) c11)
    refine j_lload2 (pc := 15) h dX4_decide_15 ?_
    refine j_callSr (pc := 16) h dX4_decide_16 (k_J13_bitCount_95d88) ms_X4_63 rfl rfl (by omega) (Nat.le_of_ble_eq_true rfl) (Nat.le_of_ble_eq_true rfl) (Nat.le_of_ble_eq_true rfl) ?_
    refine j_aload0 (pc := 19) h dX4_decide_19 ?_
    refine j_getf (pc := 20) h dX4_decide_20 (f16) fl_X4_26 rfl ?_
    refine j_icmp_lt (pc := 23) (tgt := 35) h dX4_decide_23 (by decide) (fun c23 => ?_) (fun c23 => ?_)
    · have hc := nI_lt_of c23 (by omega) (by omega)
      refine j_vret (pc := 35) h dX4_decide_35 (⟨rfl, rfl, by rw [plR_pr ho (Or.inl hc)]; exact (up_same f16).symm⟩)
    · have hc : n ≤ pcn (plFr σ t hh 0) := Nat.le_of_not_lt (fun q => c23 (nI_lt q (by omega)))
      refine j_iload6 (pc := 26) h dX4_decide_26 ?_
      refine j_aload0 (pc := 28) h dX4_decide_28 ?_
      refine j_getf (pc := 29) h dX4_decide_29 (f16) fl_X4_30 rfl ?_
      refine j_icmp_lt (pc := 32) (tgt := 36) h dX4_decide_32 (by decide) (fun c32 => ?_) (fun c32 => ?_)
      · have hl := nI_lt_of c32 (by omega) (by omega)
        have er := plR_hit hc hl
        refine j_iload1 (pc := 36) h dX4_decide_36 ?_
        refine j_if_gt (pc := 37) (tgt := 53) h dX4_decide_37 (by decide) (fun c37 => absurd c37 (by decide)) (fun c37 => ?_)
        refine j_aload0 (pc := 40) h dX4_decide_40 ?_
        refine j_iload6 (pc := 41) h dX4_decide_41 ?_
        refine j_putv (pc := 43) h dX4_decide_43 (f16) pl_X4_30 rfl rfl (Nat.le_of_ble_eq_true rfl) ?_
        refine j_aload0 (pc := 46) h dX4_decide_46 ?_
        refine j_lload4 (pc := 47) h dX4_decide_47 ?_
        refine j_putv (pc := 49) h dX4_decide_49 (rfl) pl_X4_33 rfl rfl (Nat.le_of_ble_eq_true rfl) ?_
        refine j_vret (pc := 52) h dX4_decide_52 (⟨rfl, rfl, by rw [er, up_up]; rfl⟩)
      · have hl : lwO σ t st ≤ plWt σ t hh 0 := Nat.le_of_not_lt (fun q => c32 (nI_lt q (by omega)))
        have er : plR σ t n 0 hh st = st := plR_out ho (by omega) hl
        refine j_vret (pc := 35) h dX4_decide_35 (⟨rfl, rfl, by rw [er]; exact (up_same f16).symm⟩)
  | succ o ih =>
    intro hh st C ho f16 f17 f18 f19
    have hw := plWt_le hI hm hh (o + 1)
    have hp := pcn_64 (plFr σ t hh (o + 1))
    have hlw := lwO_le hI hm st
    obtain ⟨k1, k2, k3⟩ := hk o (by omega)
    refine Ct_of [some (.ref (ad 16)), some (.int (nI (o + 1))), some (.long (plFr σ t hh (o + 1))), none, some (.long (plGo σ t hh (o + 1))), none, some (.int (nI (plWt σ t hh (o + 1)))), none, none, none] (by decide) rfl rfl (Nat.le_of_ble_eq_true rfl) rfl rfl (fun X hX h => ?_)
    subst hX
    refine j_iload1 (pc := 0) h dX4_decide_0 ?_
    refine j_aload0 (pc := 1) h dX4_decide_1 ?_
    refine j_getf (pc := 2) h dX4_decide_2 (f16) fl_X4_37 rfl ?_
    refine j_icmp_gt (pc := 5) (tgt := 14) h dX4_decide_5 (by decide) (fun c5 => absurd c5 (nI_nlt (by omega) (by omega))) (fun c5 => ?_)
    refine j_iload1 (pc := 8) h dX4_decide_8 ?_
    refine j_bipush (pc := 9) h dX4_decide_9 bp_12 ?_
    refine j_icmp_le (pc := 11) (tgt := 15) h dX4_decide_11 (by decide) (fun c11 => ?_) (fun c11 => absurd (nI_le (by omega) (by omega)) c11)
    refine j_lload2 (pc := 15) h dX4_decide_15 ?_
    refine j_callSr (pc := 16) h dX4_decide_16 (k_J13_bitCount_95d88) ms_X4_63 rfl rfl (by omega) (Nat.le_of_ble_eq_true rfl) (Nat.le_of_ble_eq_true rfl) (Nat.le_of_ble_eq_true rfl) ?_
    refine j_aload0 (pc := 19) h dX4_decide_19 ?_
    refine j_getf (pc := 20) h dX4_decide_20 (f16) fl_X4_26 rfl ?_
    refine j_icmp_lt (pc := 23) (tgt := 35) h dX4_decide_23 (by decide) (fun c23 => ?_) (fun c23 => ?_)
    · have hc := nI_lt_of c23 (by omega) (by omega)
      refine j_vret (pc := 35) h dX4_decide_35 (⟨rfl, rfl, by rw [plR_pr ho (Or.inl hc)]; exact (up_same f16).symm⟩)
    · have hc : n ≤ pcn (plFr σ t hh (o + 1)) := Nat.le_of_not_lt (fun q => c23 (nI_lt q (by omega)))
      refine j_iload6 (pc := 26) h dX4_decide_26 ?_
      refine j_aload0 (pc := 28) h dX4_decide_28 ?_
      refine j_getf (pc := 29) h dX4_decide_29 (f16) fl_X4_30 rfl ?_
      refine j_icmp_lt (pc := 32) (tgt := 36) h dX4_decide_32 (by decide) (fun c32 => ?_) (fun c32 => ?_)
      · refine j_iload1 (pc := 36) h dX4_decide_36 ?_
        refine j_if_gt (pc := 37) (tgt := 53) h dX4_decide_37 (by decide) (fun c37 => ?_) (fun c37 => absurd (nI_lt (a := 0) (by omega) (by omega)) c37)
        refine j_iload1 (pc := 53) h dX4_decide_53 ?_
        refine j_iconst (pc := 54) h dX4_decide_54 ic_1 ?_
        refine j_isub1 (pc := 55) h dX4_decide_55 ?_
        refine j_istore7 (pc := 56) h dX4_decide_56 rfl ?_
        refine j_aload0 (pc := 58) h dX4_decide_58 ?_
        refine j_iload7 (pc := 59) h dX4_decide_59 ?_
        refine j_lload2 (pc := 61) h dX4_decide_61 ?_
        refine j_aload0 (pc := 62) h dX4_decide_62 ?_
        refine j_getf (pc := 63) h dX4_decide_63 (f16) fl_X4_18 rfl ?_
        refine j_iload7 (pc := 66) h dX4_decide_66 ?_
        refine j_lald (pc := 68) h dX4_decide_68 (f19) (by omega) (by decide) ?_
        refine j_ldc2 (pc := 69) h dX4_decide_69 kc_X4_69 ?_
        refine j_lxor (pc := 72) h dX4_decide_72 ?_
        refine j_land (pc := 73) h dX4_decide_73 ?_
        refine j_topl (show plFr σ t hh (o + 1) &&& (pb o ^^^ (-1)) = plFr σ t (2 * hh) o from by rw [k3]; exact (plFr_e (by omega)).symm) ?_
        refine j_lload4 (pc := 74) h dX4_decide_74 ?_
        refine j_topl (show plGo σ t hh (o + 1) = plGo σ t (2 * hh) o from plGo_e.symm) ?_
        refine j_iload6 (pc := 76) h dX4_decide_76 ?_
        refine j_topi (show nI (plWt σ t hh (o + 1)) = nI (plWt σ t (2 * hh) o) from by rw [plWt_e]) ?_
        refine j_callS (pc := 78) h dX4_decide_78 (ih (2 * hh) st C (by omega) f16 f17 f18 f19) ms_X4_40 rfl rfl (by omega) (Nat.le_of_ble_eq_true rfl) (Nat.le_of_ble_eq_true rfl) (Nat.le_of_ble_eq_true rfl) (fun v78 ad78 C78 hp78 => ?_)
        obtain ⟨rfl, rfl, rfl⟩ := hp78
        refine j_lload4 (pc := 81) h dX4_decide_81 ?_
        refine j_lconst (pc := 83) h dX4_decide_83 lc_1 ?_
        refine j_aload0 (pc := 84) h dX4_decide_84 ?_
        refine j_getf (pc := 85) h dX4_decide_85 (up_eq) fl_X4_9 rfl ?_
        refine j_iload7 (pc := 88) h dX4_decide_88 ?_
        refine j_iald (pc := 90) h dX4_decide_90 (upn f17 (by decide)) (by omega) (by decide) ?_
        refine j_lshl (pc := 91) h dX4_decide_91 ?_
        refine j_lor (pc := 92) h dX4_decide_92 ?_
        refine j_topl (show plGo σ t hh (o + 1) ||| (1 <<< ((nu o).toInt64 &&& 63)) = plGo σ t (2 * hh + 1) o from by rw [k1]; exact (plGo_o (by omega)).symm) ?_
        refine j_lstore8 (pc := 93) h dX4_decide_93 rfl ?_
        refine j_aload0 (pc := 95) h dX4_decide_95 ?_
        refine j_iload7 (pc := 96) h dX4_decide_96 ?_
        refine j_lload2 (pc := 98) h dX4_decide_98 ?_
        refine j_topl (show plFr σ t hh (o + 1) = plFr σ t (2 * hh + 1) o from plFr_o.symm) ?_
        refine j_lload8 (pc := 99) h dX4_decide_99 ?_
        refine j_iload6 (pc := 101) h dX4_decide_101 ?_
        refine j_aload0 (pc := 103) h dX4_decide_103 ?_
        refine j_getf (pc := 104) h dX4_decide_104 (up_eq) fl_X4_15 rfl ?_
        refine j_iload7 (pc := 107) h dX4_decide_107 ?_
        refine j_iald (pc := 109) h dX4_decide_109 (upn f18 (by decide)) (by omega) (by decide) ?_
        refine j_iadd (pc := 110) h dX4_decide_110 ?_
        refine j_topi (show nI (plWt σ t hh (o + 1)) + pw o = nI (plWt σ t (2 * hh + 1) o) from by rw [k2, nI_add, plWt_o (by omega)]) ?_
        refine j_callS (pc := 111) h dX4_decide_111 (ih (2 * hh + 1) _ _ (by omega) up_eq (upn f17 (by decide)) (upn f18 (by decide)) (upn f19 (by decide))) ms_X4_40 rfl rfl (by omega) (Nat.le_of_ble_eq_true rfl) (Nat.le_of_ble_eq_true rfl) (Nat.le_of_ble_eq_true rfl) (fun v111 ad111 C111 hp111 => ?_)
        obtain ⟨rfl, rfl, rfl⟩ := hp111
        refine j_vret (pc := 114) h dX4_decide_114 (⟨rfl, rfl, by rw [up_up, plR_two]⟩)
      · have hl : lwO σ t st ≤ plWt σ t hh (o + 1) := Nat.le_of_not_lt (fun q => c32 (nI_lt q (by omega)))
        have er : plR σ t n (o + 1) hh st = st := plR_out ho (by omega) hl
        refine j_vret (pc := 35) h dX4_decide_35 (⟨rfl, rfl, by rw [er]; exact (up_same f16).symm⟩)
theorem k_X4_gather {C : CC} {ρ : Rm} {t : Nat} {s : Int64} (w : CW g ad σ ρ C) (hI : Inv σ) (hm : filS σ t ≤ 12) (hs : ∀ i, i < σ.nfl → s.toBitVec.getLsbD i = isn σ i t) : Ct l g yX4_gather cX4_gather 6 none 2 0 0 [.ref (ad 16), .ref (ad 5), .long s] ad C (fun r ad' C' => r = none ∧ ad' = ad ∧ frL C C' ∧ ∃ nu pw pb, CW g ad σ (ρ.uP nu pw pb (nI (filS σ t)) ρ.wa ρ.lw ρ.be) C' ∧ ∀ k, k < filS σ t → nu k = nI (plF σ t k) ∧ pw k = nI (plW σ t k) ∧ pb k = plB σ t k) := by
  have w0 := w
  obtain ⟨f0, f1, f2, f3, f4, f5, f6, f7, f8, f9, f10, f11, f12, f13, f14, f15, f16, f17, f18, f19, hal, hfn, fp, fq, ffr⟩ := id w
  obtain ⟨hf1, hf2, hfl, hnn, hnm, hno, hc1, hc2⟩ := id hI.le
  clear f0 f1 f2 f3 f4 f6 f7 f8 f9 f10 f11 f12 f13 f14 f15 hal hfn fp fq ffr
  refine Ct_of [some (.ref (ad 16)), some (.ref (ad 5)), some (.long s), none, none, none] (by decide) rfl rfl (Nat.le_of_ble_eq_true rfl) rfl rfl (fun X hX h => ?_)
  subst hX
  have lp : ∀ n i C' nu pw pb u5, i + n = σ.nfl → frL C C' → CW g ad σ (ρ.uP nu pw pb (nI (cnt (fun j => isn σ j t) i)) ρ.wa ρ.lw ρ.be) C' → (∀ k, k < cnt (fun j => isn σ j t) i → nu k = nI (fw (fun j => isn σ j t) i k) ∧ pw k = nI (σ.wo (fw (fun j => isn σ j t) i k)) ∧ pb k = bk σ (fw (fun j => isn σ j t) i k)) → J X g 6 (QX X g 0 0 (fun r ad' C' => r = none ∧ ad' = ad ∧ frL C C' ∧ ∃ nu pw pb, CW g ad σ (ρ.uP nu pw pb (nI (filS σ t)) ρ.wa ρ.lw ρ.be) C' ∧ ∀ k, k < filS σ t → nu k = nI (plF σ t k) ∧ pw k = nI (plW σ t k) ∧ pb k = plB σ t k)) 0 0 ad C' 8 [some (.ref (ad 16)), some (.ref (ad 5)), some (.long s), none, some (.int (nI i)), u5] [] := by
    intro n
    induction n with
    | zero =>
      intro i C' nu pw pb u5 hi fr w hk
      obtain ⟨f0, f1, f2, f3, f4, f5, f6, f7, f8, f9, f10, f11, f12, f13, f14, f15, f16, f17, f18, f19, hal, hfn, fp, fq, ffr⟩ := id w
      obtain ⟨hf1, hf2, hfl, hnn, hnm, hno, hc1, hc2⟩ := id hI.le
      obtain rfl : i = σ.nfl := by omega
      refine j_iload4 (pc := 8) h dX4_gather_8 ?_
      refine j_aload1 (pc := 10) h dX4_gather_10 ?_
      refine j_getf (pc := 11) h dX4_gather_11 (f5) fl_X4_44 rfl ?_
      refine j_icmp_ge (pc := 14) (tgt := 103) h dX4_gather_14 (by decide) (fun c14 => ?_) (fun c14 => absurd (nI_le (by omega) (by omega)) c14)
      refine j_vret (pc := 103) h dX4_gather_103 (⟨rfl, rfl, fr, nu, pw, pb, w, hk⟩)
    | succ n ih =>
      intro i C' nu pw pb u5 hi fr w hk
      obtain ⟨f0, f1, f2, f3, f4, f5, f6, f7, f8, f9, f10, f11, f12, f13, f14, f15, f16, f17, f18, f19, hal, hfn, fp, fq, ffr⟩ := id w
      obtain ⟨hf1, hf2, hfl, hnn, hnm, hno, hc1, hc2⟩ := id hI.le
      have hlt : i < σ.nfl := by omega
      have hmb : mbr s (nI i) = isn σ i t := by rw [mbr_bit s (by omega), hs i hlt]
      have no : isn σ i t = false → ∀ u, J X g 6 (QX X g 0 0 (fun r ad' C' => r = none ∧ ad' = ad ∧ frL C C' ∧ ∃ nu pw pb, CW g ad σ (ρ.uP nu pw pb (nI (filS σ t)) ρ.wa ρ.lw ρ.be) C' ∧ ∀ k, k < filS σ t → nu k = nI (plF σ t k) ∧ pw k = nI (plW σ t k) ∧ pb k = plB σ t k)) 0 0 ad C' 97 [some (.ref (ad 16)), some (.ref (ad 5)), some (.long s), none, some (.int (nI i)), u] [] := by
        intro hq u
        refine j_iinc4 (pc := 97) h dX4_gather_97 rfl (inc_n _) ?_
        refine j_goto (pc := 100) (tgt := 8) h dX4_gather_100 (by decide) ?_
        refine ih (i + 1) C' nu pw pb u (by omega) fr (by rw [cnt_f (p := fun j => isn σ j t) hq]; exact w) (fun k hk' => ?_)
        rw [cnt_f (p := fun j => isn σ j t) hq] at hk'
        rw [fw_old hk']
        exact hk k hk'
      cases hl : lv σ i with
      | false =>
        refine j_iload4 (pc := 8) h dX4_gather_8 ?_
        refine j_aload1 (pc := 10) h dX4_gather_10 ?_
        refine j_getf (pc := 11) h dX4_gather_11 (f5) fl_X4_44 rfl ?_
        refine j_icmp_ge (pc := 14) (tgt := 103) h dX4_gather_14 (by decide) (fun c14 => absurd c14 (nI_ge (by omega) (by omega))) (fun c14 => ?_)
        refine j_aload1 (pc := 17) h dX4_gather_17 ?_
        refine j_iload4 (pc := 18) h dX4_gather_18 ?_
        refine j_callVr (pc := 20) h dX4_gather_20 (k_X0_find_n f5 f6 hfl hlt hal hl) mv_X4_49 (f5) rfl rfl (by decide) (Nat.le_of_ble_eq_true rfl) (Nat.le_of_ble_eq_true rfl) (Nat.le_of_ble_eq_true rfl) ?_
        refine j_astore5N (pc := 23) h dX4_gather_23 rfl ?_
        refine j_aload5N (pc := 25) h dX4_gather_25 ?_
        refine j_ifnullN (pc := 27) (tgt := 97) h dX4_gather_27 (by decide) ?_
        refine no ?_ _
        cases e : isn σ i t with
        | false => rfl
        | true => rw [isn_lv e] at hl; cases hl
      | true =>
        refine j_iload4 (pc := 8) h dX4_gather_8 ?_
        refine j_aload1 (pc := 10) h dX4_gather_10 ?_
        refine j_getf (pc := 11) h dX4_gather_11 (f5) fl_X4_44 rfl ?_
        refine j_icmp_ge (pc := 14) (tgt := 103) h dX4_gather_14 (by decide) (fun c14 => absurd c14 (nI_ge (by omega) (by omega))) (fun c14 => ?_)
        refine j_aload1 (pc := 17) h dX4_gather_17 ?_
        refine j_iload4 (pc := 18) h dX4_gather_18 ?_
        refine j_callVr (pc := 20) h dX4_gather_20 (k_X0_find f5 f6 hfl hlt hal hl) mv_X4_49 (f5) rfl rfl (by decide) (Nat.le_of_ble_eq_true rfl) (Nat.le_of_ble_eq_true rfl) (Nat.le_of_ble_eq_true rfl) ?_
        refine j_astore5 (pc := 23) h dX4_gather_23 rfl ?_
        refine j_aload5 (pc := 25) h dX4_gather_25 ?_
        refine j_ifnull (pc := 27) h dX4_gather_27 ?_
        refine j_lload2 (pc := 30) h dX4_gather_30 ?_
        refine j_iload4 (pc := 31) h dX4_gather_31 ?_
        refine j_callSr (pc := 33) h dX4_gather_33 (k_X7_isMember) ms_X4_53 rfl rfl (by decide) (Nat.le_of_ble_eq_true rfl) (Nat.le_of_ble_eq_true rfl) (Nat.le_of_ble_eq_true rfl) ?_
        refine j_if_eqB (pc := 36) (tgt := 97) h dX4_gather_36 (by decide) (fun c36 => ?_) (fun c36 => ?_)
        · exact no (hmb.symm.trans c36) _
        · have hp : isn σ i t = true := hmb.symm.trans c36
          have hc := cnt_mono (p := fun j => isn σ j t) (n := σ.nfl) (j := i + 1) (by omega)
          have ec : cnt (fun j => isn σ j t) (i + 1) = cnt (fun j => isn σ j t) i + 1 := cnt_t (p := fun j => isn σ j t) hp
          have hc2 : cnt (fun j => isn σ j t) σ.nfl ≤ 12 := hm
          have hb : bk σ i = bkS σ i := by unfold bk; rw [hl]; rfl
          refine j_aload0 (pc := 39) h dX4_gather_39 ?_
          refine j_getf (pc := 40) h dX4_gather_40 (f16) fl_X4_37 rfl ?_
          refine j_bipush (pc := 43) h dX4_gather_43 bp_12 ?_
          refine j_icmp_ge (pc := 45) (tgt := 97) h dX4_gather_45 (by decide) (fun c45 => absurd c45 (nI_ge (by omega) (by omega))) (fun c45 => ?_)
          refine j_aload0 (pc := 48) h dX4_gather_48 ?_
          refine j_getf (pc := 49) h dX4_gather_49 (f16) fl_X4_9 rfl ?_
          refine j_aload0 (pc := 52) h dX4_gather_52 ?_
          refine j_getf (pc := 53) h dX4_gather_53 (f16) fl_X4_37 rfl ?_
          refine j_iload4 (pc := 56) h dX4_gather_56 ?_
          refine j_iast (pc := 58) h dX4_gather_58 (f17) (by omega) (by decide) ?_
          refine j_aload0 (pc := 59) h dX4_gather_59 ?_
          refine j_getf (pc := 60) h dX4_gather_60 (f16) fl_X4_15 rfl ?_
          refine j_aload0 (pc := 63) h dX4_gather_63 ?_
          refine j_getf (pc := 64) h dX4_gather_64 (f16) fl_X4_37 rfl ?_
          refine j_aload5 (pc := 67) h dX4_gather_67 ?_
          refine j_getf (pc := 69) h dX4_gather_69 (upn (fp i hlt) (by omega)) fl_X4_57 rfl ?_
          refine j_iast (pc := 72) h dX4_gather_72 (f18) (by omega) (by decide) ?_
          refine j_aload0 (pc := 73) h dX4_gather_73 ?_
          refine j_getf (pc := 74) h dX4_gather_74 (f16) fl_X4_18 rfl ?_
          refine j_aload0 (pc := 77) h dX4_gather_77 ?_
          refine j_getf (pc := 78) h dX4_gather_78 (f16) fl_X4_37 rfl ?_
          refine j_aload5 (pc := 81) h dX4_gather_81 ?_
          refine j_getf (pc := 83) h dX4_gather_83 (upn (upn (fp i hlt) (by omega)) (by omega)) fl_X4_61 rfl ?_
          refine j_last (pc := 86) h dX4_gather_86 (f19) (by omega) (by decide) ?_
          refine j_aload0 (pc := 87) h dX4_gather_87 ?_
          refine j_dupR (pc := 88) h dX4_gather_88 ?_
          refine j_getf (pc := 89) h dX4_gather_89 (f16) fl_X4_37 rfl ?_
          refine j_iconst (pc := 92) h dX4_gather_92 ic_1 ?_
          refine j_iaddN (pc := 93) h dX4_gather_93 ?_
          refine j_putv (pc := 94) h dX4_gather_94 (f16) pl_X4_37 rfl rfl (Nat.le_of_ble_eq_true rfl) ?_
          refine j_iinc4 (pc := 97) h dX4_gather_97 rfl (inc_n _) ?_
          refine j_goto (pc := 100) (tgt := 8) h dX4_gather_100 (by decide) ?_
          refine ih (i + 1) _ (upd nu (cnt (fun j => isn σ j t) i) (nI i)) (upd pw (cnt (fun j => isn σ j t) i) (nI (σ.wo i))) (vp_updL pb (cnt (fun j => isn σ j t) i) (bkS σ i)) _ (by omega) (frL_up (frL_up (frL_up (frL_up fr (by decide)) (by decide)) (by decide)) (by decide)) (by rw [ec]; exact ⟨f0, f1, f2, f3, f4, f5, f6, f7, f8, f9, f10, f11, f12, f13, f14, f15, rfl, rfl, rfl, rfl, hal, hfn, fun i hi => ((frL_up (frL_up (frL_up (frL_up (frL_rf C') (by decide)) (by decide)) (by decide)) (by decide)) _ (by omega)).trans (fp i hi), fun i hi => (fq i hi).imp (fun pl q => ⟨((frL_up (frL_up (frL_up (frL_up (frL_rf C') (by decide)) (by decide)) (by decide)) (by decide)) _ (by omega)).trans q.1, q.2⟩), fun j hj => ((frL_up (frL_up (frL_up (frL_up (frL_rf C') (by decide)) (by decide)) (by decide)) (by decide)) j (Nat.le_trans (by omega) hj)).trans (ffr j hj)⟩) (fun k hk' => ?_)
          by_cases e : k = cnt (fun j => isn σ j t) i
          · subst e
            rw [fw_new (p := fun j => isn σ j t) hp, hb]
            simp [upd, vp_updL]
          · rw [ec] at hk'
            have hk2 : k < cnt (fun j => isn σ j t) i := by omega
            rw [fw_old hk2]
            have := hk k hk2
            simp [upd, vp_updL, e]
            exact this
  refine j_aload0 (pc := 0) h dX4_gather_0 ?_
  refine j_iconst (pc := 1) h dX4_gather_1 ic_0 ?_
  refine j_putv (pc := 2) h dX4_gather_2 (f16) pl_X4_37 rfl rfl (Nat.le_of_ble_eq_true rfl) ?_
  refine j_iconst (pc := 5) h dX4_gather_5 ic_0 ?_
  refine j_istore4 (pc := 6) h dX4_gather_6 rfl ?_
  exact lp σ.nfl 0 _ ρ.nu ρ.pw ρ.pb none (by omega) (frL_up (frL_rf C) (by decide)) (by
    have w := w0
    obtain ⟨f0, f1, f2, f3, f4, f5, f6, f7, f8, f9, f10, f11, f12, f13, f14, f15, f16, f17, f18, f19, hal, hfn, fp, fq, ffr⟩ := id w
    obtain ⟨hf1, hf2, hfl, hnn, hnm, hno, hc1, hc2⟩ := id hI.le
    exact ⟨f0, f1, f2, f3, f4, f5, f6, f7, f8, f9, f10, f11, f12, f13, f14, f15, rfl, f17, f18, f19, hal, hfn, fun i hi => ((frL_up (frL_rf C) (by decide)) _ (by omega)).trans (fp i hi), fun i hi => (fq i hi).imp (fun pl q => ⟨((frL_up (frL_rf C) (by decide)) _ (by omega)).trans q.1, q.2⟩), fun j hj => ((frL_up (frL_rf C) (by decide)) j (Nat.le_trans (by omega) hj)).trans (ffr j hj)⟩) (fun k hk => absurd hk (Nat.not_lt_zero k))
/-- the end of a search -/
def PSr (g : GG) (ad : AD) (C : CC) (σ : Sg) (t n : Nat) : Option Value → AD → CC → Prop := fun r ad' C' => r = some (.int (bI (plBt σ t n).isSome)) ∧ ad' = ad ∧ frL C C' ∧ ∃ ρ', CW g ad σ ρ' C' ∧ ∀ b, plBt σ t n = some b → ρ'.lw = nI (plWt σ t b 0) ∧ ρ'.be = plGo σ t b 0
theorem k_X4_search {C : CC} {ρ : Rm} {t n : Nat} {s : Int64} (w : CW g ad σ ρ C) (hI : Inv σ) (hm : filS σ t ≤ 12) (hn : n ≤ 60) (hs : ∀ i, i < σ.nfl → s.toBitVec.getLsbD i = isn σ i t) : Ct l g yX4_search cX4_search 7 (some .boolean) 16 0 0 [.ref (ad 16), .ref (ad 5), .long s, .long (frV σ (fun i => isn σ i t)), .int (nI n)] ad C (PSr g ad C σ t n) := by
  have eb : plR σ t n (filS σ t) 0 none = plBt σ t n := by rw [plR_all, plBt, if_pos hm]
  obtain ⟨f0, f1, f2, f3, f4, f5, f6, f7, f8, f9, f10, f11, f12, f13, f14, f15, f16, f17, f18, f19, hal, hfn, fp, fq, ffr⟩ := id w
  obtain ⟨hf1, hf2, hfl, hnn, hnm, hno, hc1, hc2⟩ := id hI.le
  refine Ct_of [some (.ref (ad 16)), some (.ref (ad 5)), some (.long s), none, some (.long (frV σ (fun i => isn σ i t))), none, some (.int (nI n))] (by decide) rfl rfl (Nat.le_of_ble_eq_true rfl) rfl rfl (fun X hX h => ?_)
  subst hX
  refine j_aload0 (pc := 0) h dX4_search_0 ?_
  refine j_aload1 (pc := 1) h dX4_search_1 ?_
  refine j_lload2 (pc := 2) h dX4_search_2 ?_
  refine j_callV (pc := 3) h dX4_search_3 (k_X4_gather w hI hm hs) mv_X4_22 (f16) rfl rfl (by decide) (Nat.le_of_ble_eq_true rfl) (Nat.le_of_ble_eq_true rfl) (Nat.le_of_ble_eq_true rfl) (fun v3 ad3 C3 hp3 => ?_)
  obtain ⟨rfl, rfl, fr, nu, pw, pb, w, hk⟩ := hp3
  clear f0 f1 f2 f3 f4 f5 f6 f7 f8 f9 f10 f11 f12 f13 f14 f15 f16 f17 f18 f19 hal hfn fp fq ffr
  obtain ⟨f0, f1, f2, f3, f4, f5, f6, f7, f8, f9, f10, f11, f12, f13, f14, f15, f16, f17, f18, f19, hal, hfn, fp, fq, ffr⟩ := id w
  obtain ⟨hf1, hf2, hfl, hnn, hnm, hno, hc1, hc2⟩ := id hI.le
  refine j_aload0 (pc := 6) h dX4_search_6 ?_
  refine j_iload6 (pc := 7) h dX4_search_7 ?_
  refine j_putv (pc := 9) h dX4_search_9 (f16) pl_X4_26 rfl rfl (Nat.le_of_ble_eq_true rfl) ?_
  refine j_aload0 (pc := 12) h dX4_search_12 ?_
  refine j_sipush (pc := 13) h dX4_search_13 sp_12000 ?_
  refine j_putv (pc := 16) h dX4_search_16 (rfl) pl_X4_30 rfl rfl (Nat.le_of_ble_eq_true rfl) ?_
  refine j_aload0 (pc := 19) h dX4_search_19 ?_
  refine j_lconst (pc := 20) h dX4_search_20 lc_0 ?_
  refine j_putv (pc := 21) h dX4_search_21 (rfl) pl_X4_33 rfl rfl (Nat.le_of_ble_eq_true rfl) ?_
  refine j_mem (show _ = va_up C3 16 (some (oPs ad3 σ t n none)) from by rw [up_up, up_up]; rfl) ?_
  refine j_aload0 (pc := 24) h dX4_search_24 ?_
  refine j_aload0 (pc := 25) h dX4_search_25 ?_
  refine j_getf (pc := 26) h dX4_search_26 (up_eq) fl_X4_37 rfl ?_
  refine j_lload4 (pc := 29) h dX4_search_29 ?_
  refine j_topl (show frV σ (fun i => isn σ i t) = plFr σ t 0 (filS σ t) from plFr_m.symm) ?_
  refine j_lconst (pc := 31) h dX4_search_31 lc_0 ?_
  refine j_topl (show (0 : Int64) = plGo σ t 0 (filS σ t) from plGo_m.symm) ?_
  refine j_iconst (pc := 32) h dX4_search_32 ic_0 ?_
  refine j_topi (show nI 0 = nI (plWt σ t 0 (filS σ t)) from by rw [plWt_m]) ?_
  refine j_callS (pc := 33) h dX4_search_33 (k_X4_decide hI hm hn hk (filS σ t) 0 none _ (Nat.le_refl _) up_eq (upn f17 (by decide)) (upn f18 (by decide)) (upn f19 (by decide))) ms_X4_40 rfl rfl (by omega) (Nat.le_of_ble_eq_true rfl) (Nat.le_of_ble_eq_true rfl) (Nat.le_of_ble_eq_true rfl) (fun v33 ad33 C33 hp33 => ?_)
  rw [eb, up_up] at hp33; obtain ⟨rfl, rfl, rfl⟩ := hp33
  have cw : CW g ad33 σ (ρ.uP nu pw pb (nI (filS σ t)) (nI n) (nI (lwO σ t (plBt σ t n))) (beO σ t (plBt σ t n))) (va_up C3 16 (some (oPs ad33 σ t n (plBt σ t n)))) := ⟨f0, f1, f2, f3, f4, f5, f6, f7, f8, f9, f10, f11, f12, f13, f14, f15, rfl, f17, f18, f19, hal, hfn, fun i hi => ((frL_up (frL_rf C3) (by decide)) _ (by omega)).trans (fp i hi), fun i hi => (fq i hi).imp (fun pl q => ⟨((frL_up (frL_rf C3) (by decide)) _ (by omega)).trans q.1, q.2⟩), fun j hj => ((frL_up (frL_rf C3) (by decide)) j (Nat.le_trans (by omega) hj)).trans (ffr j hj)⟩
  have fr2 := frL_up (v := some (oPs ad33 σ t n (plBt σ t n))) fr (show 16 < 20 by decide)
  have fc : va_up C3 16 (some (oPs ad33 σ t n (plBt σ t n))) 16 = some (oPs ad33 σ t n (plBt σ t n)) := up_eq
  generalize va_up C3 16 (some (oPs ad33 σ t n (plBt σ t n))) = D at cw fr2 fc ⊢
  cases hb : plBt σ t n with
  | none =>
    rw [hb] at cw fc
    refine j_aload0 (pc := 36) h dX4_search_36 ?_
    refine j_getf (pc := 37) h dX4_search_37 (fc) fl_X4_30 rfl ?_
    refine j_sipush (pc := 40) h dX4_search_40 sp_12000 ?_
    refine j_icmp_ge (pc := 43) (tgt := 50) h dX4_search_43 (by decide) (fun c43 => ?_) (fun c43 => absurd (nI_le (a := 12000) (b := 12000) (by omega) (by omega)) c43)
    refine j_iconst (pc := 50) h dX4_search_50 ic_0 ?_
    refine j_zret (pc := 51) h dX4_search_51 (nar_0) (⟨by rw [hb]; rfl, rfl, fr2, _, cw, fun b q => by rw [hb] at q; cases q⟩)
  | some b =>
    rw [hb] at cw fc
    have hw := plWt_le hI hm b 0
    refine j_aload0 (pc := 36) h dX4_search_36 ?_
    refine j_getf (pc := 37) h dX4_search_37 (fc) fl_X4_30 rfl ?_
    refine j_sipush (pc := 40) h dX4_search_40 sp_12000 ?_
    refine j_icmp_ge (pc := 43) (tgt := 50) h dX4_search_43 (by decide) (fun c43 => absurd c43 (nI_ge (a := plWt σ t b 0) (b := 12000) (by omega) (by omega))) (fun c43 => ?_)
    refine j_iconst (pc := 46) h dX4_search_46 ic_1 ?_
    refine j_goto (pc := 47) (tgt := 51) h dX4_search_47 (by decide) ?_
    refine j_zret (pc := 51) h dX4_search_51 (nar_1) (⟨by rw [hb]; rfl, rfl, fr2, _, cw, fun b' q => by rw [hb] at q; cases q; exact ⟨rfl, rfl⟩⟩)
theorem n_lt {x y : Int32} (h : ¬ x < y) : y ≤ x := by rw [Int32.le_iff_toInt_le]; rw [Int32.lt_iff_toInt_lt] at h; omega
theorem lt_n {x y : Int32} (h : x < y) : ¬ y ≤ x := by rw [Int32.le_iff_toInt_le]; rw [Int32.lt_iff_toInt_lt] at h; omega
theorem k_X7_findPlan_no {C : CC} {ρ : Rm} {x y : Int32} (w : CW g ad σ ρ C) (hI : Inv σ) (hx : inN x σ.nf = false ∨ rng y (nI 1) (nI 60) = false) : Cr l g yX7_findPlan cX7_findPlan 5 (some .boolean) 17 [.ref (ad 0), .int x, .int y] ad C (.int (bI false)) := by
  obtain ⟨f0, f1, f2, f3, f4, f5, f6, f7, f8, f9, f10, f11, f12, f13, f14, f15, f16, f17, f18, f19, hal, hfn, fp, fq, ffr⟩ := id w
  obtain ⟨hf1, hf2, hfl, hnn, hnm, hno, hc1, hc2⟩ := id hI.le
  refine Ct_of [some (.ref (ad 0)), some (.int x), some (.int y), none, none] (by decide) rfl rfl (Nat.le_of_ble_eq_true rfl) rfl rfl (fun X hX h => ?_)
  subst hX
  refine j_aload0 (pc := 0) h dX7_findPlan_0 ?_
  refine j_getf (pc := 1) h dX7_findPlan_1 (f0) fl_X7_12 rfl ?_
  refine j_iload1 (pc := 4) h dX7_findPlan_4 ?_
  refine j_callVr (pc := 5) h dX7_findPlan_5 (k_X1_has f1 hf2) mv_X7_64 (f1) rfl rfl (by decide) (Nat.le_of_ble_eq_true rfl) (Nat.le_of_ble_eq_true rfl) (Nat.le_of_ble_eq_true rfl) ?_
  refine j_if_eqB (pc := 8) (tgt := 22) h dX7_findPlan_8 (by decide) (fun c8 => ?_) (fun c8 => ?_)
  · refine j_iconst (pc := 22) h dX7_findPlan_22 ic_0 ?_
    refine j_zretr (pc := 23) h dX7_findPlan_23 (by decide) (rfl)
  · refine j_iload2 (pc := 11) h dX7_findPlan_11 ?_
    refine j_iconst (pc := 12) h dX7_findPlan_12 ic_1 ?_
    refine j_icmp_lt (pc := 13) (tgt := 22) h dX7_findPlan_13 (by decide) (fun c13 => ?_) (fun c13 => ?_)
    · refine j_iconst (pc := 22) h dX7_findPlan_22 ic_0 ?_
      refine j_zretr (pc := 23) h dX7_findPlan_23 (by decide) (rfl)
    · refine j_iload2 (pc := 16) h dX7_findPlan_16 ?_
      refine j_bipush (pc := 17) h dX7_findPlan_17 bp_60 ?_
      refine j_icmp_le (pc := 19) (tgt := 24) h dX7_findPlan_19 (by decide) (fun c19 => absurd c19 (by rcases hx with hx|hx; exact absurd (hx.symm.trans c8) (by decide); intro q; simp [rng, n_lt c13, q] at hx)) (fun c19 => ?_)
      refine j_iconst (pc := 22) h dX7_findPlan_22 ic_0 ?_
      refine j_zretr (pc := 23) h dX7_findPlan_23 (by decide) (rfl)
theorem k_X7_findPlan {C : CC} {ρ : Rm} {t n : Nat} (w : CW g ad σ ρ C) (hI : Inv σ) (ht : t < σ.nf) (h1 : 1 ≤ n) (hn : n ≤ 60) : Ct l g yX7_findPlan cX7_findPlan 5 (some .boolean) 17 0 0 [.ref (ad 0), .int (nI t), .int (nI n)] ad C (PSr g ad C σ t n) := by
  obtain ⟨f0, f1, f2, f3, f4, f5, f6, f7, f8, f9, f10, f11, f12, f13, f14, f15, f16, f17, f18, f19, hal, hfn, fp, fq, ffr⟩ := id w
  obtain ⟨hf1, hf2, hfl, hnn, hnm, hno, hc1, hc2⟩ := id hI.le
  have hfi := pcn_64 (ftS σ ρ t)
  refine Ct_of [some (.ref (ad 0)), some (.int (nI t)), some (.int (nI n)), none, none] (by decide) rfl rfl (Nat.le_of_ble_eq_true rfl) rfl rfl (fun X hX h => ?_)
  subst hX
  refine j_aload0 (pc := 0) h dX7_findPlan_0 ?_
  refine j_getf (pc := 1) h dX7_findPlan_1 (f0) fl_X7_12 rfl ?_
  refine j_iload1 (pc := 4) h dX7_findPlan_4 ?_
  refine j_callVr (pc := 5) h dX7_findPlan_5 (k_X1_has f1 hf2) mv_X7_64 (f1) rfl rfl (by decide) (Nat.le_of_ble_eq_true rfl) (Nat.le_of_ble_eq_true rfl) (Nat.le_of_ble_eq_true rfl) ?_
  refine j_if_eqB (pc := 8) (tgt := 22) h dX7_findPlan_8 (by decide) (fun c8 => absurd c8 (by rw [inN_nI (by omega)]; simp; omega)) (fun c8 => ?_)
  refine j_iload2 (pc := 11) h dX7_findPlan_11 ?_
  refine j_iconst (pc := 12) h dX7_findPlan_12 ic_1 ?_
  refine j_icmp_lt (pc := 13) (tgt := 22) h dX7_findPlan_13 (by decide) (fun c13 => absurd c13 (nI_nlt (by omega) (by omega))) (fun c13 => ?_)
  refine j_iload2 (pc := 16) h dX7_findPlan_16 ?_
  refine j_bipush (pc := 17) h dX7_findPlan_17 bp_60 ?_
  refine j_icmp_le (pc := 19) (tgt := 24) h dX7_findPlan_19 (by decide) (fun c19 => ?_) (fun c19 => absurd (nI_le (by omega) (by omega)) c19)
  refine j_aload0 (pc := 24) h dX7_findPlan_24 ?_
  refine j_iload1 (pc := 25) h dX7_findPlan_25 ?_
  refine j_callVr (pc := 26) h dX7_findPlan_26 (k_X7_filesOfTree w hI ht) mv_X7_152 (f0) rfl rfl (by decide) (Nat.le_of_ble_eq_true rfl) (Nat.le_of_ble_eq_true rfl) (Nat.le_of_ble_eq_true rfl) ?_
  refine j_lstore3 (pc := 29) h dX7_findPlan_29 rfl ?_
  refine j_lload3 (pc := 30) h dX7_findPlan_30 ?_
  refine j_callSr (pc := 31) h dX7_findPlan_31 (k_J13_bitCount_95d88) ms_X7_125 rfl rfl (by decide) (Nat.le_of_ble_eq_true rfl) (Nat.le_of_ble_eq_true rfl) (Nat.le_of_ble_eq_true rfl) ?_
  refine j_bipush (pc := 34) h dX7_findPlan_34 bp_12 ?_
  refine j_icmp_le (pc := 36) (tgt := 41) h dX7_findPlan_36 (by decide) (fun c36 => ?_) (fun c36 => ?_)
  · have hm : filS σ t ≤ 12 := by rw [← fil_eq w hI]; exact nI_le_of c36 (by omega) (by omega)
    refine j_aload0 (pc := 41) h dX7_findPlan_41 ?_
    refine j_getf (pc := 42) h dX7_findPlan_42 (f0) fl_X7_47 rfl ?_
    refine j_aload0 (pc := 45) h dX7_findPlan_45 ?_
    refine j_getf (pc := 46) h dX7_findPlan_46 (f0) fl_X7_19 rfl ?_
    refine j_lload3 (pc := 49) h dX7_findPlan_49 ?_
    refine j_aload0 (pc := 50) h dX7_findPlan_50 ?_
    refine j_lload3 (pc := 51) h dX7_findPlan_51 ?_
    refine j_callVr (pc := 52) h dX7_findPlan_52 (k_X7_blocksFreedBy (gs := fun i => isn σ i t) w hI (fun i _ => ft_bit w hI t i)) mv_X7_197 (f0) rfl rfl (by decide) (Nat.le_of_ble_eq_true rfl) (Nat.le_of_ble_eq_true rfl) (Nat.le_of_ble_eq_true rfl) ?_
    refine j_iload2 (pc := 55) h dX7_findPlan_55 ?_
    refine j_callV (pc := 56) h dX7_findPlan_56 (k_X4_search w hI hm hn (fun i _ => ft_bit w hI t i)) mv_X7_260 (f16) rfl rfl (by decide) (Nat.le_of_ble_eq_true rfl) (Nat.le_of_ble_eq_true rfl) (Nat.le_of_ble_eq_true rfl) (fun v56 ad56 C56 hp56 => ?_)
    obtain ⟨rfl, rfl, fr, hp⟩ := hp56
    refine j_zret (pc := 59) h dX7_findPlan_59 (bI_nar _) (⟨rfl, rfl, fr, hp⟩)
  · have hm : ¬ filS σ t ≤ 12 := by rw [← fil_eq w hI]; exact fun q => c36 (nI_le q (by omega))
    have hb : plBt σ t n = none := by rw [plBt, if_neg hm]
    refine j_iconst (pc := 39) h dX7_findPlan_39 ic_0 ?_
    refine j_zret (pc := 40) h dX7_findPlan_40 (nar_0) (⟨by rw [hb]; rfl, rfl, frL_rf C, ρ, w, fun b q => by rw [hb] at q; cases q⟩)
theorem k_X7_plan_no {C : CC} {ρ : Rm} {x y : Int32} (w : CW g ad σ ρ C) (hI : Inv σ) (hx : inN x σ.nf = false ∨ rng y (nI 1) (nI 60) = false) : Cr l g yX7_plan cX7_plan 3 (some .int) 18 [.ref (ad 0), .int x, .int y] ad C (.int (-1)) := by
  obtain ⟨f0, f1, f2, f3, f4, f5, f6, f7, f8, f9, f10, f11, f12, f13, f14, f15, f16, f17, f18, f19, hal, hfn, fp, fq, ffr⟩ := id w
  obtain ⟨hf1, hf2, hfl, hnn, hnm, hno, hc1, hc2⟩ := id hI.le
  refine Ct_of [some (.ref (ad 0)), some (.int x), some (.int y)] (by decide) rfl rfl (Nat.le_of_ble_eq_true rfl) rfl rfl (fun X hX h => ?_)
  subst hX
  refine j_aload0 (pc := 0) h dX7_plan_0 ?_
  refine j_iload1 (pc := 1) h dX7_plan_1 ?_
  refine j_iload2 (pc := 2) h dX7_plan_2 ?_
  refine j_callVr (pc := 3) h dX7_plan_3 (k_X7_findPlan_no w hI hx) mv_X7_200 (f0) rfl rfl (by decide) (Nat.le_of_ble_eq_true rfl) (Nat.le_of_ble_eq_true rfl) (Nat.le_of_ble_eq_true rfl) ?_
  refine j_if_eqB (pc := 6) (tgt := 19) h dX7_plan_6 (by decide) (fun c6 => ?_) (fun c6 => absurd c6 (by decide))
  refine j_iconst (pc := 19) h dX7_plan_19 ic_m1 ?_
  refine j_iretr (pc := 20) h dX7_plan_20 (rfl)
theorem k_X7_plan {C : CC} {ρ : Rm} {t n : Nat} (w : CW g ad σ ρ C) (hI : Inv σ) (ht : t < σ.nf) (h1 : 1 ≤ n) (hn : n ≤ 60) : Ct l g yX7_plan cX7_plan 3 (some .int) 18 0 0 [.ref (ad 0), .int (nI t), .int (nI n)] ad C (PCl g ad C (.int (plS σ t n)) (σ)) := by
  obtain ⟨f0, f1, f2, f3, f4, f5, f6, f7, f8, f9, f10, f11, f12, f13, f14, f15, f16, f17, f18, f19, hal, hfn, fp, fq, ffr⟩ := id w
  obtain ⟨hf1, hf2, hfl, hnn, hnm, hno, hc1, hc2⟩ := id hI.le
  refine Ct_of [some (.ref (ad 0)), some (.int (nI t)), some (.int (nI n))] (by decide) rfl rfl (Nat.le_of_ble_eq_true rfl) rfl rfl (fun X hX h => ?_)
  subst hX
  refine j_aload0 (pc := 0) h dX7_plan_0 ?_
  refine j_iload1 (pc := 1) h dX7_plan_1 ?_
  refine j_iload2 (pc := 2) h dX7_plan_2 ?_
  refine j_callV (pc := 3) h dX7_plan_3 (k_X7_findPlan w hI ht h1 hn) mv_X7_200 (f0) rfl rfl (by decide) (Nat.le_of_ble_eq_true rfl) (Nat.le_of_ble_eq_true rfl) (Nat.le_of_ble_eq_true rfl) (fun v3 ad3 C3 hp3 => ?_)
  obtain ⟨rfl, rfl, fr, ρ', w, hp⟩ := hp3
  clear f0 f1 f2 f3 f4 f5 f6 f7 f8 f9 f10 f11 f12 f13 f14 f15 f16 f17 f18 f19 hal hfn fp fq ffr
  obtain ⟨f0, f1, f2, f3, f4, f5, f6, f7, f8, f9, f10, f11, f12, f13, f14, f15, f16, f17, f18, f19, hal, hfn, fp, fq, ffr⟩ := id w
  obtain ⟨hf1, hf2, hfl, hnn, hnm, hno, hc1, hc2⟩ := id hI.le
  unfold plS
  cases hb : plBt σ t n with
  | none =>
    refine j_if_eqB (pc := 6) (tgt := 19) h dX7_plan_6 (by decide) (fun c6 => ?_) (fun c6 => absurd c6 (by decide))
    refine j_iconst (pc := 19) h dX7_plan_19 ic_m1 ?_
    refine j_iret (pc := 20) h dX7_plan_20 (PCl_lo (ρ' := ρ') w fr)
  | some b =>
    have h2 := (hp b hb).1
    refine j_if_eqB (pc := 6) (tgt := 19) h dX7_plan_6 (by decide) (fun c6 => absurd c6 (by simp)) (fun c6 => ?_)
    refine j_aload0 (pc := 9) h dX7_plan_9 ?_
    refine j_getf (pc := 10) h dX7_plan_10 (f0) fl_X7_47 rfl ?_
    refine j_getf (pc := 13) h dX7_plan_13 (f16) fl_X7_203 rfl ?_
    refine j_goto (pc := 16) (tgt := 20) h dX7_plan_16 (by decide) ?_
    refine j_iret (pc := 20) h dX7_plan_20 ((by rw [h2]; exact PCl_lo (ρ' := ρ') w fr))
theorem k_X7_planned_no {C : CC} {ρ : Rm} {x y z : Int32} (w : CW g ad σ ρ C) (hI : Inv σ) (hx : inN x σ.nf = false ∨ rng y (nI 1) (nI 60) = false) : Cr l g yX7_planned cX7_planned 4 (some .int) 18 [.ref (ad 0), .int x, .int y, .int z] ad C (.int (-1)) := by
  obtain ⟨f0, f1, f2, f3, f4, f5, f6, f7, f8, f9, f10, f11, f12, f13, f14, f15, f16, f17, f18, f19, hal, hfn, fp, fq, ffr⟩ := id w
  obtain ⟨hf1, hf2, hfl, hnn, hnm, hno, hc1, hc2⟩ := id hI.le
  refine Ct_of [some (.ref (ad 0)), some (.int x), some (.int y), some (.int z)] (by decide) rfl rfl (Nat.le_of_ble_eq_true rfl) rfl rfl (fun X hX h => ?_)
  subst hX
  refine j_aload0 (pc := 0) h dX7_planned_0 ?_
  refine j_iload1 (pc := 1) h dX7_planned_1 ?_
  refine j_iload2 (pc := 2) h dX7_planned_2 ?_
  refine j_callVr (pc := 3) h dX7_planned_3 (k_X7_findPlan_no w hI hx) mv_X7_200 (f0) rfl rfl (by decide) (Nat.le_of_ble_eq_true rfl) (Nat.le_of_ble_eq_true rfl) (Nat.le_of_ble_eq_true rfl) ?_
  refine j_if_eqB (pc := 6) (tgt := 25) h dX7_planned_6 (by decide) (fun c6 => ?_) (fun c6 => absurd c6 (by decide))
  refine j_iconst (pc := 25) h dX7_planned_25 ic_m1 ?_
  refine j_iretr (pc := 26) h dX7_planned_26 (rfl)
theorem k_X7_planned {C : CC} {ρ : Rm} {t n : Nat} {z : Int32} (w : CW g ad σ ρ C) (hI : Inv σ) (ht : t < σ.nf) (h1 : 1 ≤ n) (hn : n ≤ 60) : Ct l g yX7_planned cX7_planned 4 (some .int) 18 0 0 [.ref (ad 0), .int (nI t), .int (nI n), .int z] ad C (PCl g ad C (.int (pdS σ t n z)) (σ)) := by
  obtain ⟨f0, f1, f2, f3, f4, f5, f6, f7, f8, f9, f10, f11, f12, f13, f14, f15, f16, f17, f18, f19, hal, hfn, fp, fq, ffr⟩ := id w
  obtain ⟨hf1, hf2, hfl, hnn, hnm, hno, hc1, hc2⟩ := id hI.le
  refine Ct_of [some (.ref (ad 0)), some (.int (nI t)), some (.int (nI n)), some (.int z)] (by decide) rfl rfl (Nat.le_of_ble_eq_true rfl) rfl rfl (fun X hX h => ?_)
  subst hX
  refine j_aload0 (pc := 0) h dX7_planned_0 ?_
  refine j_iload1 (pc := 1) h dX7_planned_1 ?_
  refine j_iload2 (pc := 2) h dX7_planned_2 ?_
  refine j_callV (pc := 3) h dX7_planned_3 (k_X7_findPlan w hI ht h1 hn) mv_X7_200 (f0) rfl rfl (by decide) (Nat.le_of_ble_eq_true rfl) (Nat.le_of_ble_eq_true rfl) (Nat.le_of_ble_eq_true rfl) (fun v3 ad3 C3 hp3 => ?_)
  obtain ⟨rfl, rfl, fr, ρ', w, hp⟩ := hp3
  clear f0 f1 f2 f3 f4 f5 f6 f7 f8 f9 f10 f11 f12 f13 f14 f15 f16 f17 f18 f19 hal hfn fp fq ffr
  obtain ⟨f0, f1, f2, f3, f4, f5, f6, f7, f8, f9, f10, f11, f12, f13, f14, f15, f16, f17, f18, f19, hal, hfn, fp, fq, ffr⟩ := id w
  obtain ⟨hf1, hf2, hfl, hnn, hnm, hno, hc1, hc2⟩ := id hI.le
  unfold pdS
  cases hb : plBt σ t n with
  | none =>
    refine j_if_eqB (pc := 6) (tgt := 25) h dX7_planned_6 (by decide) (fun c6 => ?_) (fun c6 => absurd c6 (by decide))
    refine j_iconst (pc := 25) h dX7_planned_25 ic_m1 ?_
    refine j_iret (pc := 26) h dX7_planned_26 (PCl_lo (ρ' := ρ') w fr)
  | some b =>
    have h2 := (hp b hb).2
    refine j_if_eqB (pc := 6) (tgt := 25) h dX7_planned_6 (by decide) (fun c6 => absurd c6 (by simp)) (fun c6 => ?_)
    refine j_aload0 (pc := 9) h dX7_planned_9 ?_
    refine j_getf (pc := 10) h dX7_planned_10 (f0) fl_X7_47 rfl ?_
    refine j_getf (pc := 13) h dX7_planned_13 (f16) fl_X7_206 rfl ?_
    refine j_topl (h2) ?_
    refine j_iload3 (pc := 16) h dX7_planned_16 ?_
    refine j_bipush (pc := 17) h dX7_planned_17 bp_40 ?_
    refine j_callSr (pc := 19) h dX7_planned_19 (k_X7_memberOf (n := 40) (by decide)) ms_X7_133 rfl rfl (by decide) (Nat.le_of_ble_eq_true rfl) (Nat.le_of_ble_eq_true rfl) (Nat.le_of_ble_eq_true rfl) ?_
    refine j_goto (pc := 22) (tgt := 26) h dX7_planned_22 (by decide) ?_
    refine j_iret (pc := 26) h dX7_planned_26 (PCl_lo (ρ' := ρ') w fr)
end PC

