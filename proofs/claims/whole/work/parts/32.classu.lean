/-! The class: unlink, mark -/
theorem nms_un {σ : Sg} {k i : Nat} (h : σ.fl k ≠ i) : nms (sUn σ k) i = nms σ i := by
  show cnt (fun j => va_up σ.tb k false j && σ.fl j == i) σ.nn = cnt (fun j => σ.tb j && σ.fl j == i) σ.nn
  refine cnt_cong (fun j _ => ?_)
  show (va_up σ.tb k false j && σ.fl j == i) = (σ.tb j && σ.fl j == i)
  by_cases e : j = k
  · subst e; rw [beq_eq_false_iff_ne.mpr h, Bool.and_false, Bool.and_false]
  · rw [va_up_ne _ _ e]
theorem hfn_un {σ : Sg} {fn : Nat → Int32} (hfn : ∀ k, k < σ.nn → fn k = if σ.tb k = true then nI (σ.fl k) else -1) {k : Nat} : ∀ j, j < (sUn σ k).nn → upd fn k (-1) j = if (sUn σ k).tb j = true then nI ((sUn σ k).fl j) else -1 := by
  intro j hj
  show upd fn k (-1) j = if va_up σ.tb k false j = true then nI (σ.fl j) else -1
  by_cases e : j = k
  · subst e; simp [upd, va_up]
  · rw [va_up_ne _ _ e, ← hfn j hj]; simp [upd, e]
theorem lv_of {σ : Sg} {k : Nat} (hk : k < σ.nn) (ht : σ.tb k = true) : lv σ (σ.fl k) = true := by
  have := cnt_pos (p := fun j => σ.tb j && σ.fl j == σ.fl k) hk (by simp [ht])
  exact decide_eq_true this
theorem al_un {ad : AD} {σ : Sg} {al : Nat → Option Nat} {k : Nat} (hk : k < σ.nn) (ht : σ.tb k = true) (hal : isAl ad σ.nfl (lv σ) al) (h0 : ¬ nms (sUn σ k) (σ.fl k) = 0) : isAl ad (sUn σ k).nfl (lv (sUn σ k)) al := by
  intro i hi
  rw [hal i hi]
  have e : lv (sUn σ k) i = lv σ i := by
    by_cases q : σ.fl k = i
    · subst q
      rw [lv_of hk ht]
      unfold lv
      exact decide_eq_true (by omega)
    · unfold lv; rw [nms_un q]
  rw [e]
theorem al_un0 {ad : AD} {σ : Sg} {al : Nat → Option Nat} {k : Nat} (hal : isAl ad σ.nfl (lv σ) al) (h0 : nms (sUn σ k) (σ.fl k) = 0) : isAl ad (sUn σ k).nfl (lv (sUn σ k)) (va_up al (σ.fl k) none) := by
  intro i hi
  by_cases q : i = σ.fl k
  · subst q
    rw [up_eq, if_neg]
    unfold lv
    rw [h0]; decide
  · rw [va_up_ne _ _ q, hal i hi]
    have e : lv (sUn σ k) i = lv σ i := by unfold lv; rw [nms_un (fun h => q h.symm)]
    rw [e]
/-- the mark's state while its folders are kept -/
def sMk (σ : Sg) (n : Nat) : Sg := ((σ.uN 5 (va_up σ.md σ.nm σ.now)).uN 6 (mkT σ n)).uK 3 (σ.nm + 1)
theorem sMk_end {σ : Sg} (hI : Inv σ) (hM : InvM σ) : sMk σ σ.nf = sMa σ := by
  have hle := hI.le
  have e : mkT σ σ.nf = mkT σ 30 := by
    funext q
    unfold mkT
    by_cases h1 : 30 * σ.nm ≤ q ∧ q < 30 * σ.nm + σ.nf
    · rw [if_pos h1, if_pos (show 30 * σ.nm ≤ q ∧ q < 30 * σ.nm + 30 from by omega)]
    · rw [if_neg h1]
      by_cases h2 : 30 * σ.nm ≤ q ∧ q < 30 * σ.nm + 30
      · rw [if_pos h2, if_neg (by omega), hM.2.2.1 q h2.1]
      · rw [if_neg h2]
  unfold sMk sMa
  rw [e]
theorem Inv_mk {σ : Sg} (hI : Inv σ) (hn : σ.nm < 20) (n : Nat) : Inv (sMk σ n) := by
  obtain ⟨hf1, hf2, hfl, hnn, hnm, hno, hc1, hc2⟩ := hI.le
  exact ⟨⟨hf1, hf2, hfl, hnn, hn, hno, hc1, hc2⟩, hI.2⟩
theorem mkT_s' (σ : Sg) {i : Nat} (hi : i < σ.nf) : upd (fun q => nI (mkT σ i q)) (σ.nm * 30 + i) (nI (tkS σ i)) = fun q => nI (mkT σ (i + 1) q) := by
  have := mkT_s σ i
  rw [if_pos hi] at this
  rw [Nat.mul_comm]; exact this
section CU
variable {l : Launch} {g : GG} {ad : AD} {C : CC} {σ : Sg} {ρ : Rm}
theorem k_X7_unlink_no {x : Int32} (w : CW g ad σ ρ C) (hI : Inv σ) (hx : inN x σ.nn = false ∨ ∃ k, k < σ.nn ∧ x = nI k ∧ σ.tb k = false) : Cr l g yX7_unlink cX7_unlink 3 (some .boolean) 2 [.ref (ad 0), .int x] ad C (.int (bI false)) := by
  obtain ⟨f0, f1, f2, f3, f4, f5, f6, f7, f8, f9, f10, f11, f12, f13, f14, f15, f16, f17, f18, f19, hal, hfn, fp, fq, ffr⟩ := id w
  obtain ⟨hf1, hf2, hfl, hnn, hnm, hno, hc1, hc2⟩ := id hI.le
  refine Ct_of [some (.ref (ad 0)), some (.int x), none] (by decide) rfl rfl (Nat.le_of_ble_eq_true rfl) rfl rfl (fun X hX h => ?_)
  subst hX
  rcases hx with hx | ⟨k, hk, rfl, hx⟩
  · refine j_aload0 (pc := 0) h dX7_unlink_0 ?_
    refine j_getf (pc := 1) h dX7_unlink_1 (f0) fl_X7_26 rfl ?_
    refine j_iload1 (pc := 4) h dX7_unlink_4 ?_
    refine j_callVr (pc := 5) h dX7_unlink_5 (k_X3_fileOf_no f7 hnn hx) mv_X7_97 (f7) rfl rfl (by decide) (Nat.le_of_ble_eq_true rfl) (Nat.le_of_ble_eq_true rfl) (Nat.le_of_ble_eq_true rfl) ?_
    refine j_istore2 (pc := 8) h dX7_unlink_8 rfl ?_
    refine j_iload2 (pc := 9) h dX7_unlink_9 ?_
    refine j_iconst (pc := 10) h dX7_unlink_10 ic_m1 ?_
    refine j_icmp_ne (pc := 11) (tgt := 16) h dX7_unlink_11 (by decide) (fun c11 => absurd (rfl) c11) (fun c11 => ?_)
    refine j_iconst (pc := 14) h dX7_unlink_14 ic_0 ?_
    refine j_zretr (pc := 15) h dX7_unlink_15 (by decide) (rfl)
  · refine j_aload0 (pc := 0) h dX7_unlink_0 ?_
    refine j_getf (pc := 1) h dX7_unlink_1 (f0) fl_X7_26 rfl ?_
    refine j_iload1 (pc := 4) h dX7_unlink_4 ?_
    refine j_callVr (pc := 5) h dX7_unlink_5 (k_X3_fileOf f7 f8 hnn hk) mv_X7_97 (f7) rfl rfl (by decide) (Nat.le_of_ble_eq_true rfl) (Nat.le_of_ble_eq_true rfl) (Nat.le_of_ble_eq_true rfl) ?_
    refine j_istore2 (pc := 8) h dX7_unlink_8 rfl ?_
    refine j_iload2 (pc := 9) h dX7_unlink_9 ?_
    refine j_iconst (pc := 10) h dX7_unlink_10 ic_m1 ?_
    refine j_icmp_ne (pc := 11) (tgt := 16) h dX7_unlink_11 (by decide) (fun c11 => absurd (by rw [hfn k hk, hx]; rfl) c11) (fun c11 => ?_)
    refine j_iconst (pc := 14) h dX7_unlink_14 ic_0 ?_
    refine j_zretr (pc := 15) h dX7_unlink_15 (by decide) (rfl)
theorem k_X7_unlink {k : Nat} (w : CW g ad σ ρ C) (hI : Inv σ) (hk : k < σ.nn) (hx : σ.tb k = true) : Ct l g yX7_unlink cX7_unlink 3 (some .boolean) 2 0 0 [.ref (ad 0), .int (nI k)] ad C (PCl g ad C (.int (bI true)) (sUn σ k)) := by
  obtain ⟨f0, f1, f2, f3, f4, f5, f6, f7, f8, f9, f10, f11, f12, f13, f14, f15, f16, f17, f18, f19, hal, hfn, fp, fq, ffr⟩ := id w
  obtain ⟨hf1, hf2, hfl, hnn, hnm, hno, hc1, hc2⟩ := id hI.le
  have hf := (hI.nam k hk).1
  have ef : ρ.fn k = nI (σ.fl k) := by rw [hfn k hk, hx]; rfl
  have hle := nms_le (sUn σ k) (σ.fl k)
  have hle' : nms (sUn σ k) (σ.fl k) ≤ σ.nn := hle
  have hI' : Inv (sUn σ k) := hI
  have en : nI (cnt (fun j => upd ρ.fn k (-1) j == nI (σ.fl k)) σ.nn) = nI (nms (sUn σ k) (σ.fl k)) := by
    rw [← nm_cnt (σ := sUn σ k) hI' (hfn_un hfn) (by omega)]; rfl
  refine Ct_of [some (.ref (ad 0)), some (.int (nI k)), none] (by decide) rfl rfl (Nat.le_of_ble_eq_true rfl) rfl rfl (fun X hX h => ?_)
  subst hX
  refine j_aload0 (pc := 0) h dX7_unlink_0 ?_
  refine j_getf (pc := 1) h dX7_unlink_1 (f0) fl_X7_26 rfl ?_
  refine j_iload1 (pc := 4) h dX7_unlink_4 ?_
  refine j_callVr (pc := 5) h dX7_unlink_5 (k_X3_fileOf f7 f8 hnn hk) mv_X7_97 (f7) rfl rfl (by decide) (Nat.le_of_ble_eq_true rfl) (Nat.le_of_ble_eq_true rfl) (Nat.le_of_ble_eq_true rfl) ?_
  refine j_topi (ef) ?_
  refine j_istore2 (pc := 8) h dX7_unlink_8 rfl ?_
  refine j_iload2 (pc := 9) h dX7_unlink_9 ?_
  refine j_iconst (pc := 10) h dX7_unlink_10 ic_m1 ?_
  refine j_icmp_ne (pc := 11) (tgt := 16) h dX7_unlink_11 (by decide) (fun c11 => ?_) (fun c11 => absurd c11 (nI_m1 (by omega)))
  refine j_aload0 (pc := 16) h dX7_unlink_16 ?_
  refine j_getf (pc := 17) h dX7_unlink_17 (f0) fl_X7_26 rfl ?_
  refine j_iload1 (pc := 20) h dX7_unlink_20 ?_
  refine j_callV (pc := 21) h dX7_unlink_21 (k_X3_remove f7 f8 hnn hk) mv_X7_108 (f7) rfl rfl (by decide) (Nat.le_of_ble_eq_true rfl) (Nat.le_of_ble_eq_true rfl) (Nat.le_of_ble_eq_true rfl) (fun v21 ad21 C21 hp21 => ?_)
  obtain ⟨rfl, rfl, rfl⟩ := hp21
  refine j_aload0 (pc := 24) h dX7_unlink_24 ?_
  refine j_getf (pc := 25) h dX7_unlink_25 (f0) fl_X7_26 rfl ?_
  refine j_iload2 (pc := 28) h dX7_unlink_28 ?_
  refine j_callVr (pc := 29) h dX7_unlink_29 (k_X3_countOf (fn := upd ρ.fn k (-1)) (nn := σ.nn) f7 rfl hnn) mv_X7_112 (f7) rfl rfl (by decide) (Nat.le_of_ble_eq_true rfl) (Nat.le_of_ble_eq_true rfl) (Nat.le_of_ble_eq_true rfl) ?_
  refine j_topi (en) ?_
  refine j_if_ne (pc := 32) (tgt := 43) h dX7_unlink_32 (by decide) (fun c32 => ?_) (fun c32 => ?_)
  · refine j_iconst (pc := 43) h dX7_unlink_43 ic_1 ?_
    refine j_zret (pc := 44) h dX7_unlink_44 (nar_1) (PCl_lo (ρ' := ρ.uF (upd ρ.fn k (-1))) ⟨f0, f1, f2, f3, f4, f5, f6, f7, rfl, f9, f10, f11, f12, f13, f14, f15, f16, f17, f18, f19, al_un hk hx hal (fun q => c32 (by rw [q]; rfl)), hfn_un hfn, fun i hi => ((frL_up (frL_rf C) (by decide)) _ (by omega)).trans (fp i hi), fun i hi => (fq i hi).imp (fun pl q => ⟨((frL_up (frL_rf C) (by decide)) _ (by omega)).trans q.1, q.2⟩), fun j hj => ((frL_up (frL_rf C) (by decide)) j (Nat.le_trans (by omega) hj)).trans (ffr j hj)⟩ (frL_up (frL_rf C) (by decide)))
  · have h0 : nms (sUn σ k) (σ.fl k) = 0 := nI_inj c32 (by omega) (by decide)
    refine j_aload0 (pc := 35) h dX7_unlink_35 ?_
    refine j_getf (pc := 36) h dX7_unlink_36 (f0) fl_X7_19 rfl ?_
    refine j_iload2 (pc := 39) h dX7_unlink_39 ?_
    refine j_callV (pc := 40) h dX7_unlink_40 (k_X0_forget (al := ρ.al) (nfl := σ.nfl) f5 f6 hfl hf) mv_X7_115 (f5) rfl rfl (by decide) (Nat.le_of_ble_eq_true rfl) (Nat.le_of_ble_eq_true rfl) (Nat.le_of_ble_eq_true rfl) (fun v40 ad40 C40 hp40 => ?_)
    obtain ⟨rfl, rfl, rfl⟩ := hp40
    refine j_iconst (pc := 43) h dX7_unlink_43 ic_1 ?_
    refine j_zret (pc := 44) h dX7_unlink_44 (nar_1) (PCl_lo (ρ' := (ρ.uF (upd ρ.fn k (-1))).uA (va_up ρ.al (σ.fl k) none)) ⟨f0, f1, f2, f3, f4, f5, rfl, f7, rfl, f9, f10, f11, f12, f13, f14, f15, f16, f17, f18, f19, al_un0 hal h0, hfn_un hfn, fun i hi => ((frL_up (frL_up (frL_rf C) (by decide)) (by decide)) _ (by omega)).trans (fp i hi), fun i hi => (fq i hi).imp (fun pl q => ⟨((frL_up (frL_up (frL_rf C) (by decide)) (by decide)) _ (by omega)).trans q.1, q.2⟩), fun j hj => ((frL_up (frL_up (frL_rf C) (by decide)) (by decide)) j (Nat.le_trans (by omega) hj)).trans (ffr j hj)⟩ (frL_up (frL_up (frL_rf C) (by decide)) (by decide)))
theorem k_X7_mark_no (w : CW g ad σ ρ C) (hI : Inv σ) (hn : σ.nm = 20) : Cr l g yX7_mark cX7_mark 3 (some .int) 6 [.ref (ad 0)] ad C (.int (-1)) := by
  obtain ⟨f0, f1, f2, f3, f4, f5, f6, f7, f8, f9, f10, f11, f12, f13, f14, f15, f16, f17, f18, f19, hal, hfn, fp, fq, ffr⟩ := id w
  obtain ⟨hf1, hf2, hfl, hnn, hnm, hno, hc1, hc2⟩ := id hI.le
  refine Ct_of [some (.ref (ad 0)), none, none] (by decide) rfl rfl (Nat.le_of_ble_eq_true rfl) rfl rfl (fun X hX h => ?_)
  subst hX
  refine j_aload0 (pc := 0) h dX7_mark_0 ?_
  refine j_getf (pc := 1) h dX7_mark_1 (f0) fl_X7_40 rfl ?_
  refine j_aload0 (pc := 4) h dX7_mark_4 ?_
  refine j_getf (pc := 5) h dX7_mark_5 (f0) fl_X7_51 rfl ?_
  refine j_callVr (pc := 8) h dX7_mark_8 (k_X2_add_no f13 hn) mv_X7_175 (f13) rfl rfl (by decide) (Nat.le_of_ble_eq_true rfl) (Nat.le_of_ble_eq_true rfl) (Nat.le_of_ble_eq_true rfl) ?_
  refine j_istore1 (pc := 11) h dX7_mark_11 rfl ?_
  refine j_iload1 (pc := 12) h dX7_mark_12 ?_
  refine j_iconst (pc := 13) h dX7_mark_13 ic_m1 ?_
  refine j_icmp_eq (pc := 14) (tgt := 50) h dX7_mark_14 (by decide) (fun c14 => ?_) (fun c14 => absurd (rfl) c14)
  refine j_iload1 (pc := 50) h dX7_mark_50 ?_
  refine j_iretr (pc := 51) h dX7_mark_51 (rfl)
theorem k_X7_mark (w : CW g ad σ ρ C) (hI : Inv σ) (hM : InvM σ) (hn : σ.nm < 20) : Ct l g yX7_mark cX7_mark 3 (some .int) 6 0 0 [.ref (ad 0)] ad C (PCl g ad C (.int (nI σ.nm)) (sMa σ)) := by
  have hI0 := hI
  obtain ⟨f0, f1, f2, f3, f4, f5, f6, f7, f8, f9, f10, f11, f12, f13, f14, f15, f16, f17, f18, f19, hal, hfn, fp, fq, ffr⟩ := id w
  obtain ⟨hf1, hf2, hfl, hnn, hnm, hno, hc1, hc2⟩ := id hI.le
  refine Ct_of [some (.ref (ad 0)), none, none] (by decide) rfl rfl (Nat.le_of_ble_eq_true rfl) rfl rfl (fun X hX h => ?_)
  subst hX
  have lp : ∀ n i C', i + n = σ.nf → CW g ad (sMk σ i) ρ C' → frL C C' → J X g 3 (QX X g 0 0 (PCl g ad C (.int (nI σ.nm)) (sMa σ))) 0 0 ad C' 19 [some (.ref (ad 0)), some (.int (nI σ.nm)), some (.int (nI i))] [] := by
    intro n
    induction n with
    | zero =>
      intro i C' hi w fr
      have hI := Inv_mk hI0 hn i
      obtain ⟨f0, f1, f2, f3, f4, f5, f6, f7, f8, f9, f10, f11, f12, f13, f14, f15, f16, f17, f18, f19, hal, hfn, fp, fq, ffr⟩ := id w
      obtain ⟨hf1, hf2, hfl, hnn, hnm, hno, hc1, hc2⟩ := id hI.le
      refine j_iload2 (pc := 19) h dX7_mark_19 ?_
      refine j_aload0 (pc := 20) h dX7_mark_20 ?_
      refine j_getf (pc := 21) h dX7_mark_21 (f0) fl_X7_12 rfl ?_
      refine j_getf (pc := 24) h dX7_mark_24 (f1) fl_X7_177 rfl ?_
      refine j_icmp_ge (pc := 27) (tgt := 50) h dX7_mark_27 (by decide) (fun c27 => ?_) (fun c27 => absurd (nI_le (a := σ.nf) (by omega) (by omega)) c27)
      refine j_iload1 (pc := 50) h dX7_mark_50 ?_
      refine j_iret (pc := 51) h dX7_mark_51 (PCl_lo (ρ' := ρ) (by rw [← sMk_end hI0 hM, show σ.nf = i by omega]; exact w) fr)
    | succ n ih =>
      intro i C' hi w fr
      have hI := Inv_mk hI0 hn i
      obtain ⟨f0, f1, f2, f3, f4, f5, f6, f7, f8, f9, f10, f11, f12, f13, f14, f15, f16, f17, f18, f19, hal, hfn, fp, fq, ffr⟩ := id w
      obtain ⟨hf1, hf2, hfl, hnn, hnm, hno, hc1, hc2⟩ := id hI.le
      refine j_iload2 (pc := 19) h dX7_mark_19 ?_
      refine j_aload0 (pc := 20) h dX7_mark_20 ?_
      refine j_getf (pc := 21) h dX7_mark_21 (f0) fl_X7_12 rfl ?_
      refine j_getf (pc := 24) h dX7_mark_24 (f1) fl_X7_177 rfl ?_
      refine j_icmp_ge (pc := 27) (tgt := 50) h dX7_mark_27 (by decide) (fun c27 => absurd c27 (nI_ge (b := σ.nf) (by omega) (by omega))) (fun c27 => ?_)
      refine j_aload0 (pc := 30) h dX7_mark_30 ?_
      refine j_getf (pc := 31) h dX7_mark_31 (f0) fl_X7_40 rfl ?_
      refine j_iload1 (pc := 34) h dX7_mark_34 ?_
      refine j_iload2 (pc := 35) h dX7_mark_35 ?_
      refine j_aload0 (pc := 36) h dX7_mark_36 ?_
      refine j_iload2 (pc := 37) h dX7_mark_37 ?_
      refine j_callVr (pc := 38) h dX7_mark_38 (k_X7_takenBy (t := i) w hI (show i < σ.nf by omega)) mv_X7_180 (f0) rfl rfl (by decide) (Nat.le_of_ble_eq_true rfl) (Nat.le_of_ble_eq_true rfl) (Nat.le_of_ble_eq_true rfl) ?_
      refine j_callV (pc := 41) h dX7_mark_41 (k_X2_keep (nm := σ.nm + 1) f13 f15 (by omega) (i := σ.nm) (j := i) (by omega) (by omega)) mv_X7_183 (f13) rfl rfl (by decide) (Nat.le_of_ble_eq_true rfl) (Nat.le_of_ble_eq_true rfl) (Nat.le_of_ble_eq_true rfl) (fun v41 ad41 C41 hp41 => ?_)
      obtain ⟨rfl, rfl, rfl⟩ := hp41
      refine j_iinc2 (pc := 44) h dX7_mark_44 rfl (inc_n _) ?_
      refine j_goto (pc := 47) (tgt := 19) h dX7_mark_47 (by decide) ?_
      exact ih (i + 1) _ (by omega) ⟨f0, f1, f2, f3, f4, f5, f6, f7, f8, f9, f10, f11, f12, f13, f14, eI_c (mkT_s' σ (by omega)), f16, f17, f18, f19, hal, hfn, fun i hi => ((frL_up (frL_rf C') (by decide)) _ (by omega)).trans (fp i hi), fun i hi => (fq i hi).imp (fun pl q => ⟨((frL_up (frL_rf C') (by decide)) _ (by omega)).trans q.1, q.2⟩), fun j hj => ((frL_up (frL_rf C') (by decide)) j (Nat.le_trans (by omega) hj)).trans (ffr j hj)⟩ (frL_up fr (by decide))
  refine j_aload0 (pc := 0) h dX7_mark_0 ?_
  refine j_getf (pc := 1) h dX7_mark_1 (f0) fl_X7_40 rfl ?_
  refine j_aload0 (pc := 4) h dX7_mark_4 ?_
  refine j_getf (pc := 5) h dX7_mark_5 (f0) fl_X7_51 rfl ?_
  refine j_callV (pc := 8) h dX7_mark_8 (k_X2_add f13 f14 hn) mv_X7_175 (f13) rfl rfl (by decide) (Nat.le_of_ble_eq_true rfl) (Nat.le_of_ble_eq_true rfl) (Nat.le_of_ble_eq_true rfl) (fun v8 ad8 C8 hp8 => ?_)
  obtain ⟨rfl, rfl, rfl⟩ := hp8
  refine j_istore1 (pc := 11) h dX7_mark_11 rfl ?_
  refine j_iload1 (pc := 12) h dX7_mark_12 ?_
  refine j_iconst (pc := 13) h dX7_mark_13 ic_m1 ?_
  refine j_icmp_eq (pc := 14) (tgt := 50) h dX7_mark_14 (by decide) (fun c14 => absurd c14 (nI_m1 (by omega))) (fun c14 => ?_)
  refine j_iconst (pc := 17) h dX7_mark_17 ic_0 ?_
  refine j_istore2 (pc := 18) h dX7_mark_18 rfl ?_
  exact lp σ.nf 0 _ (by omega) ⟨f0, f1, f2, f3, f4, f5, f6, f7, f8, f9, f10, f11, f12, rfl, eI_c nF_up, f15.trans (eI_c (mkT_0 σ).symm), f16, f17, f18, f19, hal, hfn, fun i hi => ((frL_up (frL_up (frL_rf C) (by decide)) (by decide)) _ (by omega)).trans (fp i hi), fun i hi => (fq i hi).imp (fun pl q => ⟨((frL_up (frL_up (frL_rf C) (by decide)) (by decide)) _ (by omega)).trans q.1, q.2⟩), fun j hj => ((frL_up (frL_up (frL_rf C) (by decide)) (by decide)) j (Nat.le_trans (by omega) hj)).trans (ffr j hj)⟩ (frL_up (frL_up (frL_rf C) (by decide)) (by decide))
end CU

