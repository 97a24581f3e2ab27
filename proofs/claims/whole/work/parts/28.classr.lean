/-! The class: its helpers -/
theorem and3 (a b c : Int64) : a &&& (b ^^^ (-1)) &&& (c ^^^ (-1)) = a &&& ((c ||| b) ^^^ (-1)) := by
  apply wb_inj
  apply BitVec.eq_of_getLsbD_eq
  intro i hi
  rw [Int64.toBitVec_and, Int64.toBitVec_and, Int64.toBitVec_and, BitVec.getLsbD_and, BitVec.getLsbD_and, BitVec.getLsbD_and, not_bit b hi, not_bit c hi, not_bit _ hi, Int64.toBitVec_or, BitVec.getLsbD_or]
  cases a.toBitVec.getLsbD i <;> cases b.toBitVec.getLsbD i <;> cases c.toBitVec.getLsbD i <;> rfl
/-- the files of a tree, as the class holds them -/
def ftS (σ : Sg) (ρ : Rm) (t : Nat) : Int64 := fwS ρ.fn (fun k => nI (σ.ni k)) (bitsI (fun j => anc σ.pr 29 j t) σ.nf) σ.nn
theorem ft_bit {g : GG} {ad : AD} {C : CC} {σ : Sg} {ρ : Rm} (w : CW g ad σ ρ C) (hI : Inv σ) (t i : Nat) : (ftS σ ρ t).toBitVec.getLsbD i = isn σ i t := by
  obtain ⟨f0, f1, f2, f3, f4, f5, f6, f7, f8, f9, f10, f11, f12, f13, f14, f15, f16, f17, f18, f19, hal, hfn, fp, fq, ffr⟩ := id w
  obtain ⟨hf1, hf2, hfl, hnn, hnm, hno, hc1, hc2⟩ := id hI.le
  exact fw_bit hI hfn (p := fun j => anc σ.pr 29 j t) (fun j hj => by rw [bitsI_bit (by omega)]; simp [hj]) i
theorem pcn_0 : pcn 0 = 0 := by
  unfold pcn
  rw [cnt_cong (q := fun _ => false) (fun k _ => by simp)]; rfl
theorem rnk_cong {p q : Nat → Bool} {a b : Nat → Nat} {x : Int32} : ∀ {m i : Nat}, (∀ j, j < i + m → p j = q j) → (∀ j, j < i + m → a j = b j) → rnk p a x i m = rnk q b x i m
  | 0, _, _, _ => rfl
  | m + 1, i, h, h2 => by rw [rnk, rnk, h i (by omega), h2 i (by omega), rnk_cong (fun j hj => h j (by omega)) (fun j hj => h2 j (by omega))]
theorem lg_eq {g : GG} {ad : AD} {C : CC} {σ : Sg} {ρ : Rm} {t : Nat} {y : Int32} (w : CW g ad σ ρ C) (hI : Inv σ) : rnk (fun j => mbr (ftS σ ρ t) (nI j)) (fun i => cnt (fun j => mbr (ftS σ ρ t) (nI j) && ahd (szF (lv σ) (bkS σ)) i j) σ.nfl) y 0 σ.nfl = lgS σ t y := by
  have hle := hI.le
  have e1 : ∀ j, j < 64 → mbr (ftS σ ρ t) (nI j) = isn σ j t := fun j hj => by rw [mbr_bit _ hj, ft_bit w hI]
  have e2 : szF (lv σ) (bkS σ) = szS σ := by
    funext i
    unfold szF szS bk
    cases lv σ i <;> simp [pcn_0]
  unfold lgS rk
  rw [e2]
  refine rnk_cong (fun j hj => e1 j (by omega)) (fun i _ => cnt_cong (fun j hj => by rw [e1 j (by omega)]))
theorem go_bit {g : GG} {ad : AD} {C : CC} {σ : Sg} {ρ : Rm} (w : CW g ad σ ρ C) (hI : Inv σ) (t : Nat) : ∀ i, i < σ.nfl → (fwS ρ.fn (fun k => nI (σ.ni k)) (bitsI (fun j => anc σ.pr 29 j t) σ.nf) σ.nn &&& (fwS ρ.fn (fun k => nI (σ.ni k)) (bitsI (fun j => anc σ.pr 29 j t) σ.nf ^^^ (-1)) σ.nn ^^^ (-1))).toBitVec.getLsbD i = goT σ t i := by
  intro i hi
  obtain ⟨f0, f1, f2, f3, f4, f5, f6, f7, f8, f9, f10, f11, f12, f13, f14, f15, f16, f17, f18, f19, hal, hfn, fp, fq, ffr⟩ := id w
  obtain ⟨hf1, hf2, hfl, hnn, hnm, hno, hc1, hc2⟩ := id hI.le
  rw [Int64.toBitVec_and, BitVec.getLsbD_and, not_bit _ (by omega)]
  rw [fw_bit hI hfn (p := fun j => anc σ.pr 29 j t) (fun j hj => by rw [bitsI_bit (by omega)]; simp [hj]) i]
  rw [fw_bit hI hfn (p := fun j => !anc σ.pr 29 j t) (fun j hj => by rw [not_bit32 _ (by omega), bitsI_bit (by omega)]; simp [hj]) i]
  rfl
theorem both_bit {n i j : Nat} (hi : i < 64) (hj : j < 64) : ∀ f, f < n → ((1 <<< ((nI i).toInt64 &&& 63)) ||| (1 <<< ((nI j).toInt64 &&& 63)) : Int64).toBitVec.getLsbD f = (f == i || f == j) := by
  intro f _
  show (b1 (nI i) ||| b1 (nI j)).toBitVec.getLsbD f = _
  rw [Int64.toBitVec_or, BitVec.getLsbD_or, b1_bit hi, b1_bit hj]
  by_cases h1 : f = i <;> by_cases h2 : f = j <;> simp [h1, h2]
def frV (σ : Sg) (gs : Nat → Bool) : Int64 := orr (gon σ gs) σ.nfl &&& ((shS σ (-1) ||| orr (kep σ gs) σ.nfl) ^^^ (-1))
section CR
variable {l : Launch} {g : GG} {ad : AD} {C : CC} {σ : Sg} {ρ : Rm}
theorem k_X7_canTakeFile (w : CW g ad σ ρ C) (hI : Inv σ) : Cr l g yX7_canTakeFile cX7_canTakeFile 1 (some .boolean) 2 [.ref (ad 0)] ad C (.int (bI (decide (σ.nfl < 40) && decide (σ.nn < 100)))) := by
  obtain ⟨f0, f1, f2, f3, f4, f5, f6, f7, f8, f9, f10, f11, f12, f13, f14, f15, f16, f17, f18, f19, hal, hfn, fp, fq, ffr⟩ := id w
  obtain ⟨hf1, hf2, hfl, hnn, hnm, hno, hc1, hc2⟩ := id hI.le
  refine Ct_of [some (.ref (ad 0))] (by decide) rfl rfl (Nat.le_of_ble_eq_true rfl) rfl rfl (fun X hX h => ?_)
  subst hX
  refine j_aload0 (pc := 0) h dX7_canTakeFile_0 ?_
  refine j_getf (pc := 1) h dX7_canTakeFile_1 (f0) fl_X7_19 rfl ?_
  refine j_callVr (pc := 4) h dX7_canTakeFile_4 (k_X0_hasRoom f5 hfl) mv_X7_249 (f5) rfl rfl (by decide) (Nat.le_of_ble_eq_true rfl) (Nat.le_of_ble_eq_true rfl) (Nat.le_of_ble_eq_true rfl) ?_
  refine j_if_eqB (pc := 7) (tgt := 24) h dX7_canTakeFile_7 (by decide) (fun c7 => ?_) (fun c7 => ?_)
  · refine j_iconst (pc := 24) h dX7_canTakeFile_24 ic_0 ?_
    refine j_zretr (pc := 25) h dX7_canTakeFile_25 (by decide) (bI_f (by rw [c7]; rfl))
  · refine j_aload0 (pc := 10) h dX7_canTakeFile_10 ?_
    refine j_getf (pc := 11) h dX7_canTakeFile_11 (f0) fl_X7_26 rfl ?_
    refine j_callVr (pc := 14) h dX7_canTakeFile_14 (k_X3_hasRoom f7 hnn) mv_X7_252 (f7) rfl rfl (by decide) (Nat.le_of_ble_eq_true rfl) (Nat.le_of_ble_eq_true rfl) (Nat.le_of_ble_eq_true rfl) ?_
    refine j_if_eqB (pc := 17) (tgt := 24) h dX7_canTakeFile_17 (by decide) (fun c17 => ?_) (fun c17 => ?_)
    · refine j_iconst (pc := 24) h dX7_canTakeFile_24 ic_0 ?_
      refine j_zretr (pc := 25) h dX7_canTakeFile_25 (by decide) (bI_f (by rw [c17]; simp))
    · refine j_iconst (pc := 20) h dX7_canTakeFile_20 ic_1 ?_
      refine j_goto (pc := 21) (tgt := 25) h dX7_canTakeFile_21 (by decide) ?_
      refine j_zretr (pc := 25) h dX7_canTakeFile_25 (by decide) (bI_t (by rw [c7, c17]; rfl))
theorem k_X7_filesOfTree {t : Nat} (w : CW g ad σ ρ C) (hI : Inv σ) (ht : t < σ.nf) : Cr l g yX7_filesOfTree cX7_filesOfTree 2 (some .long) 4 [.ref (ad 0), .int (nI t)] ad C (.long (ftS σ ρ t)) := by
  obtain ⟨f0, f1, f2, f3, f4, f5, f6, f7, f8, f9, f10, f11, f12, f13, f14, f15, f16, f17, f18, f19, hal, hfn, fp, fq, ffr⟩ := id w
  obtain ⟨hf1, hf2, hfl, hnn, hnm, hno, hc1, hc2⟩ := id hI.le
  refine Ct_of [some (.ref (ad 0)), some (.int (nI t))] (by decide) rfl rfl (Nat.le_of_ble_eq_true rfl) rfl rfl (fun X hX h => ?_)
  subst hX
  refine j_aload0 (pc := 0) h dX7_filesOfTree_0 ?_
  refine j_getf (pc := 1) h dX7_filesOfTree_1 (f0) fl_X7_26 rfl ?_
  refine j_aload0 (pc := 4) h dX7_filesOfTree_4 ?_
  refine j_getf (pc := 5) h dX7_filesOfTree_5 (f0) fl_X7_12 rfl ?_
  refine j_iload1 (pc := 8) h dX7_filesOfTree_8 ?_
  refine j_callVr (pc := 9) h dX7_filesOfTree_9 (k_X1_treeOf f1 f2 hf2 hI.ok ht) mv_X7_191 (f1) rfl rfl (by decide) (Nat.le_of_ble_eq_true rfl) (Nat.le_of_ble_eq_true rfl) (Nat.le_of_ble_eq_true rfl) ?_
  refine j_callVr (pc := 12) h dX7_filesOfTree_12 (k_X3_filesWithin f7 f8 f9 hnn) mv_X7_194 (f7) rfl rfl (by decide) (Nat.le_of_ble_eq_true rfl) (Nat.le_of_ble_eq_true rfl) (Nat.le_of_ble_eq_true rfl) ?_
  refine j_lretr (pc := 15) h dX7_filesOfTree_15 (rfl)
theorem k_X7_takenBy {t : Nat} (w : CW g ad σ ρ C) (hI : Inv σ) (ht : t < σ.nf) : Cr l g yX7_takenBy cX7_takenBy 2 (some .int) 5 [.ref (ad 0), .int (nI t)] ad C (.int (nI (tkS σ t))) := by
  obtain ⟨f0, f1, f2, f3, f4, f5, f6, f7, f8, f9, f10, f11, f12, f13, f14, f15, f16, f17, f18, f19, hal, hfn, fp, fq, ffr⟩ := id w
  obtain ⟨hf1, hf2, hfl, hnn, hnm, hno, hc1, hc2⟩ := id hI.le
  refine Ct_of [some (.ref (ad 0)), some (.int (nI t))] (by decide) rfl rfl (Nat.le_of_ble_eq_true rfl) rfl rfl (fun X hX h => ?_)
  subst hX
  refine j_aload0 (pc := 0) h dX7_takenBy_0 ?_
  refine j_getf (pc := 1) h dX7_takenBy_1 (f0) fl_X7_19 rfl ?_
  refine j_aload0 (pc := 4) h dX7_takenBy_4 ?_
  refine j_iload1 (pc := 5) h dX7_takenBy_5 ?_
  refine j_callVr (pc := 6) h dX7_takenBy_6 (k_X7_filesOfTree w hI ht) mv_X7_152 (f0) rfl rfl (by decide) (Nat.le_of_ble_eq_true rfl) (Nat.le_of_ble_eq_true rfl) (Nat.le_of_ble_eq_true rfl) ?_
  refine j_callVr (pc := 9) h dX7_takenBy_9 (k_X0_hadBy f5 f6 fp hfl hal) mv_X7_156 (f5) rfl rfl (by decide) (Nat.le_of_ble_eq_true rfl) (Nat.le_of_ble_eq_true rfl) (Nat.le_of_ble_eq_true rfl) ?_
  refine j_callSr (pc := 12) h dX7_takenBy_12 (k_J13_bitCount_95d88) ms_X7_125 rfl rfl (by decide) (Nat.le_of_ble_eq_true rfl) (Nat.le_of_ble_eq_true rfl) (Nat.le_of_ble_eq_true rfl) ?_
  refine j_iretr (pc := 15) h dX7_takenBy_15 (by rw [hb_gon hI (gs := fun i => isn σ i t) (fun i _ => ft_bit w hI t i)]; rfl)
theorem k_X7_blocksHad (w : CW g ad σ ρ C) (hI : Inv σ) : Cr l g yX7_blocksHad cX7_blocksHad 1 (some .long) 4 [.ref (ad 0)] ad C (.long (had σ)) := by
  obtain ⟨f0, f1, f2, f3, f4, f5, f6, f7, f8, f9, f10, f11, f12, f13, f14, f15, f16, f17, f18, f19, hal, hfn, fp, fq, ffr⟩ := id w
  obtain ⟨hf1, hf2, hfl, hnn, hnm, hno, hc1, hc2⟩ := id hI.le
  refine Ct_of [some (.ref (ad 0))] (by decide) rfl rfl (Nat.le_of_ble_eq_true rfl) rfl rfl (fun X hX h => ?_)
  subst hX
  refine j_aload0 (pc := 0) h dX7_blocksHad_0 ?_
  refine j_getf (pc := 1) h dX7_blocksHad_1 (f0) fl_X7_19 rfl ?_
  refine j_ldc2 (pc := 4) h dX7_blocksHad_4 kc_X7_131 ?_
  refine j_callVr (pc := 7) h dX7_blocksHad_7 (k_X0_hadBy f5 f6 fp hfl hal) mv_X7_156 (f5) rfl rfl (by decide) (Nat.le_of_ble_eq_true rfl) (Nat.le_of_ble_eq_true rfl) (Nat.le_of_ble_eq_true rfl) ?_
  refine j_aload0 (pc := 10) h dX7_blocksHad_10 ?_
  refine j_getf (pc := 11) h dX7_blocksHad_11 (f0) fl_X7_33 rfl ?_
  refine j_iconst (pc := 14) h dX7_blocksHad_14 ic_m1 ?_
  refine j_callVr (pc := 15) h dX7_blocksHad_15 (k_X5_heldBesides f10 f11 f12) mv_X7_253 (f10) rfl rfl (by decide) (Nat.le_of_ble_eq_true rfl) (Nat.le_of_ble_eq_true rfl) (Nat.le_of_ble_eq_true rfl) ?_
  refine j_lor (pc := 18) h dX7_blocksHad_18 ?_
  refine j_lretr (pc := 19) h dX7_blocksHad_19 (by rw [hb_all hI]; rfl)
theorem k_X7_blocksFreedBy {s : Int64} {gs : Nat → Bool} (w : CW g ad σ ρ C) (hI : Inv σ) (hg : ∀ i, i < σ.nfl → s.toBitVec.getLsbD i = gs i) : Cr l g yX7_blocksFreedBy cX7_blocksFreedBy 3 (some .long) 4 [.ref (ad 0), .long s] ad C (.long (frV σ gs)) := by
  obtain ⟨f0, f1, f2, f3, f4, f5, f6, f7, f8, f9, f10, f11, f12, f13, f14, f15, f16, f17, f18, f19, hal, hfn, fp, fq, ffr⟩ := id w
  obtain ⟨hf1, hf2, hfl, hnn, hnm, hno, hc1, hc2⟩ := id hI.le
  refine Ct_of [some (.ref (ad 0)), some (.long s), none] (by decide) rfl rfl (Nat.le_of_ble_eq_true rfl) rfl rfl (fun X hX h => ?_)
  subst hX
  refine j_aload0 (pc := 0) h dX7_blocksFreedBy_0 ?_
  refine j_getf (pc := 1) h dX7_blocksFreedBy_1 (f0) fl_X7_19 rfl ?_
  refine j_lload1 (pc := 4) h dX7_blocksFreedBy_4 ?_
  refine j_callVr (pc := 5) h dX7_blocksFreedBy_5 (k_X0_hadBy f5 f6 fp hfl hal) mv_X7_156 (f5) rfl rfl (by decide) (Nat.le_of_ble_eq_true rfl) (Nat.le_of_ble_eq_true rfl) (Nat.le_of_ble_eq_true rfl) ?_
  refine j_aload0 (pc := 8) h dX7_blocksFreedBy_8 ?_
  refine j_getf (pc := 9) h dX7_blocksFreedBy_9 (f0) fl_X7_19 rfl ?_
  refine j_lload1 (pc := 12) h dX7_blocksFreedBy_12 ?_
  refine j_ldc2 (pc := 13) h dX7_blocksFreedBy_13 kc_X7_131 ?_
  refine j_lxor (pc := 16) h dX7_blocksFreedBy_16 ?_
  refine j_callVr (pc := 17) h dX7_blocksFreedBy_17 (k_X0_hadBy f5 f6 fp hfl hal) mv_X7_156 (f5) rfl rfl (by decide) (Nat.le_of_ble_eq_true rfl) (Nat.le_of_ble_eq_true rfl) (Nat.le_of_ble_eq_true rfl) ?_
  refine j_ldc2 (pc := 20) h dX7_blocksFreedBy_20 kc_X7_131 ?_
  refine j_lxor (pc := 23) h dX7_blocksFreedBy_23 ?_
  refine j_land (pc := 24) h dX7_blocksFreedBy_24 ?_
  refine j_aload0 (pc := 25) h dX7_blocksFreedBy_25 ?_
  refine j_getf (pc := 26) h dX7_blocksFreedBy_26 (f0) fl_X7_33 rfl ?_
  refine j_iconst (pc := 29) h dX7_blocksFreedBy_29 ic_m1 ?_
  refine j_callVr (pc := 30) h dX7_blocksFreedBy_30 (k_X5_heldBesides f10 f11 f12) mv_X7_253 (f10) rfl rfl (by decide) (Nat.le_of_ble_eq_true rfl) (Nat.le_of_ble_eq_true rfl) (Nat.le_of_ble_eq_true rfl) ?_
  refine j_ldc2 (pc := 33) h dX7_blocksFreedBy_33 kc_X7_131 ?_
  refine j_lxor (pc := 36) h dX7_blocksFreedBy_36 ?_
  refine j_land (pc := 37) h dX7_blocksFreedBy_37 ?_
  refine j_lretr (pc := 38) h dX7_blocksFreedBy_38 (by rw [hb_gon hI hg, hb_kep hI hg]; exact and3 _ _ _)
theorem k_X7_heldAlone_no {x : Int32} (w : CW g ad σ ρ C) (hI : Inv σ) (hx : inN x 8 = false ∨ ∃ s, s < 8 ∧ x = nI s ∧ σ.sb s = false) : Cr l g yX7_heldAlone cX7_heldAlone 4 (some .int) 5 [.ref (ad 0), .int x] ad C (.int (-1)) := by
  obtain ⟨f0, f1, f2, f3, f4, f5, f6, f7, f8, f9, f10, f11, f12, f13, f14, f15, f16, f17, f18, f19, hal, hfn, fp, fq, ffr⟩ := id w
  obtain ⟨hf1, hf2, hfl, hnn, hnm, hno, hc1, hc2⟩ := id hI.le
  refine Ct_of [some (.ref (ad 0)), some (.int x), none, none] (by decide) rfl rfl (Nat.le_of_ble_eq_true rfl) rfl rfl (fun X hX h => ?_)
  subst hX
  rcases hx with hx | ⟨s, hs, rfl, hx⟩
  · refine j_aload0 (pc := 0) h dX7_heldAlone_0 ?_
    refine j_getf (pc := 1) h dX7_heldAlone_1 (f0) fl_X7_33 rfl ?_
    refine j_iload1 (pc := 4) h dX7_heldAlone_4 ?_
    refine j_callVr (pc := 5) h dX7_heldAlone_5 (k_X5_has_no f10 hx) mv_X7_256 (f10) rfl rfl (by decide) (Nat.le_of_ble_eq_true rfl) (Nat.le_of_ble_eq_true rfl) (Nat.le_of_ble_eq_true rfl) ?_
    refine j_if_neB (pc := 8) (tgt := 13) h dX7_heldAlone_8 (by decide) (fun c8 => absurd c8 (by decide)) (fun c8 => ?_)
    refine j_iconst (pc := 11) h dX7_heldAlone_11 ic_m1 ?_
    refine j_iretr (pc := 12) h dX7_heldAlone_12 (rfl)
  · refine j_aload0 (pc := 0) h dX7_heldAlone_0 ?_
    refine j_getf (pc := 1) h dX7_heldAlone_1 (f0) fl_X7_33 rfl ?_
    refine j_iload1 (pc := 4) h dX7_heldAlone_4 ?_
    refine j_callVr (pc := 5) h dX7_heldAlone_5 (k_X5_has f10 f11 hs) mv_X7_256 (f10) rfl rfl (by decide) (Nat.le_of_ble_eq_true rfl) (Nat.le_of_ble_eq_true rfl) (Nat.le_of_ble_eq_true rfl) ?_
    refine j_if_neB (pc := 8) (tgt := 13) h dX7_heldAlone_8 (by decide) (fun c8 => absurd c8 (by rw [hx]; decide)) (fun c8 => ?_)
    refine j_iconst (pc := 11) h dX7_heldAlone_11 ic_m1 ?_
    refine j_iretr (pc := 12) h dX7_heldAlone_12 (rfl)
theorem k_X7_heldAlone {s : Nat} (w : CW g ad σ ρ C) (hI : Inv σ) (hs : s < 8) (hx : σ.sb s = true) : Cr l g yX7_heldAlone cX7_heldAlone 4 (some .int) 5 [.ref (ad 0), .int (nI s)] ad C (.int (nI (alS σ s))) := by
  obtain ⟨f0, f1, f2, f3, f4, f5, f6, f7, f8, f9, f10, f11, f12, f13, f14, f15, f16, f17, f18, f19, hal, hfn, fp, fq, ffr⟩ := id w
  obtain ⟨hf1, hf2, hfl, hnn, hnm, hno, hc1, hc2⟩ := id hI.le
  refine Ct_of [some (.ref (ad 0)), some (.int (nI s)), none, none] (by decide) rfl rfl (Nat.le_of_ble_eq_true rfl) rfl rfl (fun X hX h => ?_)
  subst hX
  refine j_aload0 (pc := 0) h dX7_heldAlone_0 ?_
  refine j_getf (pc := 1) h dX7_heldAlone_1 (f0) fl_X7_33 rfl ?_
  refine j_iload1 (pc := 4) h dX7_heldAlone_4 ?_
  refine j_callVr (pc := 5) h dX7_heldAlone_5 (k_X5_has f10 f11 hs) mv_X7_256 (f10) rfl rfl (by decide) (Nat.le_of_ble_eq_true rfl) (Nat.le_of_ble_eq_true rfl) (Nat.le_of_ble_eq_true rfl) ?_
  refine j_if_neB (pc := 8) (tgt := 13) h dX7_heldAlone_8 (by decide) (fun c8 => ?_) (fun c8 => absurd c8 (by rw [hx]; decide))
  refine j_aload0 (pc := 13) h dX7_heldAlone_13 ?_
  refine j_getf (pc := 14) h dX7_heldAlone_14 (f0) fl_X7_19 rfl ?_
  refine j_ldc2 (pc := 17) h dX7_heldAlone_17 kc_X7_131 ?_
  refine j_callVr (pc := 20) h dX7_heldAlone_20 (k_X0_hadBy f5 f6 fp hfl hal) mv_X7_156 (f5) rfl rfl (by decide) (Nat.le_of_ble_eq_true rfl) (Nat.le_of_ble_eq_true rfl) (Nat.le_of_ble_eq_true rfl) ?_
  refine j_aload0 (pc := 23) h dX7_heldAlone_23 ?_
  refine j_getf (pc := 24) h dX7_heldAlone_24 (f0) fl_X7_33 rfl ?_
  refine j_iload1 (pc := 27) h dX7_heldAlone_27 ?_
  refine j_callVr (pc := 28) h dX7_heldAlone_28 (k_X5_heldBesides f10 f11 f12) mv_X7_253 (f10) rfl rfl (by decide) (Nat.le_of_ble_eq_true rfl) (Nat.le_of_ble_eq_true rfl) (Nat.le_of_ble_eq_true rfl) ?_
  refine j_lor (pc := 31) h dX7_heldAlone_31 ?_
  refine j_lstore2 (pc := 32) h dX7_heldAlone_32 rfl ?_
  refine j_aload0 (pc := 33) h dX7_heldAlone_33 ?_
  refine j_getf (pc := 34) h dX7_heldAlone_34 (f0) fl_X7_33 rfl ?_
  refine j_iload1 (pc := 37) h dX7_heldAlone_37 ?_
  refine j_callVr (pc := 38) h dX7_heldAlone_38 (k_X5_heldBy f10 f11 f12 hs) mv_X7_257 (f10) rfl rfl (by decide) (Nat.le_of_ble_eq_true rfl) (Nat.le_of_ble_eq_true rfl) (Nat.le_of_ble_eq_true rfl) ?_
  refine j_lload2 (pc := 41) h dX7_heldAlone_41 ?_
  refine j_ldc2 (pc := 42) h dX7_heldAlone_42 kc_X7_131 ?_
  refine j_lxor (pc := 45) h dX7_heldAlone_45 ?_
  refine j_land (pc := 46) h dX7_heldAlone_46 ?_
  refine j_callSr (pc := 47) h dX7_heldAlone_47 (k_J13_bitCount_95d88) ms_X7_125 rfl rfl (by decide) (Nat.le_of_ble_eq_true rfl) (Nat.le_of_ble_eq_true rfl) (Nat.le_of_ble_eq_true rfl) ?_
  refine j_iretr (pc := 50) h dX7_heldAlone_50 (by rw [hb_all hI, if_pos hx]; rfl)
theorem k_X7_dayFullBy {r : Int32} (w : CW g ad σ ρ C) (hI : Inv σ) : Cr l g yX7_dayFullBy cX7_dayFullBy 3 (some .int) 6 [.ref (ad 0), .int r] ad C (.int (fulS σ r)) := by
  obtain ⟨f0, f1, f2, f3, f4, f5, f6, f7, f8, f9, f10, f11, f12, f13, f14, f15, f16, f17, f18, f19, hal, hfn, fp, fq, ffr⟩ := id w
  obtain ⟨hf1, hf2, hfl, hnn, hnm, hno, hc1, hc2⟩ := id hI.le
  refine Ct_of [some (.ref (ad 0)), some (.int r), none] (by decide) rfl rfl (Nat.le_of_ble_eq_true rfl) rfl rfl (fun X hX h => ?_)
  subst hX
  refine j_iload1 (pc := 0) h dX7_dayFullBy_0 ?_
  refine j_if_gt (pc := 1) (tgt := 6) h dX7_dayFullBy_1 (by decide) (fun c1 => ?_) (fun c1 => ?_)
  · refine j_aload0 (pc := 6) h dX7_dayFullBy_6 ?_
    refine j_getf (pc := 7) h dX7_dayFullBy_7 (f0) fl_X7_55 rfl ?_
    refine j_aload0 (pc := 10) h dX7_dayFullBy_10 ?_
    refine j_iconst (pc := 11) h dX7_dayFullBy_11 ic_0 ?_
    refine j_callVr (pc := 12) h dX7_dayFullBy_12 (k_X7_takenBy w hI (by omega)) mv_X7_180 (f0) rfl rfl (by decide) (Nat.le_of_ble_eq_true rfl) (Nat.le_of_ble_eq_true rfl) (Nat.le_of_ble_eq_true rfl) ?_
    refine j_isub (pc := 15) h dX7_dayFullBy_15 ?_
    refine j_istore2 (pc := 16) h dX7_dayFullBy_16 rfl ?_
    refine j_aload0 (pc := 17) h dX7_dayFullBy_17 ?_
    refine j_getf (pc := 18) h dX7_dayFullBy_18 (f0) fl_X7_51 rfl ?_
    refine j_iload2 (pc := 21) h dX7_dayFullBy_21 ?_
    refine j_iload1 (pc := 22) h dX7_dayFullBy_22 ?_
    refine j_iadd (pc := 23) h dX7_dayFullBy_23 ?_
    refine j_iconst (pc := 24) h dX7_dayFullBy_24 ic_1 ?_
    refine j_isub (pc := 25) h dX7_dayFullBy_25 ?_
    refine j_iload1 (pc := 26) h dX7_dayFullBy_26 ?_
    refine j_idiv (pc := 27) h dX7_dayFullBy_27 (fun q => by subst q; exact absurd c1 (by decide)) ?_
    refine j_iadd (pc := 28) h dX7_dayFullBy_28 ?_
    refine j_iretr (pc := 29) h dX7_dayFullBy_29 (by rw [fulS, if_neg (fun q => by have h1 := Int32.lt_iff_toInt_lt.mp c1; have h2 := Int32.le_iff_toInt_le.mp q; omega)])
  · refine j_iconst (pc := 4) h dX7_dayFullBy_4 ic_m1 ?_
    refine j_iretr (pc := 5) h dX7_dayFullBy_5 (by rw [fulS, if_pos (by rw [Int32.le_iff_toInt_le]; have h1 := mt Int32.lt_iff_toInt_lt.mpr c1; omega)])
-- reads that the outside calls
theorem k_X7_of_no {x : Int32} (w : CW g ad σ ρ C) (hI : Inv σ) (hx : inN x σ.nn = false) : Cr l g yX7_of cX7_of 2 (some .int) 2 [.ref (ad 0), .int x] ad C (.int (-1)) := by
  obtain ⟨f0, f1, f2, f3, f4, f5, f6, f7, f8, f9, f10, f11, f12, f13, f14, f15, f16, f17, f18, f19, hal, hfn, fp, fq, ffr⟩ := id w
  obtain ⟨hf1, hf2, hfl, hnn, hnm, hno, hc1, hc2⟩ := id hI.le
  refine Ct_of [some (.ref (ad 0)), some (.int x)] (by decide) rfl rfl (Nat.le_of_ble_eq_true rfl) rfl rfl (fun X hX h => ?_)
  subst hX
  refine j_aload0 (pc := 0) h dX7_of_0 ?_
  refine j_getf (pc := 1) h dX7_of_1 (f0) fl_X7_26 rfl ?_
  refine j_iload1 (pc := 4) h dX7_of_4 ?_
  refine j_callVr (pc := 5) h dX7_of_5 (k_X3_fileOf_no f7 hnn hx) mv_X7_97 (f7) rfl rfl (by decide) (Nat.le_of_ble_eq_true rfl) (Nat.le_of_ble_eq_true rfl) (Nat.le_of_ble_eq_true rfl) ?_
  refine j_iretr (pc := 8) h dX7_of_8 (rfl)
theorem k_X7_of {k : Nat} (w : CW g ad σ ρ C) (hI : Inv σ) (hk : k < σ.nn) : Cr l g yX7_of cX7_of 2 (some .int) 2 [.ref (ad 0), .int (nI k)] ad C (.int (if σ.tb k = true then nI (σ.fl k) else -1)) := by
  obtain ⟨f0, f1, f2, f3, f4, f5, f6, f7, f8, f9, f10, f11, f12, f13, f14, f15, f16, f17, f18, f19, hal, hfn, fp, fq, ffr⟩ := id w
  obtain ⟨hf1, hf2, hfl, hnn, hnm, hno, hc1, hc2⟩ := id hI.le
  refine Ct_of [some (.ref (ad 0)), some (.int (nI k))] (by decide) rfl rfl (Nat.le_of_ble_eq_true rfl) rfl rfl (fun X hX h => ?_)
  subst hX
  refine j_aload0 (pc := 0) h dX7_of_0 ?_
  refine j_getf (pc := 1) h dX7_of_1 (f0) fl_X7_26 rfl ?_
  refine j_iload1 (pc := 4) h dX7_of_4 ?_
  refine j_callVr (pc := 5) h dX7_of_5 (k_X3_fileOf f7 f8 hnn hk) mv_X7_97 (f7) rfl rfl (by decide) (Nat.le_of_ble_eq_true rfl) (Nat.le_of_ble_eq_true rfl) (Nat.le_of_ble_eq_true rfl) ?_
  refine j_iretr (pc := 8) h dX7_of_8 (hfn k hk)
theorem k_X7_block_no {x y : Int32} (w : CW g ad σ ρ C) (hI : Inv σ) (hx : inN x σ.nfl = false) : Cr l g yX7_block cX7_block 4 (some .int) 2 [.ref (ad 0), .int x, .int y] ad C (.int (-1)) := by
  obtain ⟨f0, f1, f2, f3, f4, f5, f6, f7, f8, f9, f10, f11, f12, f13, f14, f15, f16, f17, f18, f19, hal, hfn, fp, fq, ffr⟩ := id w
  obtain ⟨hf1, hf2, hfl, hnn, hnm, hno, hc1, hc2⟩ := id hI.le
  refine Ct_of [some (.ref (ad 0)), some (.int x), some (.int y), none] (by decide) rfl rfl (Nat.le_of_ble_eq_true rfl) rfl rfl (fun X hX h => ?_)
  subst hX
  refine j_aload0 (pc := 0) h dX7_block_0 ?_
  refine j_getf (pc := 1) h dX7_block_1 (f0) fl_X7_19 rfl ?_
  refine j_iload1 (pc := 4) h dX7_block_4 ?_
  refine j_callVr (pc := 5) h dX7_block_5 (k_X0_find_no f5 hfl hx) mv_X7_101 (f5) rfl rfl (by decide) (Nat.le_of_ble_eq_true rfl) (Nat.le_of_ble_eq_true rfl) (Nat.le_of_ble_eq_true rfl) ?_
  refine j_astore3N (pc := 8) h dX7_block_8 rfl ?_
  refine j_aload3N (pc := 9) h dX7_block_9 ?_
  refine j_ifnonnullN (pc := 10) h dX7_block_10 ?_
  refine j_iconst (pc := 13) h dX7_block_13 ic_m1 ?_
  refine j_goto (pc := 14) (tgt := 22) h dX7_block_14 (by decide) ?_
  refine j_iretr (pc := 22) h dX7_block_22 (rfl)
theorem k_X7_block_n {i : Nat} {y : Int32} (w : CW g ad σ ρ C) (hI : Inv σ) (hi : i < σ.nfl) (hx : (lv σ i && inN y (σ.ln i)) = false) : Cr l g yX7_block cX7_block 4 (some .int) 2 [.ref (ad 0), .int (nI i), .int y] ad C (.int (-1)) := by
  obtain ⟨f0, f1, f2, f3, f4, f5, f6, f7, f8, f9, f10, f11, f12, f13, f14, f15, f16, f17, f18, f19, hal, hfn, fp, fq, ffr⟩ := id w
  obtain ⟨hf1, hf2, hfl, hnn, hnm, hno, hc1, hc2⟩ := id hI.le
  have hln := (hI.fil i hi).1
  refine Ct_of [some (.ref (ad 0)), some (.int (nI i)), some (.int y), none] (by decide) rfl rfl (Nat.le_of_ble_eq_true rfl) rfl rfl (fun X hX h => ?_)
  subst hX
  cases hl : lv σ i with
  | false => 
    refine j_aload0 (pc := 0) h dX7_block_0 ?_
    refine j_getf (pc := 1) h dX7_block_1 (f0) fl_X7_19 rfl ?_
    refine j_iload1 (pc := 4) h dX7_block_4 ?_
    refine j_callVr (pc := 5) h dX7_block_5 (k_X0_find_n f5 f6 hfl hi hal hl) mv_X7_101 (f5) rfl rfl (by decide) (Nat.le_of_ble_eq_true rfl) (Nat.le_of_ble_eq_true rfl) (Nat.le_of_ble_eq_true rfl) ?_
    refine j_astore3N (pc := 8) h dX7_block_8 rfl ?_
    refine j_aload3N (pc := 9) h dX7_block_9 ?_
    refine j_ifnonnullN (pc := 10) h dX7_block_10 ?_
    refine j_iconst (pc := 13) h dX7_block_13 ic_m1 ?_
    refine j_goto (pc := 14) (tgt := 22) h dX7_block_14 (by decide) ?_
    refine j_iretr (pc := 22) h dX7_block_22 (rfl)
  | true =>
    rw [hl] at hx
    refine j_aload0 (pc := 0) h dX7_block_0 ?_
    refine j_getf (pc := 1) h dX7_block_1 (f0) fl_X7_19 rfl ?_
    refine j_iload1 (pc := 4) h dX7_block_4 ?_
    refine j_callVr (pc := 5) h dX7_block_5 (k_X0_find f5 f6 hfl hi hal hl) mv_X7_101 (f5) rfl rfl (by decide) (Nat.le_of_ble_eq_true rfl) (Nat.le_of_ble_eq_true rfl) (Nat.le_of_ble_eq_true rfl) ?_
    refine j_astore3 (pc := 8) h dX7_block_8 rfl ?_
    refine j_aload3 (pc := 9) h dX7_block_9 ?_
    refine j_ifnonnull (pc := 10) (tgt := 17) h dX7_block_10 (by decide) ?_
    refine j_aload3 (pc := 17) h dX7_block_17 ?_
    refine j_iload2 (pc := 18) h dX7_block_18 ?_
    refine j_callVr (pc := 19) h dX7_block_19 (k_X6_blockAt_no (fp i hi) hln (by simpa using hx)) mv_X7_140 (fp i hi) rfl rfl (by decide) (Nat.le_of_ble_eq_true rfl) (Nat.le_of_ble_eq_true rfl) (Nat.le_of_ble_eq_true rfl) ?_
    refine j_iretr (pc := 22) h dX7_block_22 (rfl)
theorem k_X7_block {i p : Nat} (w : CW g ad σ ρ C) (hI : Inv σ) (hi : i < σ.nfl) (hl : lv σ i = true) (hp : p < σ.ln i) : Cr l g yX7_block cX7_block 4 (some .int) 2 [.ref (ad 0), .int (nI i), .int (nI p)] ad C (.int (rI (σ.rb (60 * i + p)))) := by
  obtain ⟨f0, f1, f2, f3, f4, f5, f6, f7, f8, f9, f10, f11, f12, f13, f14, f15, f16, f17, f18, f19, hal, hfn, fp, fq, ffr⟩ := id w
  obtain ⟨hf1, hf2, hfl, hnn, hnm, hno, hc1, hc2⟩ := id hI.le
  have hln := (hI.fil i hi).1
  obtain ⟨pl, hpl, hpp⟩ := fq i hi
  refine Ct_of [some (.ref (ad 0)), some (.int (nI i)), some (.int (nI p)), none] (by decide) rfl rfl (Nat.le_of_ble_eq_true rfl) rfl rfl (fun X hX h => ?_)
  subst hX
  refine j_aload0 (pc := 0) h dX7_block_0 ?_
  refine j_getf (pc := 1) h dX7_block_1 (f0) fl_X7_19 rfl ?_
  refine j_iload1 (pc := 4) h dX7_block_4 ?_
  refine j_callVr (pc := 5) h dX7_block_5 (k_X0_find f5 f6 hfl hi hal hl) mv_X7_101 (f5) rfl rfl (by decide) (Nat.le_of_ble_eq_true rfl) (Nat.le_of_ble_eq_true rfl) (Nat.le_of_ble_eq_true rfl) ?_
  refine j_astore3 (pc := 8) h dX7_block_8 rfl ?_
  refine j_aload3 (pc := 9) h dX7_block_9 ?_
  refine j_ifnonnull (pc := 10) (tgt := 17) h dX7_block_10 (by decide) ?_
  refine j_aload3 (pc := 17) h dX7_block_17 ?_
  refine j_iload2 (pc := 18) h dX7_block_18 ?_
  refine j_callVr (pc := 19) h dX7_block_19 (k_X6_blockAt (fp i hi) hpl hln hp) mv_X7_140 (fp i hi) rfl rfl (by decide) (Nat.le_of_ble_eq_true rfl) (Nat.le_of_ble_eq_true rfl) (Nat.le_of_ble_eq_true rfl) ?_
  refine j_iretr (pc := 22) h dX7_block_22 (hpp p hp)
theorem k_X7_alone_no {x : Int32} (w : CW g ad σ ρ C) (hI : Inv σ) (hx : inN x 8 = false ∨ ∃ s, s < 8 ∧ x = nI s ∧ σ.sb s = false) : Cr l g yX7_alone cX7_alone 2 (some .int) 6 [.ref (ad 0), .int x] ad C (.int (-1)) := by
  obtain ⟨f0, f1, f2, f3, f4, f5, f6, f7, f8, f9, f10, f11, f12, f13, f14, f15, f16, f17, f18, f19, hal, hfn, fp, fq, ffr⟩ := id w
  obtain ⟨hf1, hf2, hfl, hnn, hnm, hno, hc1, hc2⟩ := id hI.le
  refine Ct_of [some (.ref (ad 0)), some (.int x)] (by decide) rfl rfl (Nat.le_of_ble_eq_true rfl) rfl rfl (fun X hX h => ?_)
  subst hX
  refine j_aload0 (pc := 0) h dX7_alone_0 ?_
  refine j_iload1 (pc := 1) h dX7_alone_1 ?_
  refine j_callVr (pc := 2) h dX7_alone_2 (k_X7_heldAlone_no w hI hx) mv_X7_171 (f0) rfl rfl (by decide) (Nat.le_of_ble_eq_true rfl) (Nat.le_of_ble_eq_true rfl) (Nat.le_of_ble_eq_true rfl) ?_
  refine j_iretr (pc := 5) h dX7_alone_5 (rfl)
theorem k_X7_alone {s : Nat} (w : CW g ad σ ρ C) (hI : Inv σ) (hs : s < 8) (hx : σ.sb s = true) : Cr l g yX7_alone cX7_alone 2 (some .int) 6 [.ref (ad 0), .int (nI s)] ad C (.int (nI (alS σ s))) := by
  obtain ⟨f0, f1, f2, f3, f4, f5, f6, f7, f8, f9, f10, f11, f12, f13, f14, f15, f16, f17, f18, f19, hal, hfn, fp, fq, ffr⟩ := id w
  obtain ⟨hf1, hf2, hfl, hnn, hnm, hno, hc1, hc2⟩ := id hI.le
  refine Ct_of [some (.ref (ad 0)), some (.int (nI s))] (by decide) rfl rfl (Nat.le_of_ble_eq_true rfl) rfl rfl (fun X hX h => ?_)
  subst hX
  refine j_aload0 (pc := 0) h dX7_alone_0 ?_
  refine j_iload1 (pc := 1) h dX7_alone_1 ?_
  refine j_callVr (pc := 2) h dX7_alone_2 (k_X7_heldAlone w hI hs hx) mv_X7_171 (f0) rfl rfl (by decide) (Nat.le_of_ble_eq_true rfl) (Nat.le_of_ble_eq_true rfl) (Nat.le_of_ble_eq_true rfl) ?_
  refine j_iretr (pc := 5) h dX7_alone_5 (rfl)
theorem k_X7_largest_nf {x y : Int32} (w : CW g ad σ ρ C) (hI : Inv σ) (hx : inN x σ.nf = false) : Cr l g yX7_largest cX7_largest 3 (some .int) 5 [.ref (ad 0), .int x, .int y] ad C (.int (-1)) := by
  obtain ⟨f0, f1, f2, f3, f4, f5, f6, f7, f8, f9, f10, f11, f12, f13, f14, f15, f16, f17, f18, f19, hal, hfn, fp, fq, ffr⟩ := id w
  obtain ⟨hf1, hf2, hfl, hnn, hnm, hno, hc1, hc2⟩ := id hI.le
  refine Ct_of [some (.ref (ad 0)), some (.int x), some (.int y)] (by decide) rfl rfl (Nat.le_of_ble_eq_true rfl) rfl rfl (fun X hX h => ?_)
  subst hX
  refine j_aload0 (pc := 0) h dX7_largest_0 ?_
  refine j_getf (pc := 1) h dX7_largest_1 (f0) fl_X7_12 rfl ?_
  refine j_iload1 (pc := 4) h dX7_largest_4 ?_
  refine j_callVr (pc := 5) h dX7_largest_5 (k_X1_has f1 hf2) mv_X7_64 (f1) rfl rfl (by decide) (Nat.le_of_ble_eq_true rfl) (Nat.le_of_ble_eq_true rfl) (Nat.le_of_ble_eq_true rfl) ?_
  refine j_if_neB (pc := 8) (tgt := 13) h dX7_largest_8 (by decide) (fun c8 => absurd c8 (by rw [hx]; decide)) (fun c8 => ?_)
  refine j_iconst (pc := 11) h dX7_largest_11 ic_m1 ?_
  refine j_iretr (pc := 12) h dX7_largest_12 (rfl)
theorem k_X7_largest {t : Nat} {y : Int32} (w : CW g ad σ ρ C) (hI : Inv σ) (ht : t < σ.nf) : Cr l g yX7_largest cX7_largest 3 (some .int) 5 [.ref (ad 0), .int (nI t), .int y] ad C (.int (lgS σ t y)) := by
  obtain ⟨f0, f1, f2, f3, f4, f5, f6, f7, f8, f9, f10, f11, f12, f13, f14, f15, f16, f17, f18, f19, hal, hfn, fp, fq, ffr⟩ := id w
  obtain ⟨hf1, hf2, hfl, hnn, hnm, hno, hc1, hc2⟩ := id hI.le
  refine Ct_of [some (.ref (ad 0)), some (.int (nI t)), some (.int y)] (by decide) rfl rfl (Nat.le_of_ble_eq_true rfl) rfl rfl (fun X hX h => ?_)
  subst hX
  refine j_aload0 (pc := 0) h dX7_largest_0 ?_
  refine j_getf (pc := 1) h dX7_largest_1 (f0) fl_X7_12 rfl ?_
  refine j_iload1 (pc := 4) h dX7_largest_4 ?_
  refine j_callVr (pc := 5) h dX7_largest_5 (k_X1_has f1 hf2) mv_X7_64 (f1) rfl rfl (by decide) (Nat.le_of_ble_eq_true rfl) (Nat.le_of_ble_eq_true rfl) (Nat.le_of_ble_eq_true rfl) ?_
  refine j_if_neB (pc := 8) (tgt := 13) h dX7_largest_8 (by decide) (fun c8 => ?_) (fun c8 => absurd c8 (by rw [inN_nI (by omega)]; simp; omega))
  refine j_aload0 (pc := 13) h dX7_largest_13 ?_
  refine j_getf (pc := 14) h dX7_largest_14 (f0) fl_X7_19 rfl ?_
  refine j_aload0 (pc := 17) h dX7_largest_17 ?_
  refine j_iload1 (pc := 18) h dX7_largest_18 ?_
  refine j_callVr (pc := 19) h dX7_largest_19 (k_X7_filesOfTree w hI ht) mv_X7_152 (f0) rfl rfl (by decide) (Nat.le_of_ble_eq_true rfl) (Nat.le_of_ble_eq_true rfl) (Nat.le_of_ble_eq_true rfl) ?_
  refine j_iload2 (pc := 22) h dX7_largest_22 ?_
  refine j_callVr (pc := 23) h dX7_largest_23 (k_X0_byBlocks f5 f6 fp hfl hal) mv_X7_210 (f5) rfl rfl (by decide) (Nat.le_of_ble_eq_true rfl) (Nat.le_of_ble_eq_true rfl) (Nat.le_of_ble_eq_true rfl) ?_
  refine j_iretr (pc := 26) h dX7_largest_26 (lg_eq w hI)
theorem k_X7_freed_no {x : Int32} (w : CW g ad σ ρ C) (hI : Inv σ) (hx : inN x σ.nf = false) : Cr l g yX7_freed cX7_freed 5 (some .int) 5 [.ref (ad 0), .int x] ad C (.int (-1)) := by
  obtain ⟨f0, f1, f2, f3, f4, f5, f6, f7, f8, f9, f10, f11, f12, f13, f14, f15, f16, f17, f18, f19, hal, hfn, fp, fq, ffr⟩ := id w
  obtain ⟨hf1, hf2, hfl, hnn, hnm, hno, hc1, hc2⟩ := id hI.le
  refine Ct_of [some (.ref (ad 0)), some (.int x), none, none, none] (by decide) rfl rfl (Nat.le_of_ble_eq_true rfl) rfl rfl (fun X hX h => ?_)
  subst hX
  refine j_aload0 (pc := 0) h dX7_freed_0 ?_
  refine j_getf (pc := 1) h dX7_freed_1 (f0) fl_X7_12 rfl ?_
  refine j_iload1 (pc := 4) h dX7_freed_4 ?_
  refine j_callVr (pc := 5) h dX7_freed_5 (k_X1_has f1 hf2) mv_X7_64 (f1) rfl rfl (by decide) (Nat.le_of_ble_eq_true rfl) (Nat.le_of_ble_eq_true rfl) (Nat.le_of_ble_eq_true rfl) ?_
  refine j_if_neB (pc := 8) (tgt := 13) h dX7_freed_8 (by decide) (fun c8 => absurd c8 (by rw [hx]; decide)) (fun c8 => ?_)
  refine j_iconst (pc := 11) h dX7_freed_11 ic_m1 ?_
  refine j_iretr (pc := 12) h dX7_freed_12 (rfl)
theorem k_X7_freed {t : Nat} (w : CW g ad σ ρ C) (hI : Inv σ) (ht : t < σ.nf) : Cr l g yX7_freed cX7_freed 5 (some .int) 5 [.ref (ad 0), .int (nI t)] ad C (.int (nI (frB σ (goT σ t)))) := by
  obtain ⟨f0, f1, f2, f3, f4, f5, f6, f7, f8, f9, f10, f11, f12, f13, f14, f15, f16, f17, f18, f19, hal, hfn, fp, fq, ffr⟩ := id w
  obtain ⟨hf1, hf2, hfl, hnn, hnm, hno, hc1, hc2⟩ := id hI.le
  refine Ct_of [some (.ref (ad 0)), some (.int (nI t)), none, none, none] (by decide) rfl rfl (Nat.le_of_ble_eq_true rfl) rfl rfl (fun X hX h => ?_)
  subst hX
  refine j_aload0 (pc := 0) h dX7_freed_0 ?_
  refine j_getf (pc := 1) h dX7_freed_1 (f0) fl_X7_12 rfl ?_
  refine j_iload1 (pc := 4) h dX7_freed_4 ?_
  refine j_callVr (pc := 5) h dX7_freed_5 (k_X1_has f1 hf2) mv_X7_64 (f1) rfl rfl (by decide) (Nat.le_of_ble_eq_true rfl) (Nat.le_of_ble_eq_true rfl) (Nat.le_of_ble_eq_true rfl) ?_
  refine j_if_neB (pc := 8) (tgt := 13) h dX7_freed_8 (by decide) (fun c8 => ?_) (fun c8 => absurd c8 (by rw [inN_nI (by omega)]; simp; omega))
  refine j_aload0 (pc := 13) h dX7_freed_13 ?_
  refine j_getf (pc := 14) h dX7_freed_14 (f0) fl_X7_12 rfl ?_
  refine j_iload1 (pc := 17) h dX7_freed_17 ?_
  refine j_callVr (pc := 18) h dX7_freed_18 (k_X1_treeOf f1 f2 hf2 hI.ok ht) mv_X7_191 (f1) rfl rfl (by decide) (Nat.le_of_ble_eq_true rfl) (Nat.le_of_ble_eq_true rfl) (Nat.le_of_ble_eq_true rfl) ?_
  refine j_istore2 (pc := 21) h dX7_freed_21 rfl ?_
  refine j_aload0 (pc := 22) h dX7_freed_22 ?_
  refine j_getf (pc := 23) h dX7_freed_23 (f0) fl_X7_26 rfl ?_
  refine j_iload2 (pc := 26) h dX7_freed_26 ?_
  refine j_callVr (pc := 27) h dX7_freed_27 (k_X3_filesWithin f7 f8 f9 hnn) mv_X7_194 (f7) rfl rfl (by decide) (Nat.le_of_ble_eq_true rfl) (Nat.le_of_ble_eq_true rfl) (Nat.le_of_ble_eq_true rfl) ?_
  refine j_aload0 (pc := 30) h dX7_freed_30 ?_
  refine j_getf (pc := 31) h dX7_freed_31 (f0) fl_X7_26 rfl ?_
  refine j_iload2 (pc := 34) h dX7_freed_34 ?_
  refine j_iconst (pc := 35) h dX7_freed_35 ic_m1 ?_
  refine j_ixor (pc := 36) h dX7_freed_36 ?_
  refine j_callVr (pc := 37) h dX7_freed_37 (k_X3_filesWithin f7 f8 f9 hnn) mv_X7_194 (f7) rfl rfl (by decide) (Nat.le_of_ble_eq_true rfl) (Nat.le_of_ble_eq_true rfl) (Nat.le_of_ble_eq_true rfl) ?_
  refine j_ldc2 (pc := 40) h dX7_freed_40 kc_X7_131 ?_
  refine j_lxor (pc := 43) h dX7_freed_43 ?_
  refine j_land (pc := 44) h dX7_freed_44 ?_
  refine j_lstore3 (pc := 45) h dX7_freed_45 rfl ?_
  refine j_aload0 (pc := 46) h dX7_freed_46 ?_
  refine j_lload3 (pc := 47) h dX7_freed_47 ?_
  refine j_callVr (pc := 48) h dX7_freed_48 (k_X7_blocksFreedBy (gs := goT σ t) w hI (go_bit w hI t)) mv_X7_197 (f0) rfl rfl (by decide) (Nat.le_of_ble_eq_true rfl) (Nat.le_of_ble_eq_true rfl) (Nat.le_of_ble_eq_true rfl) ?_
  refine j_callSr (pc := 51) h dX7_freed_51 (k_J13_bitCount_95d88) ms_X7_125 rfl rfl (by decide) (Nat.le_of_ble_eq_true rfl) (Nat.le_of_ble_eq_true rfl) (Nat.le_of_ble_eq_true rfl) ?_
  refine j_iretr (pc := 54) h dX7_freed_54 (rfl)
theorem k_X7_both_no {x y : Int32} (w : CW g ad σ ρ C) (hI : Inv σ) (hx : inN x σ.nfl = false ∨ (∃ i, i < σ.nfl ∧ x = nI i ∧ lv σ i = false) ∨ inN y σ.nfl = false ∨ ∃ i, i < σ.nfl ∧ y = nI i ∧ lv σ i = false) : Cr l g yX7_both cX7_both 3 (some .int) 5 [.ref (ad 0), .int x, .int y] ad C (.int (-1)) := by
  obtain ⟨f0, f1, f2, f3, f4, f5, f6, f7, f8, f9, f10, f11, f12, f13, f14, f15, f16, f17, f18, f19, hal, hfn, fp, fq, ffr⟩ := id w
  obtain ⟨hf1, hf2, hfl, hnn, hnm, hno, hc1, hc2⟩ := id hI.le
  refine Ct_of [some (.ref (ad 0)), some (.int x), some (.int y)] (by decide) rfl rfl (Nat.le_of_ble_eq_true rfl) rfl rfl (fun X hX h => ?_)
  subst hX
  have two : (inN y σ.nfl = false ∨ ∃ i, i < σ.nfl ∧ y = nI i ∧ lv σ i = false) → J X g 3 (QR X g ad C (.int (-1))) 0 0 ad C 11 [some (.ref (ad 0)), some (.int x), some (.int y)] [] := by
    intro hy
    rcases hy with hy | ⟨i, hi, rfl, hy⟩
    · refine j_aload0 (pc := 11) h dX7_both_11 ?_
      refine j_getf (pc := 12) h dX7_both_12 (f0) fl_X7_19 rfl ?_
      refine j_iload2 (pc := 15) h dX7_both_15 ?_
      refine j_callVr (pc := 16) h dX7_both_16 (k_X0_find_no f5 hfl hy) mv_X7_101 (f5) rfl rfl (by decide) (Nat.le_of_ble_eq_true rfl) (Nat.le_of_ble_eq_true rfl) (Nat.le_of_ble_eq_true rfl) ?_
      refine j_ifnonnullN (pc := 19) h dX7_both_19 ?_
      refine j_iconst (pc := 22) h dX7_both_22 ic_m1 ?_
      refine j_iretr (pc := 23) h dX7_both_23 (rfl)
    · refine j_aload0 (pc := 11) h dX7_both_11 ?_
      refine j_getf (pc := 12) h dX7_both_12 (f0) fl_X7_19 rfl ?_
      refine j_iload2 (pc := 15) h dX7_both_15 ?_
      refine j_callVr (pc := 16) h dX7_both_16 (k_X0_find_n f5 f6 hfl hi hal hy) mv_X7_101 (f5) rfl rfl (by decide) (Nat.le_of_ble_eq_true rfl) (Nat.le_of_ble_eq_true rfl) (Nat.le_of_ble_eq_true rfl) ?_
      refine j_ifnonnullN (pc := 19) h dX7_both_19 ?_
      refine j_iconst (pc := 22) h dX7_both_22 ic_m1 ?_
      refine j_iretr (pc := 23) h dX7_both_23 (rfl)
  rcases inN_cases x σ.nfl with h1 | ⟨i, hi, rfl⟩
  · refine j_aload0 (pc := 0) h dX7_both_0 ?_
    refine j_getf (pc := 1) h dX7_both_1 (f0) fl_X7_19 rfl ?_
    refine j_iload1 (pc := 4) h dX7_both_4 ?_
    refine j_callVr (pc := 5) h dX7_both_5 (k_X0_find_no f5 hfl h1) mv_X7_101 (f5) rfl rfl (by decide) (Nat.le_of_ble_eq_true rfl) (Nat.le_of_ble_eq_true rfl) (Nat.le_of_ble_eq_true rfl) ?_
    refine j_ifnullN (pc := 8) (tgt := 22) h dX7_both_8 (by decide) ?_
    refine j_iconst (pc := 22) h dX7_both_22 ic_m1 ?_
    refine j_iretr (pc := 23) h dX7_both_23 (rfl)
  · cases hl : lv σ i with
    | false =>
      refine j_aload0 (pc := 0) h dX7_both_0 ?_
      refine j_getf (pc := 1) h dX7_both_1 (f0) fl_X7_19 rfl ?_
      refine j_iload1 (pc := 4) h dX7_both_4 ?_
      refine j_callVr (pc := 5) h dX7_both_5 (k_X0_find_n f5 f6 hfl hi hal hl) mv_X7_101 (f5) rfl rfl (by decide) (Nat.le_of_ble_eq_true rfl) (Nat.le_of_ble_eq_true rfl) (Nat.le_of_ble_eq_true rfl) ?_
      refine j_ifnullN (pc := 8) (tgt := 22) h dX7_both_8 (by decide) ?_
      refine j_iconst (pc := 22) h dX7_both_22 ic_m1 ?_
      refine j_iretr (pc := 23) h dX7_both_23 (rfl)
    | true =>
      refine j_aload0 (pc := 0) h dX7_both_0 ?_
      refine j_getf (pc := 1) h dX7_both_1 (f0) fl_X7_19 rfl ?_
      refine j_iload1 (pc := 4) h dX7_both_4 ?_
      refine j_callVr (pc := 5) h dX7_both_5 (k_X0_find f5 f6 hfl hi hal hl) mv_X7_101 (f5) rfl rfl (by decide) (Nat.le_of_ble_eq_true rfl) (Nat.le_of_ble_eq_true rfl) (Nat.le_of_ble_eq_true rfl) ?_
      refine j_ifnull (pc := 8) h dX7_both_8 ?_
      refine two ?_
      rcases hx with hx | ⟨i', hi', e, hx⟩ | hx | hx
      · rw [inN_nI (by omega)] at hx; simp at hx; omega
      · have := nI_inj e (by omega) (by omega); subst this; rw [hl] at hx; cases hx
      · exact Or.inl hx
      · exact Or.inr hx
theorem k_X7_both {i j : Nat} (w : CW g ad σ ρ C) (hI : Inv σ) (hi : i < σ.nfl) (hl : lv σ i = true) (hj : j < σ.nfl) (hlj : lv σ j = true) : Cr l g yX7_both cX7_both 3 (some .int) 5 [.ref (ad 0), .int (nI i), .int (nI j)] ad C (.int (nI (frB σ (fun f => f == i || f == j)))) := by
  obtain ⟨f0, f1, f2, f3, f4, f5, f6, f7, f8, f9, f10, f11, f12, f13, f14, f15, f16, f17, f18, f19, hal, hfn, fp, fq, ffr⟩ := id w
  obtain ⟨hf1, hf2, hfl, hnn, hnm, hno, hc1, hc2⟩ := id hI.le
  refine Ct_of [some (.ref (ad 0)), some (.int (nI i)), some (.int (nI j))] (by decide) rfl rfl (Nat.le_of_ble_eq_true rfl) rfl rfl (fun X hX h => ?_)
  subst hX
  refine j_aload0 (pc := 0) h dX7_both_0 ?_
  refine j_getf (pc := 1) h dX7_both_1 (f0) fl_X7_19 rfl ?_
  refine j_iload1 (pc := 4) h dX7_both_4 ?_
  refine j_callVr (pc := 5) h dX7_both_5 (k_X0_find f5 f6 hfl hi hal hl) mv_X7_101 (f5) rfl rfl (by decide) (Nat.le_of_ble_eq_true rfl) (Nat.le_of_ble_eq_true rfl) (Nat.le_of_ble_eq_true rfl) ?_
  refine j_ifnull (pc := 8) h dX7_both_8 ?_
  refine j_aload0 (pc := 11) h dX7_both_11 ?_
  refine j_getf (pc := 12) h dX7_both_12 (f0) fl_X7_19 rfl ?_
  refine j_iload2 (pc := 15) h dX7_both_15 ?_
  refine j_callVr (pc := 16) h dX7_both_16 (k_X0_find f5 f6 hfl hj hal hlj) mv_X7_101 (f5) rfl rfl (by decide) (Nat.le_of_ble_eq_true rfl) (Nat.le_of_ble_eq_true rfl) (Nat.le_of_ble_eq_true rfl) ?_
  refine j_ifnonnull (pc := 19) (tgt := 24) h dX7_both_19 (by decide) ?_
  refine j_aload0 (pc := 24) h dX7_both_24 ?_
  refine j_lconst (pc := 25) h dX7_both_25 lc_1 ?_
  refine j_iload1 (pc := 26) h dX7_both_26 ?_
  refine j_lshl (pc := 27) h dX7_both_27 ?_
  refine j_lconst (pc := 28) h dX7_both_28 lc_1 ?_
  refine j_iload2 (pc := 29) h dX7_both_29 ?_
  refine j_lshl (pc := 30) h dX7_both_30 ?_
  refine j_lor (pc := 31) h dX7_both_31 ?_
  refine j_callVr (pc := 32) h dX7_both_32 (k_X7_blocksFreedBy (gs := fun f => f == i || f == j) w hI (both_bit (by omega) (by omega))) mv_X7_197 (f0) rfl rfl (by decide) (Nat.le_of_ble_eq_true rfl) (Nat.le_of_ble_eq_true rfl) (Nat.le_of_ble_eq_true rfl) ?_
  refine j_callSr (pc := 35) h dX7_both_35 (k_J13_bitCount_95d88) ms_X7_125 rfl rfl (by decide) (Nat.le_of_ble_eq_true rfl) (Nat.le_of_ble_eq_true rfl) (Nat.le_of_ble_eq_true rfl) ?_
  refine j_iretr (pc := 38) h dX7_both_38 (rfl)
end CR

