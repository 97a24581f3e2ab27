/-! The class: its changes -/
def frL (C C' : CC) : Prop := ∀ j, 20 ≤ j → C' j = C j
theorem frL_rf (C : CC) : frL C C := fun _ _ => rfl
theorem frL_up {C C' : CC} {k : Nat} {v : Option va_E} (h : frL C C') (hk : k < 20) : frL C (va_up C' k v) := fun j hj => by rw [va_up_ne _ _ (by omega)]; exact h j hj
/-- the end of a change that leaves the pool -/
theorem PCl_lo {g : GG} {ad : AD} {C C' : CC} {v : Value} {σ' : Sg} {ρ' : Rm} (w : CW g ad σ' ρ' C') (h : frL C C') : PCl g ad C v σ' (some v) ad C' := ⟨rfl, ⟨ρ', w⟩, fun j h1 _ => h j h1, fun _ _ => rfl⟩
theorem cut_no {y : Int32} {n : Nat} (c : ¬ y < 0) (h : inN y (n + 1) = false) (hn : n < 2 ^ 31) : ¬ y ≤ nI n := by
  intro q
  have h0 := mt lt0_iff.mpr c
  have h1 := Int32.le_iff_toInt_le.mp q
  have h2 := nI_toInt hn
  have := no_sw (n := n) h
  omega
section CC
variable {l : Launch} {g : GG} {ad : AD} {C : CC} {σ : Sg} {ρ : Rm}
theorem k_X7_go_no {x : Int32} (w : CW g ad σ ρ C) (hx : inN x 501 = false) : Cr l g yX7_go cX7_go 2 (some .int) 2 [.ref (ad 0), .int x] ad C (.int (-1)) := by
  refine Ct_of [some (.ref (ad 0)), some (.int x)] (by decide) rfl rfl (Nat.le_of_ble_eq_true rfl) rfl rfl (fun X hX h => ?_)
  subst hX
  refine j_iload1 (pc := 0) h dX7_go_0 ?_
  refine j_if_lt (pc := 1) (tgt := 11) h dX7_go_1 (by decide) (fun c1 => ?_) (fun c1 => ?_)
  · refine j_iconst (pc := 11) h dX7_go_11 ic_m1 ?_
    refine j_iretr (pc := 12) h dX7_go_12 (rfl)
  · refine j_iload1 (pc := 4) h dX7_go_4 ?_
    refine j_sipush (pc := 5) h dX7_go_5 sp_500 ?_
    refine j_icmp_le (pc := 8) (tgt := 13) h dX7_go_8 (by decide) (fun c8 => absurd c8 (cut_no (n := 500) c1 hx (by decide))) (fun c8 => ?_)
    refine j_iconst (pc := 11) h dX7_go_11 ic_m1 ?_
    refine j_iretr (pc := 12) h dX7_go_12 (rfl)
theorem k_X7_go {i : Nat} (w : CW g ad σ ρ C) (hI : Inv σ) (hi : i ≤ 500) : Ct l g yX7_go cX7_go 2 (some .int) 2 0 0 [.ref (ad 0), .int (nI i)] ad C (PCl g ad C (.int (nI (gw σ i))) (sGo σ i)) := by
  obtain ⟨f0, f1, f2, f3, f4, f5, f6, f7, f8, f9, f10, f11, f12, f13, f14, f15, f16, f17, f18, f19, hal, hfn, fp, fq, ffr⟩ := id w
  obtain ⟨hf1, hf2, hfl, hnn, hnm, hno, hc1, hc2⟩ := id hI.le
  have e : (if nI 5000 < nI (σ.now + i) then nI 5000 else nI (σ.now + i)) = nI (gw σ i) := by
    unfold gw
    by_cases h : 5000 < σ.now + i
    · rw [if_pos h, if_pos (nI_lt h (by omega))]
    · rw [if_neg h, if_neg (nI_nlt (by omega) (by omega))]
  refine Ct_of [some (.ref (ad 0)), some (.int (nI i))] (by decide) rfl rfl (Nat.le_of_ble_eq_true rfl) rfl rfl (fun X hX h => ?_)
  subst hX
  refine j_iload1 (pc := 0) h dX7_go_0 ?_
  refine j_if_lt (pc := 1) (tgt := 11) h dX7_go_1 (by decide) (fun c1 => absurd c1 (nI_pos (by omega))) (fun c1 => ?_)
  refine j_iload1 (pc := 4) h dX7_go_4 ?_
  refine j_sipush (pc := 5) h dX7_go_5 sp_500 ?_
  refine j_icmp_le (pc := 8) (tgt := 13) h dX7_go_8 (by decide) (fun c8 => ?_) (fun c8 => absurd (nI_le hi (by omega)) c8)
  refine j_aload0 (pc := 13) h dX7_go_13 ?_
  refine j_aload0 (pc := 14) h dX7_go_14 ?_
  refine j_getf (pc := 15) h dX7_go_15 (f0) fl_X7_51 rfl ?_
  refine j_iload1 (pc := 18) h dX7_go_18 ?_
  refine j_iaddN (pc := 19) h dX7_go_19 ?_
  refine j_sipush (pc := 20) h dX7_go_20 sp_5000 ?_
  refine j_callSr (pc := 23) h dX7_go_23 (k_J9_min_7cf53) ms_X7_58 rfl rfl (by decide) (Nat.le_of_ble_eq_true rfl) (Nat.le_of_ble_eq_true rfl) (Nat.le_of_ble_eq_true rfl) ?_
  refine j_topi (e) ?_
  refine j_putv (pc := 26) h dX7_go_26 (f0) pl_X7_51 rfl rfl (Nat.le_of_ble_eq_true rfl) ?_
  refine j_aload0 (pc := 29) h dX7_go_29 ?_
  refine j_getf (pc := 30) h dX7_go_30 (rfl) fl_X7_51 rfl ?_
  refine j_iret (pc := 33) h dX7_go_33 (PCl_lo (ρ' := ρ) ⟨rfl, f1, f2, f3, f4, f5, f6, f7, f8, f9, f10, f11, f12, f13, f14, f15, f16, f17, f18, f19, hal, hfn, fun i hi => ((frL_up (frL_rf C) (by decide)) _ (by omega)).trans (fp i hi), fun i hi => (fq i hi).imp (fun pl q => ⟨((frL_up (frL_rf C) (by decide)) _ (by omega)).trans q.1, q.2⟩), fun j hj => ((frL_up (frL_rf C) (by decide)) j (Nat.le_trans (by omega) hj)).trans (ffr j hj)⟩ (frL_up (frL_rf C) (by decide)))
theorem k_X7_folder_no {x y z : Int32} (w : CW g ad σ ρ C) (hI : Inv σ) (hx : (inN x σ.nf && inN y 6 && decide (σ.nf < 30)) = false) : Cr l g yX7_folder cX7_folder 4 (some .int) 3 [.ref (ad 0), .int x, .int y, .int z] ad C (.int (-1)) := by
  obtain ⟨f0, f1, f2, f3, f4, f5, f6, f7, f8, f9, f10, f11, f12, f13, f14, f15, f16, f17, f18, f19, hal, hfn, fp, fq, ffr⟩ := id w
  obtain ⟨hf1, hf2, hfl, hnn, hnm, hno, hc1, hc2⟩ := id hI.le
  refine Ct_of [some (.ref (ad 0)), some (.int x), some (.int y), some (.int z)] (by decide) rfl rfl (Nat.le_of_ble_eq_true rfl) rfl rfl (fun X hX h => ?_)
  subst hX
  refine j_aload0 (pc := 0) h dX7_folder_0 ?_
  refine j_getf (pc := 1) h dX7_folder_1 (f0) fl_X7_12 rfl ?_
  refine j_iload1 (pc := 4) h dX7_folder_4 ?_
  refine j_callVr (pc := 5) h dX7_folder_5 (k_X1_has f1 hf2) mv_X7_64 (f1) rfl rfl (by decide) (Nat.le_of_ble_eq_true rfl) (Nat.le_of_ble_eq_true rfl) (Nat.le_of_ble_eq_true rfl) ?_
  refine j_if_eqB (pc := 8) (tgt := 18) h dX7_folder_8 (by decide) (fun c8 => ?_) (fun c8 => ?_)
  · refine j_iconst (pc := 18) h dX7_folder_18 ic_m1 ?_
    refine j_iretr (pc := 19) h dX7_folder_19 (rfl)
  · refine j_iload2 (pc := 11) h dX7_folder_11 ?_
    refine j_callSr (pc := 12) h dX7_folder_12 (k_X7_isPerson) ms_X7_68 rfl rfl (by decide) (Nat.le_of_ble_eq_true rfl) (Nat.le_of_ble_eq_true rfl) (Nat.le_of_ble_eq_true rfl) ?_
    refine j_if_neB (pc := 15) (tgt := 20) h dX7_folder_15 (by decide) (fun c15 => ?_) (fun c15 => ?_)
    · rw [c8, c15] at hx
      refine j_aload0 (pc := 20) h dX7_folder_20 ?_
      refine j_getf (pc := 21) h dX7_folder_21 (f0) fl_X7_12 rfl ?_
      refine j_iload1 (pc := 24) h dX7_folder_24 ?_
      refine j_iload2 (pc := 25) h dX7_folder_25 ?_
      refine j_iload3 (pc := 26) h dX7_folder_26 ?_
      refine j_callVr (pc := 27) h dX7_folder_27 (k_X1_add_no f1 (by simp at hx; omega)) mv_X7_71 (f1) rfl rfl (by decide) (Nat.le_of_ble_eq_true rfl) (Nat.le_of_ble_eq_true rfl) (Nat.le_of_ble_eq_true rfl) ?_
      refine j_iretr (pc := 30) h dX7_folder_30 (rfl)
    · refine j_iconst (pc := 18) h dX7_folder_18 ic_m1 ?_
      refine j_iretr (pc := 19) h dX7_folder_19 (rfl)
theorem k_X7_folder {a : Nat} {y : Int32} {b : Bool} (w : CW g ad σ ρ C) (hI : Inv σ) (ha : a < σ.nf) (hy : inN y 6 = true) (hf : σ.nf < 30) : Ct l g yX7_folder cX7_folder 4 (some .int) 3 0 0 [.ref (ad 0), .int (nI a), .int y, .int (bI b)] ad C (PCl g ad C (.int (nI σ.nf)) (sFo σ a y b)) := by
  obtain ⟨f0, f1, f2, f3, f4, f5, f6, f7, f8, f9, f10, f11, f12, f13, f14, f15, f16, f17, f18, f19, hal, hfn, fp, fq, ffr⟩ := id w
  obtain ⟨hf1, hf2, hfl, hnn, hnm, hno, hc1, hc2⟩ := id hI.le
  refine Ct_of [some (.ref (ad 0)), some (.int (nI a)), some (.int y), some (.int (bI b))] (by decide) rfl rfl (Nat.le_of_ble_eq_true rfl) rfl rfl (fun X hX h => ?_)
  subst hX
  refine j_aload0 (pc := 0) h dX7_folder_0 ?_
  refine j_getf (pc := 1) h dX7_folder_1 (f0) fl_X7_12 rfl ?_
  refine j_iload1 (pc := 4) h dX7_folder_4 ?_
  refine j_callVr (pc := 5) h dX7_folder_5 (k_X1_has f1 hf2) mv_X7_64 (f1) rfl rfl (by decide) (Nat.le_of_ble_eq_true rfl) (Nat.le_of_ble_eq_true rfl) (Nat.le_of_ble_eq_true rfl) ?_
  refine j_if_eqB (pc := 8) (tgt := 18) h dX7_folder_8 (by decide) (fun c8 => absurd c8 (by rw [inN_nI (by omega)]; simp; omega)) (fun c8 => ?_)
  refine j_iload2 (pc := 11) h dX7_folder_11 ?_
  refine j_callSr (pc := 12) h dX7_folder_12 (k_X7_isPerson) ms_X7_68 rfl rfl (by decide) (Nat.le_of_ble_eq_true rfl) (Nat.le_of_ble_eq_true rfl) (Nat.le_of_ble_eq_true rfl) ?_
  refine j_if_neB (pc := 15) (tgt := 20) h dX7_folder_15 (by decide) (fun c15 => ?_) (fun c15 => absurd (hy.symm.trans c15) (by decide))
  refine j_aload0 (pc := 20) h dX7_folder_20 ?_
  refine j_getf (pc := 21) h dX7_folder_21 (f0) fl_X7_12 rfl ?_
  refine j_iload1 (pc := 24) h dX7_folder_24 ?_
  refine j_iload2 (pc := 25) h dX7_folder_25 ?_
  refine j_iload3 (pc := 26) h dX7_folder_26 ?_
  refine j_callV (pc := 27) h dX7_folder_27 (k_X1_add f1 f2 f3 f4 hf) mv_X7_71 (f1) rfl rfl (by decide) (Nat.le_of_ble_eq_true rfl) (Nat.le_of_ble_eq_true rfl) (Nat.le_of_ble_eq_true rfl) (fun v27 ad27 C27 hp27 => ?_)
  obtain ⟨rfl, rfl, rfl⟩ := hp27
  refine j_iret (pc := 30) h dX7_folder_30 (PCl_lo (ρ' := ρ) ⟨f0, rfl, eI_c (parF_up (by omega)), rfl, eZ_c bF_up, f5, f6, f7, f8, f9, f10, f11, f12, f13, f14, f15, f16, f17, f18, f19, hal, hfn, fun i hi => ((frL_up (frL_up (frL_up (frL_up (frL_rf C) (by decide)) (by decide)) (by decide)) (by decide)) _ (by omega)).trans (fp i hi), fun i hi => (fq i hi).imp (fun pl q => ⟨((frL_up (frL_up (frL_up (frL_up (frL_rf C) (by decide)) (by decide)) (by decide)) (by decide)) _ (by omega)).trans q.1, q.2⟩), fun j hj => ((frL_up (frL_up (frL_up (frL_up (frL_rf C) (by decide)) (by decide)) (by decide)) (by decide)) j (Nat.le_trans (by omega) hj)).trans (ffr j hj)⟩ (frL_up (frL_up (frL_up (frL_up (frL_rf C) (by decide)) (by decide)) (by decide)) (by decide)))
theorem k_X7_move_no {x y : Int32} (w : CW g ad σ ρ C) (hI : Inv σ) (hx : inN x σ.nf = false ∨ inN y σ.nf = false ∨ x = nI 0 ∨ ∃ a c, a < σ.nf ∧ c < σ.nf ∧ x = nI a ∧ y = nI c ∧ anc σ.pr 29 c a = true) : Cr l g yX7_move cX7_move 3 (some .boolean) 3 [.ref (ad 0), .int x, .int y] ad C (.int (bI false)) := by
  obtain ⟨f0, f1, f2, f3, f4, f5, f6, f7, f8, f9, f10, f11, f12, f13, f14, f15, f16, f17, f18, f19, hal, hfn, fp, fq, ffr⟩ := id w
  obtain ⟨hf1, hf2, hfl, hnn, hnm, hno, hc1, hc2⟩ := id hI.le
  refine Ct_of [some (.ref (ad 0)), some (.int x), some (.int y)] (by decide) rfl rfl (Nat.le_of_ble_eq_true rfl) rfl rfl (fun X hX h => ?_)
  subst hX
  refine j_aload0 (pc := 0) h dX7_move_0 ?_
  refine j_getf (pc := 1) h dX7_move_1 (f0) fl_X7_12 rfl ?_
  refine j_iload1 (pc := 4) h dX7_move_4 ?_
  refine j_callVr (pc := 5) h dX7_move_5 (k_X1_has f1 hf2) mv_X7_64 (f1) rfl rfl (by decide) (Nat.le_of_ble_eq_true rfl) (Nat.le_of_ble_eq_true rfl) (Nat.le_of_ble_eq_true rfl) ?_
  refine j_if_eqB (pc := 8) (tgt := 26) h dX7_move_8 (by decide) (fun c8 => ?_) (fun c8 => ?_)
  · refine j_iconst (pc := 26) h dX7_move_26 ic_0 ?_
    refine j_zretr (pc := 27) h dX7_move_27 (by decide) (rfl)
  · refine j_aload0 (pc := 11) h dX7_move_11 ?_
    refine j_getf (pc := 12) h dX7_move_12 (f0) fl_X7_12 rfl ?_
    refine j_iload2 (pc := 15) h dX7_move_15 ?_
    refine j_callVr (pc := 16) h dX7_move_16 (k_X1_has f1 hf2) mv_X7_64 (f1) rfl rfl (by decide) (Nat.le_of_ble_eq_true rfl) (Nat.le_of_ble_eq_true rfl) (Nat.le_of_ble_eq_true rfl) ?_
    refine j_if_eqB (pc := 19) (tgt := 26) h dX7_move_19 (by decide) (fun c19 => ?_) (fun c19 => ?_)
    · refine j_iconst (pc := 26) h dX7_move_26 ic_0 ?_
      refine j_zretr (pc := 27) h dX7_move_27 (by decide) (rfl)
    · refine j_iload1 (pc := 22) h dX7_move_22 ?_
      refine j_if_ne (pc := 23) (tgt := 28) h dX7_move_23 (by decide) (fun c23 => ?_) (fun c23 => ?_)
      · rcases hx with hx | hx | hx | ⟨a, c, ha, hc, rfl, rfl, hx⟩
        · exact absurd (hx.symm.trans c8) (by decide)
        · exact absurd (hx.symm.trans c19) (by decide)
        · exact absurd hx c23
        · refine j_aload0 (pc := 28) h dX7_move_28 ?_
          refine j_getf (pc := 29) h dX7_move_29 (f0) fl_X7_12 rfl ?_
          refine j_iload2 (pc := 32) h dX7_move_32 ?_
          refine j_iload1 (pc := 33) h dX7_move_33 ?_
          refine j_callVr (pc := 34) h dX7_move_34 (k_X1_isInTree f1 f2 hf2 hc (hI.ok c hc) ha) mv_X7_75 (f1) rfl rfl (by decide) (Nat.le_of_ble_eq_true rfl) (Nat.le_of_ble_eq_true rfl) (Nat.le_of_ble_eq_true rfl) ?_
          refine j_if_eqB (pc := 37) (tgt := 42) h dX7_move_37 (by decide) (fun c37 => absurd c37 (by rw [hx]; decide)) (fun c37 => ?_)
          refine j_iconst (pc := 40) h dX7_move_40 ic_0 ?_
          refine j_zretr (pc := 41) h dX7_move_41 (by decide) (rfl)
      · refine j_iconst (pc := 26) h dX7_move_26 ic_0 ?_
        refine j_zretr (pc := 27) h dX7_move_27 (by decide) (rfl)
theorem k_X7_move {a c : Nat} (w : CW g ad σ ρ C) (hI : Inv σ) (ha : a < σ.nf) (hc : c < σ.nf) (h0 : a ≠ 0) (hx : anc σ.pr 29 c a = false) : Ct l g yX7_move cX7_move 3 (some .boolean) 3 0 0 [.ref (ad 0), .int (nI a), .int (nI c)] ad C (PCl g ad C (.int (bI true)) (sMv σ a c)) := by
  obtain ⟨f0, f1, f2, f3, f4, f5, f6, f7, f8, f9, f10, f11, f12, f13, f14, f15, f16, f17, f18, f19, hal, hfn, fp, fq, ffr⟩ := id w
  obtain ⟨hf1, hf2, hfl, hnn, hnm, hno, hc1, hc2⟩ := id hI.le
  refine Ct_of [some (.ref (ad 0)), some (.int (nI a)), some (.int (nI c))] (by decide) rfl rfl (Nat.le_of_ble_eq_true rfl) rfl rfl (fun X hX h => ?_)
  subst hX
  refine j_aload0 (pc := 0) h dX7_move_0 ?_
  refine j_getf (pc := 1) h dX7_move_1 (f0) fl_X7_12 rfl ?_
  refine j_iload1 (pc := 4) h dX7_move_4 ?_
  refine j_callVr (pc := 5) h dX7_move_5 (k_X1_has f1 hf2) mv_X7_64 (f1) rfl rfl (by decide) (Nat.le_of_ble_eq_true rfl) (Nat.le_of_ble_eq_true rfl) (Nat.le_of_ble_eq_true rfl) ?_
  refine j_if_eqB (pc := 8) (tgt := 26) h dX7_move_8 (by decide) (fun c8 => absurd c8 (by rw [inN_nI (by omega)]; simp; omega)) (fun c8 => ?_)
  refine j_aload0 (pc := 11) h dX7_move_11 ?_
  refine j_getf (pc := 12) h dX7_move_12 (f0) fl_X7_12 rfl ?_
  refine j_iload2 (pc := 15) h dX7_move_15 ?_
  refine j_callVr (pc := 16) h dX7_move_16 (k_X1_has f1 hf2) mv_X7_64 (f1) rfl rfl (by decide) (Nat.le_of_ble_eq_true rfl) (Nat.le_of_ble_eq_true rfl) (Nat.le_of_ble_eq_true rfl) ?_
  refine j_if_eqB (pc := 19) (tgt := 26) h dX7_move_19 (by decide) (fun c19 => absurd c19 (by rw [inN_nI (by omega)]; simp; omega)) (fun c19 => ?_)
  refine j_iload1 (pc := 22) h dX7_move_22 ?_
  refine j_if_ne (pc := 23) (tgt := 28) h dX7_move_23 (by decide) (fun c23 => ?_) (fun c23 => absurd c23 (nI_ne0 (by omega) (by omega)))
  refine j_aload0 (pc := 28) h dX7_move_28 ?_
  refine j_getf (pc := 29) h dX7_move_29 (f0) fl_X7_12 rfl ?_
  refine j_iload2 (pc := 32) h dX7_move_32 ?_
  refine j_iload1 (pc := 33) h dX7_move_33 ?_
  refine j_callVr (pc := 34) h dX7_move_34 (k_X1_isInTree f1 f2 hf2 hc (hI.ok c hc) ha) mv_X7_75 (f1) rfl rfl (by decide) (Nat.le_of_ble_eq_true rfl) (Nat.le_of_ble_eq_true rfl) (Nat.le_of_ble_eq_true rfl) ?_
  refine j_if_eqB (pc := 37) (tgt := 42) h dX7_move_37 (by decide) (fun c37 => ?_) (fun c37 => absurd c37 (by rw [hx]; decide))
  refine j_aload0 (pc := 42) h dX7_move_42 ?_
  refine j_getf (pc := 43) h dX7_move_43 (f0) fl_X7_12 rfl ?_
  refine j_iload1 (pc := 46) h dX7_move_46 ?_
  refine j_iload2 (pc := 47) h dX7_move_47 ?_
  refine j_callV (pc := 48) h dX7_move_48 (k_X1_putIn f1 f2 hf2 ha) mv_X7_79 (f1) rfl rfl (by decide) (Nat.le_of_ble_eq_true rfl) (Nat.le_of_ble_eq_true rfl) (Nat.le_of_ble_eq_true rfl) (fun v48 ad48 C48 hp48 => ?_)
  obtain ⟨rfl, rfl, rfl⟩ := hp48
  refine j_iconst (pc := 51) h dX7_move_51 ic_1 ?_
  refine j_zret (pc := 52) h dX7_move_52 (nar_1) (PCl_lo (ρ' := ρ) ⟨f0, f1, eI_c (parF_up h0), f3, f4, f5, f6, f7, f8, f9, f10, f11, f12, f13, f14, f15, f16, f17, f18, f19, hal, hfn, fun i hi => ((frL_up (frL_rf C) (by decide)) _ (by omega)).trans (fp i hi), fun i hi => (fq i hi).imp (fun pl q => ⟨((frL_up (frL_rf C) (by decide)) _ (by omega)).trans q.1, q.2⟩), fun j hj => ((frL_up (frL_rf C) (by decide)) j (Nat.le_trans (by omega) hj)).trans (ffr j hj)⟩ (frL_up (frL_rf C) (by decide)))
/-- the class's slots -/
def Rm.uF (ρ : Rm) (f : Nat → Int32) : Rm := (ρ.al, f, ρ.2.2)
def Rm.uA (ρ : Rm) (a : Nat → Option Nat) : Rm := (a, ρ.2)
theorem nms_na {σ : Sg} (hI : Inv σ) {f a i : Nat} : nms (sNa σ f a) i = nms σ i + (if f = i then 1 else 0) := by
  have e1 : cnt (fun k => (sNa σ f a).tb k && (sNa σ f a).fl k == i) σ.nn = nms σ i := by
    refine cnt_cong (fun k hk => ?_)
    show (va_up σ.tb σ.nn true k && va_up σ.fl σ.nn f k == i) = _
    rw [va_up_ne _ _ (by omega), va_up_ne _ _ (by omega)]
  show cnt (fun k => (sNa σ f a).tb k && (sNa σ f a).fl k == i) (σ.nn + 1) = _
  have h1 : (sNa σ f a).tb σ.nn = true := by show va_up σ.tb σ.nn true σ.nn = true; simp [va_up]
  have h2 : (sNa σ f a).fl σ.nn = f := by show va_up σ.fl σ.nn f σ.nn = f; simp [va_up]
  by_cases e : f = i
  · rw [cnt_t (by rw [h1, h2]; simp [e]), e1, if_pos e]
  · rw [cnt_f (by rw [h1, h2]; simp [e]), e1, if_neg e]; rfl
theorem hfn_na {σ : Sg} {fn : Nat → Int32} (hfn : ∀ k, k < σ.nn → fn k = if σ.tb k = true then nI (σ.fl k) else -1) {f a : Nat} : ∀ k, k < (sNa σ f a).nn → upd fn σ.nn (nI f) k = if (sNa σ f a).tb k = true then nI ((sNa σ f a).fl k) else -1 := by
  intro k hk
  have hk' : k < σ.nn + 1 := hk
  show upd fn σ.nn (nI f) k = if va_up σ.tb σ.nn true k = true then nI (va_up σ.fl σ.nn f k) else -1
  by_cases e : k = σ.nn
  · subst e; simp [upd, va_up]
  · rw [va_up_ne _ _ e, va_up_ne _ _ e, ← hfn k (by omega)]; simp [upd, e]
theorem al_na {ad : AD} {σ : Sg} {al : Nat → Option Nat} (hI : Inv σ) {f a : Nat} (hl : lv σ f = true) (hal : isAl ad σ.nfl (lv σ) al) : isAl ad (sNa σ f a).nfl (lv (sNa σ f a)) al := by
  intro i hi
  rw [hal i hi]
  have e : lv (sNa σ f a) i = lv σ i := by
    unfold lv
    rw [nms_na hI]
    by_cases q : f = i
    · subst q
      have : 0 < nms σ f := by simpa [lv] using hl
      rw [if_pos rfl]
      exact decide_eq_decide.mpr (by omega)
    · rw [if_neg q]; rfl
  rw [e]
theorem link_n {σ : Sg} (hI : Inv σ) {i : Nat} {y : Int32} (hi : i < σ.nfl) (hl : lv σ i = true) (hy : inN y σ.nf = true) (hx : inN (nI i) σ.nfl = false ∨ (∃ i', i' < σ.nfl ∧ nI i = nI i' ∧ lv σ i' = false) ∨ inN y σ.nf = false ∨ σ.nn = 100) : σ.nn = 100 := by
  have hle := hI.le
  rcases hx with hx | ⟨i', hi', e, hx⟩ | hx | hx
  · rw [inN_nI (by omega)] at hx; simp at hx; omega
  · have := nI_inj e (by omega) (by omega); subst this; rw [hl] at hx; cases hx
  · rw [hy] at hx; cases hx
  · exact hx
theorem hol_no {x : Int32} {n : Nat} (c2 : ¬ x < nI 1) (c8 : ¬ nI 60 < x) (hx : rng x (nI 1) (nI 60) = false ∨ x < nI n) : ¬ nI n ≤ x := by
  rcases hx with hx | hx
  · rw [rngT c2 c8] at hx; cases hx
  · intro q
    have h1 := Int32.lt_iff_toInt_lt.mp hx
    have h2 := Int32.le_iff_toInt_le.mp q
    omega
theorem k_X7_link_no {x y : Int32} (w : CW g ad σ ρ C) (hI : Inv σ) (hx : inN x σ.nfl = false ∨ (∃ i, i < σ.nfl ∧ x = nI i ∧ lv σ i = false) ∨ inN y σ.nf = false ∨ σ.nn = 100) : Cr l g yX7_link cX7_link 3 (some .int) 3 [.ref (ad 0), .int x, .int y] ad C (.int (-1)) := by
  obtain ⟨f0, f1, f2, f3, f4, f5, f6, f7, f8, f9, f10, f11, f12, f13, f14, f15, f16, f17, f18, f19, hal, hfn, fp, fq, ffr⟩ := id w
  obtain ⟨hf1, hf2, hfl, hnn, hnm, hno, hc1, hc2⟩ := id hI.le
  refine Ct_of [some (.ref (ad 0)), some (.int x), some (.int y)] (by decide) rfl rfl (Nat.le_of_ble_eq_true rfl) rfl rfl (fun X hX h => ?_)
  subst hX
  rcases inN_cases x σ.nfl with h1 | ⟨i, hi, rfl⟩
  · refine j_aload0 (pc := 0) h dX7_link_0 ?_
    refine j_getf (pc := 1) h dX7_link_1 (f0) fl_X7_19 rfl ?_
    refine j_iload1 (pc := 4) h dX7_link_4 ?_
    refine j_callVr (pc := 5) h dX7_link_5 (k_X0_find_no f5 hfl h1) mv_X7_101 (f5) rfl rfl (by decide) (Nat.le_of_ble_eq_true rfl) (Nat.le_of_ble_eq_true rfl) (Nat.le_of_ble_eq_true rfl) ?_
    refine j_ifnullN (pc := 8) (tgt := 22) h dX7_link_8 (by decide) ?_
    refine j_iconst (pc := 22) h dX7_link_22 ic_m1 ?_
    refine j_iretr (pc := 23) h dX7_link_23 (rfl)
  · cases hl : lv σ i with
    | false =>
      refine j_aload0 (pc := 0) h dX7_link_0 ?_
      refine j_getf (pc := 1) h dX7_link_1 (f0) fl_X7_19 rfl ?_
      refine j_iload1 (pc := 4) h dX7_link_4 ?_
      refine j_callVr (pc := 5) h dX7_link_5 (k_X0_find_n f5 f6 hfl hi hal hl) mv_X7_101 (f5) rfl rfl (by decide) (Nat.le_of_ble_eq_true rfl) (Nat.le_of_ble_eq_true rfl) (Nat.le_of_ble_eq_true rfl) ?_
      refine j_ifnullN (pc := 8) (tgt := 22) h dX7_link_8 (by decide) ?_
      refine j_iconst (pc := 22) h dX7_link_22 ic_m1 ?_
      refine j_iretr (pc := 23) h dX7_link_23 (rfl)
    | true =>
      refine j_aload0 (pc := 0) h dX7_link_0 ?_
      refine j_getf (pc := 1) h dX7_link_1 (f0) fl_X7_19 rfl ?_
      refine j_iload1 (pc := 4) h dX7_link_4 ?_
      refine j_callVr (pc := 5) h dX7_link_5 (k_X0_find f5 f6 hfl hi hal hl) mv_X7_101 (f5) rfl rfl (by decide) (Nat.le_of_ble_eq_true rfl) (Nat.le_of_ble_eq_true rfl) (Nat.le_of_ble_eq_true rfl) ?_
      refine j_ifnull (pc := 8) h dX7_link_8 ?_
      refine j_aload0 (pc := 11) h dX7_link_11 ?_
      refine j_getf (pc := 12) h dX7_link_12 (f0) fl_X7_12 rfl ?_
      refine j_iload2 (pc := 15) h dX7_link_15 ?_
      refine j_callVr (pc := 16) h dX7_link_16 (k_X1_has f1 hf2) mv_X7_64 (f1) rfl rfl (by decide) (Nat.le_of_ble_eq_true rfl) (Nat.le_of_ble_eq_true rfl) (Nat.le_of_ble_eq_true rfl) ?_
      refine j_if_neB (pc := 19) (tgt := 24) h dX7_link_19 (by decide) (fun c19 => ?_) (fun c19 => ?_)
      · refine j_aload0 (pc := 24) h dX7_link_24 ?_
        refine j_getf (pc := 25) h dX7_link_25 (f0) fl_X7_26 rfl ?_
        refine j_iload1 (pc := 28) h dX7_link_28 ?_
        refine j_iload2 (pc := 29) h dX7_link_29 ?_
        refine j_callVr (pc := 30) h dX7_link_30 (k_X3_add_no f7 (link_n hI hi hl c19 hx)) mv_X7_95 (f7) rfl rfl (by decide) (Nat.le_of_ble_eq_true rfl) (Nat.le_of_ble_eq_true rfl) (Nat.le_of_ble_eq_true rfl) ?_
        refine j_iretr (pc := 33) h dX7_link_33 (rfl)
      · refine j_iconst (pc := 22) h dX7_link_22 ic_m1 ?_
        refine j_iretr (pc := 23) h dX7_link_23 (rfl)
theorem k_X7_link {f a : Nat} (w : CW g ad σ ρ C) (hI : Inv σ) (hf : f < σ.nfl) (hl : lv σ f = true) (ha : a < σ.nf) (hn : σ.nn < 100) : Ct l g yX7_link cX7_link 3 (some .int) 3 0 0 [.ref (ad 0), .int (nI f), .int (nI a)] ad C (PCl g ad C (.int (nI σ.nn)) (sNa σ f a)) := by
  obtain ⟨f0, f1, f2, f3, f4, f5, f6, f7, f8, f9, f10, f11, f12, f13, f14, f15, f16, f17, f18, f19, hal, hfn, fp, fq, ffr⟩ := id w
  obtain ⟨hf1, hf2, hfl, hnn, hnm, hno, hc1, hc2⟩ := id hI.le
  refine Ct_of [some (.ref (ad 0)), some (.int (nI f)), some (.int (nI a))] (by decide) rfl rfl (Nat.le_of_ble_eq_true rfl) rfl rfl (fun X hX h => ?_)
  subst hX
  refine j_aload0 (pc := 0) h dX7_link_0 ?_
  refine j_getf (pc := 1) h dX7_link_1 (f0) fl_X7_19 rfl ?_
  refine j_iload1 (pc := 4) h dX7_link_4 ?_
  refine j_callVr (pc := 5) h dX7_link_5 (k_X0_find f5 f6 hfl hf hal hl) mv_X7_101 (f5) rfl rfl (by decide) (Nat.le_of_ble_eq_true rfl) (Nat.le_of_ble_eq_true rfl) (Nat.le_of_ble_eq_true rfl) ?_
  refine j_ifnull (pc := 8) h dX7_link_8 ?_
  refine j_aload0 (pc := 11) h dX7_link_11 ?_
  refine j_getf (pc := 12) h dX7_link_12 (f0) fl_X7_12 rfl ?_
  refine j_iload2 (pc := 15) h dX7_link_15 ?_
  refine j_callVr (pc := 16) h dX7_link_16 (k_X1_has f1 hf2) mv_X7_64 (f1) rfl rfl (by decide) (Nat.le_of_ble_eq_true rfl) (Nat.le_of_ble_eq_true rfl) (Nat.le_of_ble_eq_true rfl) ?_
  refine j_if_neB (pc := 19) (tgt := 24) h dX7_link_19 (by decide) (fun c19 => ?_) (fun c19 => absurd c19 (by rw [inN_nI (by omega)]; simp; omega))
  refine j_aload0 (pc := 24) h dX7_link_24 ?_
  refine j_getf (pc := 25) h dX7_link_25 (f0) fl_X7_26 rfl ?_
  refine j_iload1 (pc := 28) h dX7_link_28 ?_
  refine j_iload2 (pc := 29) h dX7_link_29 ?_
  refine j_callV (pc := 30) h dX7_link_30 (k_X3_add f7 f8 f9 hn) mv_X7_95 (f7) rfl rfl (by decide) (Nat.le_of_ble_eq_true rfl) (Nat.le_of_ble_eq_true rfl) (Nat.le_of_ble_eq_true rfl) (fun v30 ad30 C30 hp30 => ?_)
  obtain ⟨rfl, rfl, rfl⟩ := hp30
  refine j_iret (pc := 33) h dX7_link_33 (PCl_lo (ρ' := ρ.uF (upd ρ.fn σ.nn (nI f))) ⟨f0, f1, f2, f3, f4, f5, f6, rfl, rfl, eI_c nF_up, f10, f11, f12, f13, f14, f15, f16, f17, f18, f19, al_na hI hl hal, hfn_na hfn, fun i hi => ((frL_up (frL_up (frL_up (frL_rf C) (by decide)) (by decide)) (by decide)) _ (by omega)).trans (fp i hi), fun i hi => (fq i hi).imp (fun pl q => ⟨((frL_up (frL_up (frL_up (frL_rf C) (by decide)) (by decide)) (by decide)) _ (by omega)).trans q.1, q.2⟩), fun j hj => ((frL_up (frL_up (frL_up (frL_rf C) (by decide)) (by decide)) (by decide)) j (Nat.le_trans (by omega) hj)).trans (ffr j hj)⟩ (frL_up (frL_up (frL_up (frL_rf C) (by decide)) (by decide)) (by decide)))
theorem k_X7_snapshot_no (w : CW g ad σ ρ C) (hI : Inv σ) (hlo : ∀ i, i < 8 → σ.sb i = true) : Cr l g yX7_snapshot cX7_snapshot 1 (some .int) 3 [.ref (ad 0)] ad C (.int (-1)) := by
  obtain ⟨f0, f1, f2, f3, f4, f5, f6, f7, f8, f9, f10, f11, f12, f13, f14, f15, f16, f17, f18, f19, hal, hfn, fp, fq, ffr⟩ := id w
  obtain ⟨hf1, hf2, hfl, hnn, hnm, hno, hc1, hc2⟩ := id hI.le
  refine Ct_of [some (.ref (ad 0))] (by decide) rfl rfl (Nat.le_of_ble_eq_true rfl) rfl rfl (fun X hX h => ?_)
  subst hX
  refine j_aload0 (pc := 0) h dX7_snapshot_0 ?_
  refine j_getf (pc := 1) h dX7_snapshot_1 (f0) fl_X7_33 rfl ?_
  refine j_aload0 (pc := 4) h dX7_snapshot_4 ?_
  refine j_getf (pc := 5) h dX7_snapshot_5 (f0) fl_X7_19 rfl ?_
  refine j_ldc2 (pc := 8) h dX7_snapshot_8 kc_X7_131 ?_
  refine j_callVr (pc := 11) h dX7_snapshot_11 (k_X0_hadBy f5 f6 fp hfl hal) mv_X7_156 (f5) rfl rfl (by decide) (Nat.le_of_ble_eq_true rfl) (Nat.le_of_ble_eq_true rfl) (Nat.le_of_ble_eq_true rfl) ?_
  refine j_callVr (pc := 14) h dX7_snapshot_14 (k_X5_add_no f10 f11 hlo) mv_X7_169 (f10) rfl rfl (by decide) (Nat.le_of_ble_eq_true rfl) (Nat.le_of_ble_eq_true rfl) (Nat.le_of_ble_eq_true rfl) ?_
  refine j_iretr (pc := 17) h dX7_snapshot_17 (rfl)
theorem k_X7_snapshot {a : Nat} (w : CW g ad σ ρ C) (hI : Inv σ) (ha : a < 8) (hb : σ.sb a = false) (hlo : ∀ i, i < a → σ.sb i = true) : Ct l g yX7_snapshot cX7_snapshot 1 (some .int) 3 0 0 [.ref (ad 0)] ad C (PCl g ad C (.int (nI a)) (sSn σ a)) := by
  obtain ⟨f0, f1, f2, f3, f4, f5, f6, f7, f8, f9, f10, f11, f12, f13, f14, f15, f16, f17, f18, f19, hal, hfn, fp, fq, ffr⟩ := id w
  obtain ⟨hf1, hf2, hfl, hnn, hnm, hno, hc1, hc2⟩ := id hI.le
  refine Ct_of [some (.ref (ad 0))] (by decide) rfl rfl (Nat.le_of_ble_eq_true rfl) rfl rfl (fun X hX h => ?_)
  subst hX
  refine j_aload0 (pc := 0) h dX7_snapshot_0 ?_
  refine j_getf (pc := 1) h dX7_snapshot_1 (f0) fl_X7_33 rfl ?_
  refine j_aload0 (pc := 4) h dX7_snapshot_4 ?_
  refine j_getf (pc := 5) h dX7_snapshot_5 (f0) fl_X7_19 rfl ?_
  refine j_ldc2 (pc := 8) h dX7_snapshot_8 kc_X7_131 ?_
  refine j_callVr (pc := 11) h dX7_snapshot_11 (k_X0_hadBy f5 f6 fp hfl hal) mv_X7_156 (f5) rfl rfl (by decide) (Nat.le_of_ble_eq_true rfl) (Nat.le_of_ble_eq_true rfl) (Nat.le_of_ble_eq_true rfl) ?_
  refine j_topl (hb_all hI) ?_
  refine j_callV (pc := 14) h dX7_snapshot_14 (k_X5_add f10 f11 f12 ha hb hlo) mv_X7_169 (f10) rfl rfl (by decide) (Nat.le_of_ble_eq_true rfl) (Nat.le_of_ble_eq_true rfl) (Nat.le_of_ble_eq_true rfl) (fun v14 ad14 C14 hp14 => ?_)
  obtain ⟨rfl, rfl, rfl⟩ := hp14
  refine j_iret (pc := 17) h dX7_snapshot_17 (PCl_lo (ρ' := ρ) ⟨f0, f1, f2, f3, f4, f5, f6, f7, f8, f9, f10, eZ_c bF_up1, rfl, f13, f14, f15, f16, f17, f18, f19, hal, hfn, fun i hi => ((frL_up (frL_up (frL_rf C) (by decide)) (by decide)) _ (by omega)).trans (fp i hi), fun i hi => (fq i hi).imp (fun pl q => ⟨((frL_up (frL_up (frL_rf C) (by decide)) (by decide)) _ (by omega)).trans q.1, q.2⟩), fun j hj => ((frL_up (frL_up (frL_rf C) (by decide)) (by decide)) j (Nat.le_trans (by omega) hj)).trans (ffr j hj)⟩ (frL_up (frL_up (frL_rf C) (by decide)) (by decide)))
theorem k_X7_drop_no {x : Int32} (w : CW g ad σ ρ C) (hI : Inv σ) (hx : inN x 8 = false ∨ ∃ s, s < 8 ∧ x = nI s ∧ σ.sb s = false) : Cr l g yX7_drop cX7_drop 3 (some .int) 6 [.ref (ad 0), .int x] ad C (.int (-1)) := by
  obtain ⟨f0, f1, f2, f3, f4, f5, f6, f7, f8, f9, f10, f11, f12, f13, f14, f15, f16, f17, f18, f19, hal, hfn, fp, fq, ffr⟩ := id w
  obtain ⟨hf1, hf2, hfl, hnn, hnm, hno, hc1, hc2⟩ := id hI.le
  refine Ct_of [some (.ref (ad 0)), some (.int x), none] (by decide) rfl rfl (Nat.le_of_ble_eq_true rfl) rfl rfl (fun X hX h => ?_)
  subst hX
  rcases id hx with h1 | ⟨s, hs, rfl, h1⟩
  · refine j_aload0 (pc := 0) h dX7_drop_0 ?_
    refine j_iload1 (pc := 1) h dX7_drop_1 ?_
    refine j_callVr (pc := 2) h dX7_drop_2 (k_X7_heldAlone_no w hI hx) mv_X7_171 (f0) rfl rfl (by decide) (Nat.le_of_ble_eq_true rfl) (Nat.le_of_ble_eq_true rfl) (Nat.le_of_ble_eq_true rfl) ?_
    refine j_istore2 (pc := 5) h dX7_drop_5 rfl ?_
    refine j_aload0 (pc := 6) h dX7_drop_6 ?_
    refine j_getf (pc := 7) h dX7_drop_7 (f0) fl_X7_33 rfl ?_
    refine j_iload1 (pc := 10) h dX7_drop_10 ?_
    refine j_callV (pc := 11) h dX7_drop_11 (k_X5_remove_no f10 h1) mv_X7_174 (f10) rfl rfl (by decide) (Nat.le_of_ble_eq_true rfl) (Nat.le_of_ble_eq_true rfl) (Nat.le_of_ble_eq_true rfl) (fun v11 ad11 C11 hp11 => ?_)
    obtain ⟨rfl, rfl, rfl⟩ := hp11
    refine j_iload2 (pc := 14) h dX7_drop_14 ?_
    refine j_iretr (pc := 15) h dX7_drop_15 (rfl)
  · refine j_aload0 (pc := 0) h dX7_drop_0 ?_
    refine j_iload1 (pc := 1) h dX7_drop_1 ?_
    refine j_callVr (pc := 2) h dX7_drop_2 (k_X7_heldAlone_no w hI hx) mv_X7_171 (f0) rfl rfl (by decide) (Nat.le_of_ble_eq_true rfl) (Nat.le_of_ble_eq_true rfl) (Nat.le_of_ble_eq_true rfl) ?_
    refine j_istore2 (pc := 5) h dX7_drop_5 rfl ?_
    refine j_aload0 (pc := 6) h dX7_drop_6 ?_
    refine j_getf (pc := 7) h dX7_drop_7 (f0) fl_X7_33 rfl ?_
    refine j_iload1 (pc := 10) h dX7_drop_10 ?_
    refine j_callV (pc := 11) h dX7_drop_11 (k_X5_remove_f f10 f11 hs h1) mv_X7_174 (f10) rfl rfl (by decide) (Nat.le_of_ble_eq_true rfl) (Nat.le_of_ble_eq_true rfl) (Nat.le_of_ble_eq_true rfl) (fun v11 ad11 C11 hp11 => ?_)
    obtain ⟨rfl, rfl, rfl⟩ := hp11
    refine j_iload2 (pc := 14) h dX7_drop_14 ?_
    refine j_iretr (pc := 15) h dX7_drop_15 (rfl)
theorem k_X7_drop {s : Nat} (w : CW g ad σ ρ C) (hI : Inv σ) (hs : s < 8) (hx : σ.sb s = true) : Ct l g yX7_drop cX7_drop 3 (some .int) 6 0 0 [.ref (ad 0), .int (nI s)] ad C (PCl g ad C (.int (nI (alS σ s))) (sDr σ s)) := by
  obtain ⟨f0, f1, f2, f3, f4, f5, f6, f7, f8, f9, f10, f11, f12, f13, f14, f15, f16, f17, f18, f19, hal, hfn, fp, fq, ffr⟩ := id w
  obtain ⟨hf1, hf2, hfl, hnn, hnm, hno, hc1, hc2⟩ := id hI.le
  refine Ct_of [some (.ref (ad 0)), some (.int (nI s)), none] (by decide) rfl rfl (Nat.le_of_ble_eq_true rfl) rfl rfl (fun X hX h => ?_)
  subst hX
  refine j_aload0 (pc := 0) h dX7_drop_0 ?_
  refine j_iload1 (pc := 1) h dX7_drop_1 ?_
  refine j_callVr (pc := 2) h dX7_drop_2 (k_X7_heldAlone w hI hs hx) mv_X7_171 (f0) rfl rfl (by decide) (Nat.le_of_ble_eq_true rfl) (Nat.le_of_ble_eq_true rfl) (Nat.le_of_ble_eq_true rfl) ?_
  refine j_istore2 (pc := 5) h dX7_drop_5 rfl ?_
  refine j_aload0 (pc := 6) h dX7_drop_6 ?_
  refine j_getf (pc := 7) h dX7_drop_7 (f0) fl_X7_33 rfl ?_
  refine j_iload1 (pc := 10) h dX7_drop_10 ?_
  refine j_callV (pc := 11) h dX7_drop_11 (k_X5_remove f10 f11 hs hx) mv_X7_174 (f10) rfl rfl (by decide) (Nat.le_of_ble_eq_true rfl) (Nat.le_of_ble_eq_true rfl) (Nat.le_of_ble_eq_true rfl) (fun v11 ad11 C11 hp11 => ?_)
  obtain ⟨rfl, rfl, rfl⟩ := hp11
  refine j_iload2 (pc := 14) h dX7_drop_14 ?_
  refine j_iret (pc := 15) h dX7_drop_15 (PCl_lo (ρ' := ρ) ⟨f0, f1, f2, f3, f4, f5, f6, f7, f8, f9, f10, eZ_c bF_up0, f12, f13, f14, f15, f16, f17, f18, f19, hal, hfn, fun i hi => ((frL_up (frL_rf C) (by decide)) _ (by omega)).trans (fp i hi), fun i hi => (fq i hi).imp (fun pl q => ⟨((frL_up (frL_rf C) (by decide)) _ (by omega)).trans q.1, q.2⟩), fun j hj => ((frL_up (frL_rf C) (by decide)) j (Nat.le_trans (by omega) hj)).trans (ffr j hj)⟩ (frL_up (frL_rf C) (by decide)))
theorem k_X7_holds_no {x : Int32} (w : CW g ad σ ρ C) (hI : Inv σ) (hx : rng x (nI 1) (nI 60) = false ∨ x < nI (pcn (had σ))) : Cr l g yX7_holds cX7_holds 2 (some .boolean) 5 [.ref (ad 0), .int x] ad C (.int (bI false)) := by
  obtain ⟨f0, f1, f2, f3, f4, f5, f6, f7, f8, f9, f10, f11, f12, f13, f14, f15, f16, f17, f18, f19, hal, hfn, fp, fq, ffr⟩ := id w
  obtain ⟨hf1, hf2, hfl, hnn, hnm, hno, hc1, hc2⟩ := id hI.le
  refine Ct_of [some (.ref (ad 0)), some (.int x)] (by decide) rfl rfl (Nat.le_of_ble_eq_true rfl) rfl rfl (fun X hX h => ?_)
  subst hX
  refine j_iload1 (pc := 0) h dX7_holds_0 ?_
  refine j_iconst (pc := 1) h dX7_holds_1 ic_1 ?_
  refine j_icmp_lt (pc := 2) (tgt := 22) h dX7_holds_2 (by decide) (fun c2 => ?_) (fun c2 => ?_)
  · refine j_iconst (pc := 22) h dX7_holds_22 ic_0 ?_
    refine j_zretr (pc := 23) h dX7_holds_23 (by decide) (rfl)
  · refine j_iload1 (pc := 5) h dX7_holds_5 ?_
    refine j_bipush (pc := 6) h dX7_holds_6 bp_60 ?_
    refine j_icmp_gt (pc := 8) (tgt := 22) h dX7_holds_8 (by decide) (fun c8 => ?_) (fun c8 => ?_)
    · refine j_iconst (pc := 22) h dX7_holds_22 ic_0 ?_
      refine j_zretr (pc := 23) h dX7_holds_23 (by decide) (rfl)
    · refine j_aload0 (pc := 11) h dX7_holds_11 ?_
      refine j_callVr (pc := 12) h dX7_holds_12 (k_X7_blocksHad w hI) mv_X7_121 (f0) rfl rfl (by decide) (Nat.le_of_ble_eq_true rfl) (Nat.le_of_ble_eq_true rfl) (Nat.le_of_ble_eq_true rfl) ?_
      refine j_callSr (pc := 15) h dX7_holds_15 (k_J13_bitCount_95d88) ms_X7_125 rfl rfl (by decide) (Nat.le_of_ble_eq_true rfl) (Nat.le_of_ble_eq_true rfl) (Nat.le_of_ble_eq_true rfl) ?_
      refine j_iload1 (pc := 18) h dX7_holds_18 ?_
      refine j_icmp_le (pc := 19) (tgt := 24) h dX7_holds_19 (by decide) (fun c19 => absurd c19 (hol_no c2 c8 hx)) (fun c19 => ?_)
      refine j_iconst (pc := 22) h dX7_holds_22 ic_0 ?_
      refine j_zretr (pc := 23) h dX7_holds_23 (by decide) (rfl)
theorem k_X7_holds {n : Nat} (w : CW g ad σ ρ C) (hI : Inv σ) (h1 : 1 ≤ n) (h2 : n ≤ 60) (hx : pcn (had σ) ≤ n) : Ct l g yX7_holds cX7_holds 2 (some .boolean) 5 0 0 [.ref (ad 0), .int (nI n)] ad C (PCl g ad C (.int (bI true)) (sHo σ n)) := by
  obtain ⟨f0, f1, f2, f3, f4, f5, f6, f7, f8, f9, f10, f11, f12, f13, f14, f15, f16, f17, f18, f19, hal, hfn, fp, fq, ffr⟩ := id w
  obtain ⟨hf1, hf2, hfl, hnn, hnm, hno, hc1, hc2⟩ := id hI.le
  refine Ct_of [some (.ref (ad 0)), some (.int (nI n))] (by decide) rfl rfl (Nat.le_of_ble_eq_true rfl) rfl rfl (fun X hX h => ?_)
  subst hX
  refine j_iload1 (pc := 0) h dX7_holds_0 ?_
  refine j_iconst (pc := 1) h dX7_holds_1 ic_1 ?_
  refine j_icmp_lt (pc := 2) (tgt := 22) h dX7_holds_2 (by decide) (fun c2 => absurd c2 (nI_nlt h1 (by omega))) (fun c2 => ?_)
  refine j_iload1 (pc := 5) h dX7_holds_5 ?_
  refine j_bipush (pc := 6) h dX7_holds_6 bp_60 ?_
  refine j_icmp_gt (pc := 8) (tgt := 22) h dX7_holds_8 (by decide) (fun c8 => absurd c8 (nI_nlt h2 (by omega))) (fun c8 => ?_)
  refine j_aload0 (pc := 11) h dX7_holds_11 ?_
  refine j_callVr (pc := 12) h dX7_holds_12 (k_X7_blocksHad w hI) mv_X7_121 (f0) rfl rfl (by decide) (Nat.le_of_ble_eq_true rfl) (Nat.le_of_ble_eq_true rfl) (Nat.le_of_ble_eq_true rfl) ?_
  refine j_callSr (pc := 15) h dX7_holds_15 (k_J13_bitCount_95d88) ms_X7_125 rfl rfl (by decide) (Nat.le_of_ble_eq_true rfl) (Nat.le_of_ble_eq_true rfl) (Nat.le_of_ble_eq_true rfl) ?_
  refine j_iload1 (pc := 18) h dX7_holds_18 ?_
  refine j_icmp_le (pc := 19) (tgt := 24) h dX7_holds_19 (by decide) (fun c19 => ?_) (fun c19 => absurd (nI_le hx (by omega)) c19)
  refine j_aload0 (pc := 24) h dX7_holds_24 ?_
  refine j_iload1 (pc := 25) h dX7_holds_25 ?_
  refine j_putv (pc := 26) h dX7_holds_26 (f0) pl_X7_55 rfl rfl (Nat.le_of_ble_eq_true rfl) ?_
  refine j_iconst (pc := 29) h dX7_holds_29 ic_1 ?_
  refine j_zret (pc := 30) h dX7_holds_30 (nar_1) (PCl_lo (ρ' := ρ) ⟨rfl, f1, f2, f3, f4, f5, f6, f7, f8, f9, f10, f11, f12, f13, f14, f15, f16, f17, f18, f19, hal, hfn, fun i hi => ((frL_up (frL_rf C) (by decide)) _ (by omega)).trans (fp i hi), fun i hi => (fq i hi).imp (fun pl q => ⟨((frL_up (frL_rf C) (by decide)) _ (by omega)).trans q.1, q.2⟩), fun j hj => ((frL_up (frL_rf C) (by decide)) j (Nat.le_trans (by omega) hj)).trans (ffr j hj)⟩ (frL_up (frL_rf C) (by decide)))
end CC

