/-! The reference: writes, snapshots, marks -/
theorem rI_m1 {σ : Sg} (hI : Inv σ) {q : Nat} : rI (σ.rb q) = -1 ↔ σ.rb q = none := by
  cases e : σ.rb q with
  | none => exact ⟨fun _ => rfl, fun _ => rfl⟩
  | some b => exact ⟨fun h => absurd h (nI_m1 (by have := hI.blk q b e; omega)), fun h => by cases h⟩
section MX
variable {l : Launch} {g : GG} {ad : AD} {C : CC} {σ : Sg} {τ : Tm}
theorem cw1 {v : Int64} {i : Nat} (hi : i < 64) : lg_cmp ((v >>> ((nI i).toInt64 &&& 63)) &&& 1) 1 = 0 ↔ v.toBitVec.getLsbD i = true := by
  rw [lg_cmp0, shr1 v hi]
  cases v.toBitVec.getLsbD i <;> simp
/-- who may write where -/
def plc (σ : Sg) (x y : Int32) : Prop := ∃ i p, i < σ.nfl ∧ lv σ i = true ∧ p < cpl (σ.ln i) ∧ x = nI i ∧ y = nI p
theorem plc_cases (σ : Sg) (x y : Int32) : plc σ x y ∨ inN x σ.nfl = false ∨ ∃ i, i < σ.nfl ∧ x = nI i ∧ (lv σ i && inN y (cpl (σ.ln i))) = false := by
  rcases inN_cases x σ.nfl with h | ⟨i, hi, rfl⟩
  · exact Or.inr (Or.inl h)
  · cases e : (lv σ i && inN y (cpl (σ.ln i))) with
    | false => exact Or.inr (Or.inr ⟨i, hi, rfl, e⟩)
    | true =>
      simp at e
      obtain ⟨p, hp, rfl⟩ := inN_of e.2
      exact Or.inl ⟨i, p, hi, e.1, hp, rfl, rfl⟩
theorem k_X8_write_no {x y : Int32} (m : MW g ad σ τ C) (hI : Inv σ) (hx : inN x σ.nfl = false ∨ ∃ i, i < σ.nfl ∧ x = nI i ∧ (lv σ i && inN y (cpl (σ.ln i))) = false) : Cr l g yX8_write cX8_write 6 (some .int) 4 [.ref (ad 20), .int x, .int y] ad C (.int (-1)) := by
  obtain ⟨f20, f21, f22, f23, f24, f25, f26, f27, f28, f29, f30, f31, f32, f33, f34, f35, f36, f37, f38⟩ := id m
  obtain ⟨hf1, hf2, hfl, hnn, hnm, hno, hc1, hc2⟩ := id hI.le
  refine Ct_of [some (.ref (ad 20)), some (.int x), some (.int y), none, none, none] (by decide) rfl rfl (Nat.le_of_ble_eq_true rfl) rfl rfl (fun X hX h => ?_)
  subst hX
  rcases hx with hx | ⟨i, hi, rfl, hx⟩
  · refine j_aload0 (pc := 0) h dX8_write_0 ?_
    refine j_iload1 (pc := 1) h dX8_write_1 ?_
    refine j_iload2 (pc := 2) h dX8_write_2 ?_
    refine j_callVr (pc := 3) h dX8_write_3 (k_X8_isPlace_no m hI hx) mv_X8_116 (f20) rfl rfl (by decide) (Nat.le_of_ble_eq_true rfl) (Nat.le_of_ble_eq_true rfl) (Nat.le_of_ble_eq_true rfl) ?_
    refine j_if_neB (pc := 6) (tgt := 11) h dX8_write_6 (by decide) (fun c6 => absurd c6 (by decide)) (fun c6 => ?_)
    refine j_iconst (pc := 9) h dX8_write_9 ic_m1 ?_
    refine j_iretr (pc := 10) h dX8_write_10 (rfl)
  · refine j_aload0 (pc := 0) h dX8_write_0 ?_
    refine j_iload1 (pc := 1) h dX8_write_1 ?_
    refine j_iload2 (pc := 2) h dX8_write_2 ?_
    refine j_callVr (pc := 3) h dX8_write_3 (k_X8_isPlace m hI hi) mv_X8_116 (f20) rfl rfl (by decide) (Nat.le_of_ble_eq_true rfl) (Nat.le_of_ble_eq_true rfl) (Nat.le_of_ble_eq_true rfl) ?_
    refine j_if_neB (pc := 6) (tgt := 11) h dX8_write_6 (by decide) (fun c6 => absurd c6 (by rw [hx]; decide)) (fun c6 => ?_)
    refine j_iconst (pc := 9) h dX8_write_9 ic_m1 ?_
    refine j_iretr (pc := 10) h dX8_write_10 (rfl)
theorem k_X8_write_fu {i p : Nat} (m : MW g ad σ τ C) (hI : Inv σ) (hi : i < σ.nfl) (hl : lv σ i = true) (hp : p < cpl (σ.ln i)) (hfu : σ.cap ≤ pcn (had σ)) : Cr l g yX8_write cX8_write 6 (some .int) 4 [.ref (ad 20), .int (nI i), .int (nI p)] ad C (.int (-1)) := by
  obtain ⟨f20, f21, f22, f23, f24, f25, f26, f27, f28, f29, f30, f31, f32, f33, f34, f35, f36, f37, f38⟩ := id m
  obtain ⟨hf1, hf2, hfl, hnn, hnm, hno, hc1, hc2⟩ := id hI.le
  have hp6 := cpl_le (σ.ln i)
  have hpc := pcn_le (had σ)
  refine Ct_of [some (.ref (ad 20)), some (.int (nI i)), some (.int (nI p)), none, none, none] (by decide) rfl rfl (Nat.le_of_ble_eq_true rfl) rfl rfl (fun X hX h => ?_)
  subst hX
  refine j_aload0 (pc := 0) h dX8_write_0 ?_
  refine j_iload1 (pc := 1) h dX8_write_1 ?_
  refine j_iload2 (pc := 2) h dX8_write_2 ?_
  refine j_callVr (pc := 3) h dX8_write_3 (k_X8_isPlace m hI hi) mv_X8_116 (f20) rfl rfl (by decide) (Nat.le_of_ble_eq_true rfl) (Nat.le_of_ble_eq_true rfl) (Nat.le_of_ble_eq_true rfl) ?_
  refine j_if_neB (pc := 6) (tgt := 11) h dX8_write_6 (by decide) (fun c6 => ?_) (fun c6 => absurd c6 (by rw [hl, inN_nI (by omega)]; simp; omega))
  refine j_aload0 (pc := 11) h dX8_write_11 ?_
  refine j_callVr (pc := 12) h dX8_write_12 (k_X8_allFiles m hI) mv_X8_119 (f20) rfl rfl (by decide) (Nat.le_of_ble_eq_true rfl) (Nat.le_of_ble_eq_true rfl) (Nat.le_of_ble_eq_true rfl) ?_
  refine j_aload0 (pc := 15) h dX8_write_15 ?_
  refine j_iconst (pc := 16) h dX8_write_16 ic_m1 ?_
  refine j_callVr (pc := 17) h dX8_write_17 (k_X8_shots m hI) mv_X8_123 (f20) rfl rfl (by decide) (Nat.le_of_ble_eq_true rfl) (Nat.le_of_ble_eq_true rfl) (Nat.le_of_ble_eq_true rfl) ?_
  refine j_lor (pc := 20) h dX8_write_20 ?_
  refine j_lstore3 (pc := 21) h dX8_write_21 rfl ?_
  refine j_lload3 (pc := 22) h dX8_write_22 ?_
  refine j_callSr (pc := 23) h dX8_write_23 (k_X8_bits' (lo60_had hI)) ms_X8_126 rfl rfl (by decide) (Nat.le_of_ble_eq_true rfl) (Nat.le_of_ble_eq_true rfl) (Nat.le_of_ble_eq_true rfl) ?_
  refine j_aload0 (pc := 26) h dX8_write_26 ?_
  refine j_getf (pc := 27) h dX8_write_27 (f20) fl_X8_61 rfl ?_
  refine j_icmp_lt (pc := 30) (tgt := 35) h dX8_write_30 (by decide) (fun c30 => absurd c30 (nI_nlt hfu (by omega))) (fun c30 => ?_)
  refine j_iconst (pc := 33) h dX8_write_33 ic_m1 ?_
  refine j_iretr (pc := 34) h dX8_write_34 (rfl)
theorem k_X8_write {i p b : Nat} (m : MW g ad σ τ C) (hI : Inv σ) (hi : i < σ.nfl) (hl : lv σ i = true) (hp : p < cpl (σ.ln i)) (hfu : pcn (had σ) < σ.cap) (hb : b < 60) (hb1 : (had σ).toBitVec.getLsbD b = false) (hb2 : ∀ c, c < b → (had σ).toBitVec.getLsbD c = true) : Ct l g yX8_write cX8_write 6 (some .int) 4 0 0 [.ref (ad 20), .int (nI i), .int (nI p)] ad C (PMo g ad C (.int (nI b)) (sPu σ i p (some b))) := by
  obtain ⟨f20, f21, f22, f23, f24, f25, f26, f27, f28, f29, f30, f31, f32, f33, f34, f35, f36, f37, f38⟩ := id m
  obtain ⟨hf1, hf2, hfl, hnn, hnm, hno, hc1, hc2⟩ := id hI.le
  have hp6 := cpl_le (σ.ln i)
  have hpc := pcn_le (had σ)
  refine Ct_of [some (.ref (ad 20)), some (.int (nI i)), some (.int (nI p)), none, none, none] (by decide) rfl rfl (Nat.le_of_ble_eq_true rfl) rfl rfl (fun X hX h => ?_)
  subst hX
  have lp : ∀ n c, c + n = b → J X g 6 (QX X g 0 0 (PMo g ad C (.int (nI b)) (sPu σ i p (some b)))) 0 0 ad C 38 [some (.ref (ad 20)), some (.int (nI i)), some (.int (nI p)), some (.long (had σ)), none, some (.int (nI c))] [] := by
    intro n
    induction n with
    | zero =>
      intro c hc
      obtain rfl : c = b := by omega
      refine j_iload5 (pc := 38) h dX8_write_38 ?_
      refine j_bipush (pc := 40) h dX8_write_40 bp_60 ?_
      refine j_icmp_ge (pc := 42) (tgt := 76) h dX8_write_42 (by decide) (fun c42 => absurd c42 (nI_ge (by omega) (by omega))) (fun c42 => ?_)
      refine j_lload3 (pc := 45) h dX8_write_45 ?_
      refine j_iload5 (pc := 46) h dX8_write_46 ?_
      refine j_lshr (pc := 48) h dX8_write_48 ?_
      refine j_lconst (pc := 49) h dX8_write_49 lc_1 ?_
      refine j_land (pc := 50) h dX8_write_50 ?_
      refine j_lconst (pc := 51) h dX8_write_51 lc_1 ?_
      refine j_lcmp (pc := 52) h dX8_write_52 ?_
      refine j_if_ne (pc := 53) (tgt := 59) h dX8_write_53 (by decide) (fun c53 => ?_) (fun c53 => absurd c53 (by intro q; rw [cw1 (by omega), hb1] at q; cases q))
      refine j_aload0 (pc := 59) h dX8_write_59 ?_
      refine j_iload1 (pc := 60) h dX8_write_60 ?_
      refine j_iload2 (pc := 61) h dX8_write_61 ?_
      refine j_iload5 (pc := 62) h dX8_write_62 ?_
      refine j_callV (pc := 64) h dX8_write_64 (k_X8_puts (c := some c) m hI hi hp) mv_X8_130 (f20) rfl rfl (by decide) (Nat.le_of_ble_eq_true rfl) (Nat.le_of_ble_eq_true rfl) (Nat.le_of_ble_eq_true rfl) (fun v64 ad64 C64 hp64 => ?_)
      obtain ⟨rfl, rfl, h1, h2⟩ := hp64
      refine j_iload5 (pc := 67) h dX8_write_67 ?_
      refine j_iret (pc := 69) h dX8_write_69 (⟨rfl, rfl, ⟨τ, h1⟩, h2⟩)
    | succ n ih =>
      intro c hc
      refine j_iload5 (pc := 38) h dX8_write_38 ?_
      refine j_bipush (pc := 40) h dX8_write_40 bp_60 ?_
      refine j_icmp_ge (pc := 42) (tgt := 76) h dX8_write_42 (by decide) (fun c42 => absurd c42 (nI_ge (by omega) (by omega))) (fun c42 => ?_)
      refine j_lload3 (pc := 45) h dX8_write_45 ?_
      refine j_iload5 (pc := 46) h dX8_write_46 ?_
      refine j_lshr (pc := 48) h dX8_write_48 ?_
      refine j_lconst (pc := 49) h dX8_write_49 lc_1 ?_
      refine j_land (pc := 50) h dX8_write_50 ?_
      refine j_lconst (pc := 51) h dX8_write_51 lc_1 ?_
      refine j_lcmp (pc := 52) h dX8_write_52 ?_
      refine j_if_ne (pc := 53) (tgt := 59) h dX8_write_53 (by decide) (fun c53 => absurd ((cw1 (by omega)).mpr (hb2 c (by omega))) c53) (fun c53 => ?_)
      refine j_goto (pc := 56) (tgt := 70) h dX8_write_56 (by decide) ?_
      refine j_iinc5 (pc := 70) h dX8_write_70 rfl (inc_n _) ?_
      refine j_goto (pc := 73) (tgt := 38) h dX8_write_73 (by decide) ?_
      exact ih (c + 1) (by omega)
  refine j_aload0 (pc := 0) h dX8_write_0 ?_
  refine j_iload1 (pc := 1) h dX8_write_1 ?_
  refine j_iload2 (pc := 2) h dX8_write_2 ?_
  refine j_callVr (pc := 3) h dX8_write_3 (k_X8_isPlace m hI hi) mv_X8_116 (f20) rfl rfl (by decide) (Nat.le_of_ble_eq_true rfl) (Nat.le_of_ble_eq_true rfl) (Nat.le_of_ble_eq_true rfl) ?_
  refine j_if_neB (pc := 6) (tgt := 11) h dX8_write_6 (by decide) (fun c6 => ?_) (fun c6 => absurd c6 (by rw [hl, inN_nI (by omega)]; simp; omega))
  refine j_aload0 (pc := 11) h dX8_write_11 ?_
  refine j_callVr (pc := 12) h dX8_write_12 (k_X8_allFiles m hI) mv_X8_119 (f20) rfl rfl (by decide) (Nat.le_of_ble_eq_true rfl) (Nat.le_of_ble_eq_true rfl) (Nat.le_of_ble_eq_true rfl) ?_
  refine j_aload0 (pc := 15) h dX8_write_15 ?_
  refine j_iconst (pc := 16) h dX8_write_16 ic_m1 ?_
  refine j_callVr (pc := 17) h dX8_write_17 (k_X8_shots m hI) mv_X8_123 (f20) rfl rfl (by decide) (Nat.le_of_ble_eq_true rfl) (Nat.le_of_ble_eq_true rfl) (Nat.le_of_ble_eq_true rfl) ?_
  refine j_lor (pc := 20) h dX8_write_20 ?_
  refine j_lstore3 (pc := 21) h dX8_write_21 rfl ?_
  refine j_lload3 (pc := 22) h dX8_write_22 ?_
  refine j_callSr (pc := 23) h dX8_write_23 (k_X8_bits' (lo60_had hI)) ms_X8_126 rfl rfl (by decide) (Nat.le_of_ble_eq_true rfl) (Nat.le_of_ble_eq_true rfl) (Nat.le_of_ble_eq_true rfl) ?_
  refine j_aload0 (pc := 26) h dX8_write_26 ?_
  refine j_getf (pc := 27) h dX8_write_27 (f20) fl_X8_61 rfl ?_
  refine j_icmp_lt (pc := 30) (tgt := 35) h dX8_write_30 (by decide) (fun c30 => ?_) (fun c30 => absurd (nI_lt hfu (by omega)) c30)
  refine j_iconst (pc := 35) h dX8_write_35 ic_0 ?_
  refine j_istore5 (pc := 36) h dX8_write_36 rfl ?_
  exact lp b 0 (by omega)
theorem k_X8_hole_no {x y : Int32} (m : MW g ad σ τ C) (hI : Inv σ) (hx : inN x σ.nfl = false ∨ ∃ i, i < σ.nfl ∧ x = nI i ∧ (lv σ i && inN y (cpl (σ.ln i))) = false) : Cr l g yX8_hole cX8_hole 3 (some .boolean) 4 [.ref (ad 20), .int x, .int y] ad C (.int (bI false)) := by
  obtain ⟨f20, f21, f22, f23, f24, f25, f26, f27, f28, f29, f30, f31, f32, f33, f34, f35, f36, f37, f38⟩ := id m
  obtain ⟨hf1, hf2, hfl, hnn, hnm, hno, hc1, hc2⟩ := id hI.le
  refine Ct_of [some (.ref (ad 20)), some (.int x), some (.int y)] (by decide) rfl rfl (Nat.le_of_ble_eq_true rfl) rfl rfl (fun X hX h => ?_)
  subst hX
  rcases hx with hx | ⟨i, hi, rfl, hx⟩
  · refine j_aload0 (pc := 0) h dX8_hole_0 ?_
    refine j_iload1 (pc := 1) h dX8_hole_1 ?_
    refine j_iload2 (pc := 2) h dX8_hole_2 ?_
    refine j_callVr (pc := 3) h dX8_hole_3 (k_X8_isPlace_no m hI hx) mv_X8_116 (f20) rfl rfl (by decide) (Nat.le_of_ble_eq_true rfl) (Nat.le_of_ble_eq_true rfl) (Nat.le_of_ble_eq_true rfl) ?_
    refine j_if_neB (pc := 6) (tgt := 11) h dX8_hole_6 (by decide) (fun c6 => absurd c6 (by decide)) (fun c6 => ?_)
    refine j_iconst (pc := 9) h dX8_hole_9 ic_0 ?_
    refine j_zretr (pc := 10) h dX8_hole_10 (by decide) (rfl)
  · refine j_aload0 (pc := 0) h dX8_hole_0 ?_
    refine j_iload1 (pc := 1) h dX8_hole_1 ?_
    refine j_iload2 (pc := 2) h dX8_hole_2 ?_
    refine j_callVr (pc := 3) h dX8_hole_3 (k_X8_isPlace m hI hi) mv_X8_116 (f20) rfl rfl (by decide) (Nat.le_of_ble_eq_true rfl) (Nat.le_of_ble_eq_true rfl) (Nat.le_of_ble_eq_true rfl) ?_
    refine j_if_neB (pc := 6) (tgt := 11) h dX8_hole_6 (by decide) (fun c6 => absurd c6 (by rw [hx]; decide)) (fun c6 => ?_)
    refine j_iconst (pc := 9) h dX8_hole_9 ic_0 ?_
    refine j_zretr (pc := 10) h dX8_hole_10 (by decide) (rfl)
theorem k_X8_hole {i p : Nat} (m : MW g ad σ τ C) (hI : Inv σ) (hi : i < σ.nfl) (hl : lv σ i = true) (hp : p < cpl (σ.ln i)) : Ct l g yX8_hole cX8_hole 3 (some .boolean) 4 0 0 [.ref (ad 20), .int (nI i), .int (nI p)] ad C (PMo g ad C (.int (bI true)) (sPu σ i p none)) := by
  obtain ⟨f20, f21, f22, f23, f24, f25, f26, f27, f28, f29, f30, f31, f32, f33, f34, f35, f36, f37, f38⟩ := id m
  obtain ⟨hf1, hf2, hfl, hnn, hnm, hno, hc1, hc2⟩ := id hI.le
  have hp6 := cpl_le (σ.ln i)
  refine Ct_of [some (.ref (ad 20)), some (.int (nI i)), some (.int (nI p))] (by decide) rfl rfl (Nat.le_of_ble_eq_true rfl) rfl rfl (fun X hX h => ?_)
  subst hX
  refine j_aload0 (pc := 0) h dX8_hole_0 ?_
  refine j_iload1 (pc := 1) h dX8_hole_1 ?_
  refine j_iload2 (pc := 2) h dX8_hole_2 ?_
  refine j_callVr (pc := 3) h dX8_hole_3 (k_X8_isPlace m hI hi) mv_X8_116 (f20) rfl rfl (by decide) (Nat.le_of_ble_eq_true rfl) (Nat.le_of_ble_eq_true rfl) (Nat.le_of_ble_eq_true rfl) ?_
  refine j_if_neB (pc := 6) (tgt := 11) h dX8_hole_6 (by decide) (fun c6 => ?_) (fun c6 => absurd c6 (by rw [hl, inN_nI (by omega)]; simp; omega))
  refine j_aload0 (pc := 11) h dX8_hole_11 ?_
  refine j_iload1 (pc := 12) h dX8_hole_12 ?_
  refine j_iload2 (pc := 13) h dX8_hole_13 ?_
  refine j_iconst (pc := 14) h dX8_hole_14 ic_m1 ?_
  refine j_callV (pc := 15) h dX8_hole_15 (k_X8_puts (c := none) m hI hi hp) mv_X8_130 (f20) rfl rfl (by decide) (Nat.le_of_ble_eq_true rfl) (Nat.le_of_ble_eq_true rfl) (Nat.le_of_ble_eq_true rfl) (fun v15 ad15 C15 hp15 => ?_)
  obtain ⟨rfl, rfl, h1, h2⟩ := hp15
  refine j_iconst (pc := 18) h dX8_hole_18 ic_1 ?_
  refine j_zret (pc := 19) h dX8_hole_19 (nar_1) (⟨rfl, rfl, ⟨τ, h1⟩, h2⟩)
theorem k_X8_share_no {x y z u : Int32} (m : MW g ad σ τ C) (hI : Inv σ) (hx : inN x σ.nfl = false ∨ ∃ i, i < σ.nfl ∧ x = nI i ∧ (lv σ i && inN y (cpl (σ.ln i))) = false) : Cr l g yX8_share cX8_share 5 (some .boolean) 5 [.ref (ad 20), .int x, .int y, .int z, .int u] ad C (.int (bI false)) := by
  obtain ⟨f20, f21, f22, f23, f24, f25, f26, f27, f28, f29, f30, f31, f32, f33, f34, f35, f36, f37, f38⟩ := id m
  obtain ⟨hf1, hf2, hfl, hnn, hnm, hno, hc1, hc2⟩ := id hI.le
  refine Ct_of [some (.ref (ad 20)), some (.int x), some (.int y), some (.int z), some (.int u)] (by decide) rfl rfl (Nat.le_of_ble_eq_true rfl) rfl rfl (fun X hX h => ?_)
  subst hX
  rcases hx with hx | ⟨i, hi, rfl, hx⟩
  · refine j_aload0 (pc := 0) h dX8_share_0 ?_
    refine j_iload1 (pc := 1) h dX8_share_1 ?_
    refine j_iload2 (pc := 2) h dX8_share_2 ?_
    refine j_callVr (pc := 3) h dX8_share_3 (k_X8_isPlace_no m hI hx) mv_X8_116 (f20) rfl rfl (by decide) (Nat.le_of_ble_eq_true rfl) (Nat.le_of_ble_eq_true rfl) (Nat.le_of_ble_eq_true rfl) ?_
    refine j_if_eqB (pc := 6) (tgt := 20) h dX8_share_6 (by decide) (fun c6 => ?_) (fun c6 => absurd c6 (by decide))
    refine j_iconst (pc := 20) h dX8_share_20 ic_0 ?_
    refine j_zretr (pc := 21) h dX8_share_21 (by decide) (rfl)
  · refine j_aload0 (pc := 0) h dX8_share_0 ?_
    refine j_iload1 (pc := 1) h dX8_share_1 ?_
    refine j_iload2 (pc := 2) h dX8_share_2 ?_
    refine j_callVr (pc := 3) h dX8_share_3 (k_X8_isPlace m hI hi) mv_X8_116 (f20) rfl rfl (by decide) (Nat.le_of_ble_eq_true rfl) (Nat.le_of_ble_eq_true rfl) (Nat.le_of_ble_eq_true rfl) ?_
    refine j_if_eqB (pc := 6) (tgt := 20) h dX8_share_6 (by decide) (fun c6 => ?_) (fun c6 => absurd c6 (by rw [hx]; decide))
    refine j_iconst (pc := 20) h dX8_share_20 ic_0 ?_
    refine j_zretr (pc := 21) h dX8_share_21 (by decide) (rfl)
/-- there is a block at a place of a file -/
def blkAt (σ : Sg) (z u : Int32) (b : Nat) : Prop := ∃ j q, j < σ.nfl ∧ lv σ j = true ∧ q < σ.ln j ∧ z = nI j ∧ u = nI q ∧ σ.rb (60 * j + q) = some b
theorem blk_cases (σ : Sg) (z u : Int32) : (∃ b, blkAt σ z u b) ∨ inN z σ.nfl = false ∨ (∃ j, j < σ.nfl ∧ z = nI j ∧ (lv σ j && inN u (σ.ln j)) = false) ∨ ∃ j q, j < σ.nfl ∧ lv σ j = true ∧ q < σ.ln j ∧ z = nI j ∧ u = nI q ∧ σ.rb (60 * j + q) = none := by
  rcases inN_cases z σ.nfl with h | ⟨j, hj, rfl⟩
  · exact Or.inr (Or.inl h)
  · cases e : (lv σ j && inN u (σ.ln j)) with
    | false => exact Or.inr (Or.inr (Or.inl ⟨j, hj, rfl, e⟩))
    | true =>
      simp at e
      obtain ⟨q, hq, rfl⟩ := inN_of e.2
      cases er : σ.rb (60 * j + q) with
      | none => exact Or.inr (Or.inr (Or.inr ⟨j, q, hj, e.1, hq, rfl, rfl, er⟩))
      | some b => exact Or.inl ⟨b, j, q, hj, e.1, hq, rfl, rfl, er⟩
theorem k_X8_share_nb {i p : Nat} {z u : Int32} (m : MW g ad σ τ C) (hI : Inv σ) (hi : i < σ.nfl) (hl : lv σ i = true) (hp : p < cpl (σ.ln i)) (hx : inN z σ.nfl = false ∨ (∃ j, j < σ.nfl ∧ z = nI j ∧ (lv σ j && inN u (σ.ln j)) = false) ∨ ∃ j q, j < σ.nfl ∧ lv σ j = true ∧ q < σ.ln j ∧ z = nI j ∧ u = nI q ∧ σ.rb (60 * j + q) = none) : Cr l g yX8_share cX8_share 5 (some .boolean) 5 [.ref (ad 20), .int (nI i), .int (nI p), .int z, .int u] ad C (.int (bI false)) := by
  obtain ⟨f20, f21, f22, f23, f24, f25, f26, f27, f28, f29, f30, f31, f32, f33, f34, f35, f36, f37, f38⟩ := id m
  obtain ⟨hf1, hf2, hfl, hnn, hnm, hno, hc1, hc2⟩ := id hI.le
  have hp6 := cpl_le (σ.ln i)
  refine Ct_of [some (.ref (ad 20)), some (.int (nI i)), some (.int (nI p)), some (.int z), some (.int u)] (by decide) rfl rfl (Nat.le_of_ble_eq_true rfl) rfl rfl (fun X hX h => ?_)
  subst hX
  rcases hx with hx | ⟨j, hj, rfl, hx⟩ | ⟨j, q, hj, hlj, hq, rfl, rfl, hx⟩
  · refine j_aload0 (pc := 0) h dX8_share_0 ?_
    refine j_iload1 (pc := 1) h dX8_share_1 ?_
    refine j_iload2 (pc := 2) h dX8_share_2 ?_
    refine j_callVr (pc := 3) h dX8_share_3 (k_X8_isPlace m hI hi) mv_X8_116 (f20) rfl rfl (by decide) (Nat.le_of_ble_eq_true rfl) (Nat.le_of_ble_eq_true rfl) (Nat.le_of_ble_eq_true rfl) ?_
    refine j_if_eqB (pc := 6) (tgt := 20) h dX8_share_6 (by decide) (fun c6 => absurd c6 (by rw [hl, inN_nI (by omega)]; simp; omega)) (fun c6 => ?_)
    refine j_aload0 (pc := 9) h dX8_share_9 ?_
    refine j_iload3 (pc := 10) h dX8_share_10 ?_
    refine j_iload4 (pc := 11) h dX8_share_11 ?_
    refine j_callVr (pc := 13) h dX8_share_13 (k_X8_block_no m hI hx) mv_X8_134 (f20) rfl rfl (by decide) (Nat.le_of_ble_eq_true rfl) (Nat.le_of_ble_eq_true rfl) (Nat.le_of_ble_eq_true rfl) ?_
    refine j_iconst (pc := 16) h dX8_share_16 ic_m1 ?_
    refine j_icmp_ne (pc := 17) (tgt := 22) h dX8_share_17 (by decide) (fun c17 => absurd (rfl) c17) (fun c17 => ?_)
    refine j_iconst (pc := 20) h dX8_share_20 ic_0 ?_
    refine j_zretr (pc := 21) h dX8_share_21 (by decide) (rfl)
  · refine j_aload0 (pc := 0) h dX8_share_0 ?_
    refine j_iload1 (pc := 1) h dX8_share_1 ?_
    refine j_iload2 (pc := 2) h dX8_share_2 ?_
    refine j_callVr (pc := 3) h dX8_share_3 (k_X8_isPlace m hI hi) mv_X8_116 (f20) rfl rfl (by decide) (Nat.le_of_ble_eq_true rfl) (Nat.le_of_ble_eq_true rfl) (Nat.le_of_ble_eq_true rfl) ?_
    refine j_if_eqB (pc := 6) (tgt := 20) h dX8_share_6 (by decide) (fun c6 => absurd c6 (by rw [hl, inN_nI (by omega)]; simp; omega)) (fun c6 => ?_)
    refine j_aload0 (pc := 9) h dX8_share_9 ?_
    refine j_iload3 (pc := 10) h dX8_share_10 ?_
    refine j_iload4 (pc := 11) h dX8_share_11 ?_
    refine j_callVr (pc := 13) h dX8_share_13 (k_X8_block_n m hI hj hx) mv_X8_134 (f20) rfl rfl (by decide) (Nat.le_of_ble_eq_true rfl) (Nat.le_of_ble_eq_true rfl) (Nat.le_of_ble_eq_true rfl) ?_
    refine j_iconst (pc := 16) h dX8_share_16 ic_m1 ?_
    refine j_icmp_ne (pc := 17) (tgt := 22) h dX8_share_17 (by decide) (fun c17 => absurd (rfl) c17) (fun c17 => ?_)
    refine j_iconst (pc := 20) h dX8_share_20 ic_0 ?_
    refine j_zretr (pc := 21) h dX8_share_21 (by decide) (rfl)
  · refine j_aload0 (pc := 0) h dX8_share_0 ?_
    refine j_iload1 (pc := 1) h dX8_share_1 ?_
    refine j_iload2 (pc := 2) h dX8_share_2 ?_
    refine j_callVr (pc := 3) h dX8_share_3 (k_X8_isPlace m hI hi) mv_X8_116 (f20) rfl rfl (by decide) (Nat.le_of_ble_eq_true rfl) (Nat.le_of_ble_eq_true rfl) (Nat.le_of_ble_eq_true rfl) ?_
    refine j_if_eqB (pc := 6) (tgt := 20) h dX8_share_6 (by decide) (fun c6 => absurd c6 (by rw [hl, inN_nI (by omega)]; simp; omega)) (fun c6 => ?_)
    refine j_aload0 (pc := 9) h dX8_share_9 ?_
    refine j_iload3 (pc := 10) h dX8_share_10 ?_
    refine j_iload4 (pc := 11) h dX8_share_11 ?_
    refine j_callVr (pc := 13) h dX8_share_13 (k_X8_block m hI hj hlj hq) mv_X8_134 (f20) rfl rfl (by decide) (Nat.le_of_ble_eq_true rfl) (Nat.le_of_ble_eq_true rfl) (Nat.le_of_ble_eq_true rfl) ?_
    refine j_iconst (pc := 16) h dX8_share_16 ic_m1 ?_
    refine j_icmp_ne (pc := 17) (tgt := 22) h dX8_share_17 (by decide) (fun c17 => absurd (by rw [hx]; rfl) c17) (fun c17 => ?_)
    refine j_iconst (pc := 20) h dX8_share_20 ic_0 ?_
    refine j_zretr (pc := 21) h dX8_share_21 (by decide) (rfl)
theorem k_X8_share {i p b : Nat} {z u : Int32} (m : MW g ad σ τ C) (hI : Inv σ) (hi : i < σ.nfl) (hl : lv σ i = true) (hp : p < cpl (σ.ln i)) (hx : blkAt σ z u b) : Ct l g yX8_share cX8_share 5 (some .boolean) 5 0 0 [.ref (ad 20), .int (nI i), .int (nI p), .int z, .int u] ad C (PMo g ad C (.int (bI true)) (sPu σ i p (some b))) := by
  obtain ⟨f20, f21, f22, f23, f24, f25, f26, f27, f28, f29, f30, f31, f32, f33, f34, f35, f36, f37, f38⟩ := id m
  obtain ⟨hf1, hf2, hfl, hnn, hnm, hno, hc1, hc2⟩ := id hI.le
  have hp6 := cpl_le (σ.ln i)
  obtain ⟨j, q, hj, hlj, hq, rfl, rfl, hx⟩ := hx
  have hb := hI.blk _ _ hx
  have e : rI (σ.rb (60 * j + q)) = rI (some b) := by rw [hx]
  refine Ct_of [some (.ref (ad 20)), some (.int (nI i)), some (.int (nI p)), some (.int (nI j)), some (.int (nI q))] (by decide) rfl rfl (Nat.le_of_ble_eq_true rfl) rfl rfl (fun X hX h => ?_)
  subst hX
  refine j_aload0 (pc := 0) h dX8_share_0 ?_
  refine j_iload1 (pc := 1) h dX8_share_1 ?_
  refine j_iload2 (pc := 2) h dX8_share_2 ?_
  refine j_callVr (pc := 3) h dX8_share_3 (k_X8_isPlace m hI hi) mv_X8_116 (f20) rfl rfl (by decide) (Nat.le_of_ble_eq_true rfl) (Nat.le_of_ble_eq_true rfl) (Nat.le_of_ble_eq_true rfl) ?_
  refine j_if_eqB (pc := 6) (tgt := 20) h dX8_share_6 (by decide) (fun c6 => absurd c6 (by rw [hl, inN_nI (by omega)]; simp; omega)) (fun c6 => ?_)
  refine j_aload0 (pc := 9) h dX8_share_9 ?_
  refine j_iload3 (pc := 10) h dX8_share_10 ?_
  refine j_iload4 (pc := 11) h dX8_share_11 ?_
  refine j_callVr (pc := 13) h dX8_share_13 (k_X8_block m hI hj hlj hq) mv_X8_134 (f20) rfl rfl (by decide) (Nat.le_of_ble_eq_true rfl) (Nat.le_of_ble_eq_true rfl) (Nat.le_of_ble_eq_true rfl) ?_
  refine j_iconst (pc := 16) h dX8_share_16 ic_m1 ?_
  refine j_icmp_ne (pc := 17) (tgt := 22) h dX8_share_17 (by decide) (fun c17 => ?_) (fun c17 => absurd c17 (by rw [hx]; exact nI_m1 (by omega)))
  refine j_aload0 (pc := 22) h dX8_share_22 ?_
  refine j_iload1 (pc := 23) h dX8_share_23 ?_
  refine j_iload2 (pc := 24) h dX8_share_24 ?_
  refine j_aload0 (pc := 25) h dX8_share_25 ?_
  refine j_iload3 (pc := 26) h dX8_share_26 ?_
  refine j_iload4 (pc := 27) h dX8_share_27 ?_
  refine j_callVr (pc := 29) h dX8_share_29 (k_X8_block m hI hj hlj hq) mv_X8_134 (f20) rfl rfl (by decide) (Nat.le_of_ble_eq_true rfl) (Nat.le_of_ble_eq_true rfl) (Nat.le_of_ble_eq_true rfl) ?_
  refine j_topi (e) ?_
  refine j_callV (pc := 32) h dX8_share_32 (k_X8_puts (c := some b) m hI hi hp) mv_X8_130 (f20) rfl rfl (by decide) (Nat.le_of_ble_eq_true rfl) (Nat.le_of_ble_eq_true rfl) (Nat.le_of_ble_eq_true rfl) (fun v32 ad32 C32 hp32 => ?_)
  obtain ⟨rfl, rfl, h1, h2⟩ := hp32
  refine j_iconst (pc := 35) h dX8_share_35 ic_1 ?_
  refine j_zret (pc := 36) h dX8_share_36 (nar_1) (⟨rfl, rfl, ⟨τ, h1⟩, h2⟩)
theorem k_X8_cut_no {x y : Int32} (m : MW g ad σ τ C) (hI : Inv σ) (hx : inN x σ.nfl = false ∨ ∃ i, i < σ.nfl ∧ x = nI i ∧ (lv σ i && inN y (σ.ln i + 1)) = false) : Cr l g yX8_cut cX8_cut 3 (some .boolean) 3 [.ref (ad 20), .int x, .int y] ad C (.int (bI false)) := by
  obtain ⟨f20, f21, f22, f23, f24, f25, f26, f27, f28, f29, f30, f31, f32, f33, f34, f35, f36, f37, f38⟩ := id m
  obtain ⟨hf1, hf2, hfl, hnn, hnm, hno, hc1, hc2⟩ := id hI.le
  refine Ct_of [some (.ref (ad 20)), some (.int x), some (.int y)] (by decide) rfl rfl (Nat.le_of_ble_eq_true rfl) rfl rfl (fun X hX h => ?_)
  subst hX
  rcases hx with hx | ⟨i, hi, rfl, hx⟩
  · refine j_aload0 (pc := 0) h dX8_cut_0 ?_
    refine j_iload1 (pc := 1) h dX8_cut_1 ?_
    refine j_callVr (pc := 2) h dX8_cut_2 (k_X8_isFile_no m hI hx) mv_X8_109 (f20) rfl rfl (by decide) (Nat.le_of_ble_eq_true rfl) (Nat.le_of_ble_eq_true rfl) (Nat.le_of_ble_eq_true rfl) ?_
    refine j_if_eqB (pc := 5) (tgt := 22) h dX8_cut_5 (by decide) (fun c5 => ?_) (fun c5 => absurd c5 (by decide))
    refine j_iconst (pc := 22) h dX8_cut_22 ic_0 ?_
    refine j_zretr (pc := 23) h dX8_cut_23 (by decide) (rfl)
  · have hln := (hI.fil i hi).1
    refine j_aload0 (pc := 0) h dX8_cut_0 ?_
    refine j_iload1 (pc := 1) h dX8_cut_1 ?_
    refine j_callVr (pc := 2) h dX8_cut_2 (k_X8_isFile m hI hi) mv_X8_109 (f20) rfl rfl (by decide) (Nat.le_of_ble_eq_true rfl) (Nat.le_of_ble_eq_true rfl) (Nat.le_of_ble_eq_true rfl) ?_
    refine j_if_eqB (pc := 5) (tgt := 22) h dX8_cut_5 (by decide) (fun c5 => ?_) (fun c5 => ?_)
    · refine j_iconst (pc := 22) h dX8_cut_22 ic_0 ?_
      refine j_zretr (pc := 23) h dX8_cut_23 (by decide) (rfl)
    · rw [c5] at hx
      refine j_iload2 (pc := 8) h dX8_cut_8 ?_
      refine j_iconst (pc := 9) h dX8_cut_9 ic_0 ?_
      refine j_aload0 (pc := 10) h dX8_cut_10 ?_
      refine j_getf (pc := 11) h dX8_cut_11 (f20) fl_X8_24 rfl ?_
      refine j_iload1 (pc := 14) h dX8_cut_14 ?_
      refine j_iald (pc := 15) h dX8_cut_15 (f24) (by omega) (by decide) ?_
      refine j_callSr (pc := 16) h dX8_cut_16 (k_X8_in) ms_X8_73 rfl rfl (by decide) (Nat.le_of_ble_eq_true rfl) (Nat.le_of_ble_eq_true rfl) (Nat.le_of_ble_eq_true rfl) ?_
      refine j_if_neB (pc := 19) (tgt := 24) h dX8_cut_19 (by decide) (fun c19 => absurd c19 (by rw [rng_m (by omega)]; simpa using hx)) (fun c19 => ?_)
      refine j_iconst (pc := 22) h dX8_cut_22 ic_0 ?_
      refine j_zretr (pc := 23) h dX8_cut_23 (by decide) (rfl)
theorem k_X8_cut {i n : Nat} (m : MW g ad σ τ C) (hI : Inv σ) (hi : i < σ.nfl) (hl : lv σ i = true) (hn : n ≤ σ.ln i) : Ct l g yX8_cut cX8_cut 3 (some .boolean) 3 0 0 [.ref (ad 20), .int (nI i), .int (nI n)] ad C (PMo g ad C (.int (bI true)) (sCu σ i n)) := by
  obtain ⟨f20, f21, f22, f23, f24, f25, f26, f27, f28, f29, f30, f31, f32, f33, f34, f35, f36, f37, f38⟩ := id m
  obtain ⟨hf1, hf2, hfl, hnn, hnm, hno, hc1, hc2⟩ := id hI.le
  have hln := (hI.fil i hi).1
  refine Ct_of [some (.ref (ad 20)), some (.int (nI i)), some (.int (nI n))] (by decide) rfl rfl (Nat.le_of_ble_eq_true rfl) rfl rfl (fun X hX h => ?_)
  subst hX
  refine j_aload0 (pc := 0) h dX8_cut_0 ?_
  refine j_iload1 (pc := 1) h dX8_cut_1 ?_
  refine j_callVr (pc := 2) h dX8_cut_2 (k_X8_isFile m hI hi) mv_X8_109 (f20) rfl rfl (by decide) (Nat.le_of_ble_eq_true rfl) (Nat.le_of_ble_eq_true rfl) (Nat.le_of_ble_eq_true rfl) ?_
  refine j_if_eqB (pc := 5) (tgt := 22) h dX8_cut_5 (by decide) (fun c5 => absurd c5 (by rw [hl]; decide)) (fun c5 => ?_)
  refine j_iload2 (pc := 8) h dX8_cut_8 ?_
  refine j_iconst (pc := 9) h dX8_cut_9 ic_0 ?_
  refine j_aload0 (pc := 10) h dX8_cut_10 ?_
  refine j_getf (pc := 11) h dX8_cut_11 (f20) fl_X8_24 rfl ?_
  refine j_iload1 (pc := 14) h dX8_cut_14 ?_
  refine j_iald (pc := 15) h dX8_cut_15 (f24) (by omega) (by decide) ?_
  refine j_callSr (pc := 16) h dX8_cut_16 (k_X8_in) ms_X8_73 rfl rfl (by decide) (Nat.le_of_ble_eq_true rfl) (Nat.le_of_ble_eq_true rfl) (Nat.le_of_ble_eq_true rfl) ?_
  refine j_if_neB (pc := 19) (tgt := 24) h dX8_cut_19 (by decide) (fun c19 => ?_) (fun c19 => absurd c19 (by rw [rng_m (by omega), inN_nI (by omega)]; simp; omega))
  refine j_aload0 (pc := 24) h dX8_cut_24 ?_
  refine j_getf (pc := 25) h dX8_cut_25 (f20) fl_X8_24 rfl ?_
  refine j_iload1 (pc := 28) h dX8_cut_28 ?_
  refine j_iload2 (pc := 29) h dX8_cut_29 ?_
  refine j_iast (pc := 30) h dX8_cut_30 (f24) (by omega) (by decide) ?_
  refine j_aload0 (pc := 31) h dX8_cut_31 ?_
  refine j_getf (pc := 32) h dX8_cut_32 (f20) fl_X8_36 rfl ?_
  refine j_iload1 (pc := 35) h dX8_cut_35 ?_
  refine j_aload0 (pc := 36) h dX8_cut_36 ?_
  refine j_getf (pc := 37) h dX8_cut_37 (f20) fl_X8_77 rfl ?_
  refine j_iast (pc := 40) h dX8_cut_40 (f28) (by omega) (by decide) ?_
  refine j_iconst (pc := 41) h dX8_cut_41 ic_1 ?_
  refine j_zret (pc := 42) h dX8_cut_42 (nar_1) (⟨rfl, rfl, ⟨τ, ⟨f20, f21, f22, f23, eI_c nF_up, f25, f26, f27, rfl, f29, f30, f31, f32, f33, f34, f35, f36, f37, f38⟩⟩, frM_up (frM_up (frM_rf C) (by decide) (by decide)) (by decide) (by decide)⟩)
theorem k_X8_snapshot {a : Nat} (m : MW g ad σ τ C) (hI : Inv σ) (ha : a < 8) (hb : σ.sb a = false) (hlo : ∀ i, i < a → σ.sb i = true) : Ct l g yX8_snapshot cX8_snapshot 2 (some .int) 4 0 0 [.ref (ad 20)] ad C (PMo g ad C (.int (nI a)) (sSn σ a)) := by
  obtain ⟨f20, f21, f22, f23, f24, f25, f26, f27, f28, f29, f30, f31, f32, f33, f34, f35, f36, f37, f38⟩ := id m
  obtain ⟨hf1, hf2, hfl, hnn, hnm, hno, hc1, hc2⟩ := id hI.le
  refine Ct_of [some (.ref (ad 20)), none] (by decide) rfl rfl (Nat.le_of_ble_eq_true rfl) rfl rfl (fun X hX h => ?_)
  subst hX
  have lp : ∀ n i, i + n = a → J X g 2 (QX X g 0 0 (PMo g ad C (.int (nI a)) (sSn σ a))) 0 0 ad C 2 [some (.ref (ad 20)), some (.int (nI i))] [] := by
    intro n
    induction n with
    | zero =>
      intro i hi
      obtain rfl : i = a := by omega
      refine j_iload1 (pc := 2) h dX8_snapshot_2 ?_
      refine j_bipush (pc := 3) h dX8_snapshot_3 bp_8 ?_
      refine j_icmp_ge (pc := 5) (tgt := 45) h dX8_snapshot_5 (by decide) (fun c5 => absurd c5 (nI_ge (by omega) (by omega))) (fun c5 => ?_)
      refine j_aload0 (pc := 8) h dX8_snapshot_8 ?_
      refine j_getf (pc := 9) h dX8_snapshot_9 (f20) fl_X8_48 rfl ?_
      refine j_iload1 (pc := 12) h dX8_snapshot_12 ?_
      refine j_zald (pc := 13) h dX8_snapshot_13 (f32) (by omega) (by decide) ?_
      refine j_if_eq (pc := 14) (tgt := 20) h dX8_snapshot_14 (by decide) (fun c14 => ?_) (fun c14 => absurd (by show bI (σ.sb i) = 0; rw [hb]; rfl) c14)
      refine j_aload0 (pc := 20) h dX8_snapshot_20 ?_
      refine j_getf (pc := 21) h dX8_snapshot_21 (f20) fl_X8_48 rfl ?_
      refine j_iload1 (pc := 24) h dX8_snapshot_24 ?_
      refine j_iconst (pc := 25) h dX8_snapshot_25 ic_1 ?_
      refine j_zast (pc := 26) h dX8_snapshot_26 (f32) (by omega) (by decide) (nar_1) ?_
      have m1 : MW g ad (σ.uB 2 (va_up σ.sb i true)) τ (va_up C 32 (some (eZ g 8 (upd (bF σ.sb) i (nI 1))))) := ⟨f20, f21, f22, f23, f24, f25, f26, f27, f28, f29, f30, f31, eZ_c bF_up1, f33, f34, f35, f36, f37, f38⟩
      refine j_aload0 (pc := 27) h dX8_snapshot_27 ?_
      refine j_getf (pc := 28) h dX8_snapshot_28 (m1.1) fl_X8_51 rfl ?_
      refine j_iload1 (pc := 31) h dX8_snapshot_31 ?_
      refine j_aload0 (pc := 32) h dX8_snapshot_32 ?_
      refine j_callVr (pc := 33) h dX8_snapshot_33 (k_X8_allFiles (σ := σ.uB 2 (va_up σ.sb i true)) m1 hI) mv_X8_119 (m1.1) rfl rfl (by decide) (Nat.le_of_ble_eq_true rfl) (Nat.le_of_ble_eq_true rfl) (Nat.le_of_ble_eq_true rfl) ?_
      refine j_last (pc := 36) h dX8_snapshot_36 (f33) (by omega) (by decide) ?_
      refine j_iload1 (pc := 37) h dX8_snapshot_37 ?_
      refine j_iret (pc := 38) h dX8_snapshot_38 (⟨rfl, rfl, ⟨τ, ⟨f20, f21, f22, f23, f24, f25, f26, f27, f28, f29, f30, f31, eZ_c bF_up1, rfl, f34, f35, f36, f37, f38⟩⟩, frM_up (frM_up (frM_rf C) (by decide) (by decide)) (by decide) (by decide)⟩)
    | succ n ih =>
      intro i hi
      refine j_iload1 (pc := 2) h dX8_snapshot_2 ?_
      refine j_bipush (pc := 3) h dX8_snapshot_3 bp_8 ?_
      refine j_icmp_ge (pc := 5) (tgt := 45) h dX8_snapshot_5 (by decide) (fun c5 => absurd c5 (nI_ge (by omega) (by omega))) (fun c5 => ?_)
      refine j_aload0 (pc := 8) h dX8_snapshot_8 ?_
      refine j_getf (pc := 9) h dX8_snapshot_9 (f20) fl_X8_48 rfl ?_
      refine j_iload1 (pc := 12) h dX8_snapshot_12 ?_
      refine j_zald (pc := 13) h dX8_snapshot_13 (f32) (by omega) (by decide) ?_
      refine j_if_eq (pc := 14) (tgt := 20) h dX8_snapshot_14 (by decide) (fun c14 => absurd c14 (by show ¬ bI (σ.sb i) = 0; rw [hlo i (by omega)]; decide)) (fun c14 => ?_)
      refine j_goto (pc := 17) (tgt := 39) h dX8_snapshot_17 (by decide) ?_
      refine j_iinc1 (pc := 39) h dX8_snapshot_39 rfl (inc_n _) ?_
      refine j_goto (pc := 42) (tgt := 2) h dX8_snapshot_42 (by decide) ?_
      exact ih (i + 1) (by omega)
  refine j_iconst (pc := 0) h dX8_snapshot_0 ic_0 ?_
  refine j_istore1 (pc := 1) h dX8_snapshot_1 rfl ?_
  exact lp a 0 (by omega)
theorem k_X8_snapshot_no (m : MW g ad σ τ C) (hI : Inv σ) (hlo : ∀ i, i < 8 → σ.sb i = true) : Cr l g yX8_snapshot cX8_snapshot 2 (some .int) 4 [.ref (ad 20)] ad C (.int (-1)) := by
  obtain ⟨f20, f21, f22, f23, f24, f25, f26, f27, f28, f29, f30, f31, f32, f33, f34, f35, f36, f37, f38⟩ := id m
  obtain ⟨hf1, hf2, hfl, hnn, hnm, hno, hc1, hc2⟩ := id hI.le
  refine Ct_of [some (.ref (ad 20)), none] (by decide) rfl rfl (Nat.le_of_ble_eq_true rfl) rfl rfl (fun X hX h => ?_)
  subst hX
  have lp : ∀ n i, i + n = 8 → J X g 2 (QR X g ad C (.int (-1))) 0 0 ad C 2 [some (.ref (ad 20)), some (.int (nI i))] [] := by
    intro n
    induction n with
    | zero =>
      intro i hi
      refine j_iload1 (pc := 2) h dX8_snapshot_2 ?_
      refine j_bipush (pc := 3) h dX8_snapshot_3 bp_8 ?_
      refine j_icmp_ge (pc := 5) (tgt := 45) h dX8_snapshot_5 (by decide) (fun c5 => ?_) (fun c5 => absurd (nI_le (by omega) (by omega)) c5)
      refine j_iconst (pc := 45) h dX8_snapshot_45 ic_m1 ?_
      refine j_iretr (pc := 46) h dX8_snapshot_46 (rfl)
    | succ n ih =>
      intro i hi
      refine j_iload1 (pc := 2) h dX8_snapshot_2 ?_
      refine j_bipush (pc := 3) h dX8_snapshot_3 bp_8 ?_
      refine j_icmp_ge (pc := 5) (tgt := 45) h dX8_snapshot_5 (by decide) (fun c5 => absurd c5 (nI_ge (by omega) (by omega))) (fun c5 => ?_)
      refine j_aload0 (pc := 8) h dX8_snapshot_8 ?_
      refine j_getf (pc := 9) h dX8_snapshot_9 (f20) fl_X8_48 rfl ?_
      refine j_iload1 (pc := 12) h dX8_snapshot_12 ?_
      refine j_zald (pc := 13) h dX8_snapshot_13 (f32) (by omega) (by decide) ?_
      refine j_if_eq (pc := 14) (tgt := 20) h dX8_snapshot_14 (by decide) (fun c14 => absurd c14 (by show ¬ bI (σ.sb i) = 0; rw [hlo i (by omega)]; decide)) (fun c14 => ?_)
      refine j_goto (pc := 17) (tgt := 39) h dX8_snapshot_17 (by decide) ?_
      refine j_iinc1 (pc := 39) h dX8_snapshot_39 rfl (inc_n _) ?_
      refine j_goto (pc := 42) (tgt := 2) h dX8_snapshot_42 (by decide) ?_
      exact ih (i + 1) (by omega)
  refine j_iconst (pc := 0) h dX8_snapshot_0 ic_0 ?_
  refine j_istore1 (pc := 1) h dX8_snapshot_1 rfl ?_
  exact lp 8 0 (by omega)
/-- what a snapshot alone holds -/
def alS (σ : Sg) (s : Nat) : Nat := pcn (σ.sh s &&& ((allS σ ||| shS σ (nI s)) ^^^ (-1)))
theorem k_X8_alone_no {x : Int32} (m : MW g ad σ τ C) (hI : Inv σ) (hx : inN x 8 = false ∨ ∃ s, s < 8 ∧ x = nI s ∧ σ.sb s = false) : Cr l g yX8_alone cX8_alone 2 (some .int) 4 [.ref (ad 20), .int x] ad C (.int (-1)) := by
  obtain ⟨f20, f21, f22, f23, f24, f25, f26, f27, f28, f29, f30, f31, f32, f33, f34, f35, f36, f37, f38⟩ := id m
  obtain ⟨hf1, hf2, hfl, hnn, hnm, hno, hc1, hc2⟩ := id hI.le
  refine Ct_of [some (.ref (ad 20)), some (.int x)] (by decide) rfl rfl (Nat.le_of_ble_eq_true rfl) rfl rfl (fun X hX h => ?_)
  subst hX
  rcases hx with hx | ⟨s, hs, rfl, hx⟩
  · refine j_aload0 (pc := 0) h dX8_alone_0 ?_
    refine j_iload1 (pc := 1) h dX8_alone_1 ?_
    refine j_callVr (pc := 2) h dX8_alone_2 (k_X8_isSnapshot_no m hx) mv_X8_146 (f20) rfl rfl (by decide) (Nat.le_of_ble_eq_true rfl) (Nat.le_of_ble_eq_true rfl) (Nat.le_of_ble_eq_true rfl) ?_
    refine j_if_eqB (pc := 5) (tgt := 35) h dX8_alone_5 (by decide) (fun c5 => ?_) (fun c5 => absurd c5 (by decide))
    refine j_iconst (pc := 35) h dX8_alone_35 ic_m1 ?_
    refine j_iretr (pc := 36) h dX8_alone_36 (rfl)
  · refine j_aload0 (pc := 0) h dX8_alone_0 ?_
    refine j_iload1 (pc := 1) h dX8_alone_1 ?_
    refine j_callVr (pc := 2) h dX8_alone_2 (k_X8_isSnapshot m hI hs) mv_X8_146 (f20) rfl rfl (by decide) (Nat.le_of_ble_eq_true rfl) (Nat.le_of_ble_eq_true rfl) (Nat.le_of_ble_eq_true rfl) ?_
    refine j_if_eqB (pc := 5) (tgt := 35) h dX8_alone_5 (by decide) (fun c5 => ?_) (fun c5 => absurd c5 (by rw [hx]; decide))
    refine j_iconst (pc := 35) h dX8_alone_35 ic_m1 ?_
    refine j_iretr (pc := 36) h dX8_alone_36 (rfl)
theorem k_X8_alone {s : Nat} (m : MW g ad σ τ C) (hI : Inv σ) (hs : s < 8) (hx : σ.sb s = true) : Cr l g yX8_alone cX8_alone 2 (some .int) 4 [.ref (ad 20), .int (nI s)] ad C (.int (nI (alS σ s))) := by
  obtain ⟨f20, f21, f22, f23, f24, f25, f26, f27, f28, f29, f30, f31, f32, f33, f34, f35, f36, f37, f38⟩ := id m
  obtain ⟨hf1, hf2, hfl, hnn, hnm, hno, hc1, hc2⟩ := id hI.le
  refine Ct_of [some (.ref (ad 20)), some (.int (nI s))] (by decide) rfl rfl (Nat.le_of_ble_eq_true rfl) rfl rfl (fun X hX h => ?_)
  subst hX
  refine j_aload0 (pc := 0) h dX8_alone_0 ?_
  refine j_iload1 (pc := 1) h dX8_alone_1 ?_
  refine j_callVr (pc := 2) h dX8_alone_2 (k_X8_isSnapshot m hI hs) mv_X8_146 (f20) rfl rfl (by decide) (Nat.le_of_ble_eq_true rfl) (Nat.le_of_ble_eq_true rfl) (Nat.le_of_ble_eq_true rfl) ?_
  refine j_if_eqB (pc := 5) (tgt := 35) h dX8_alone_5 (by decide) (fun c5 => absurd c5 (by rw [hx]; decide)) (fun c5 => ?_)
  refine j_aload0 (pc := 8) h dX8_alone_8 ?_
  refine j_getf (pc := 9) h dX8_alone_9 (f20) fl_X8_51 rfl ?_
  refine j_iload1 (pc := 12) h dX8_alone_12 ?_
  refine j_lald (pc := 13) h dX8_alone_13 (f33) (by omega) (by decide) ?_
  refine j_aload0 (pc := 14) h dX8_alone_14 ?_
  refine j_callVr (pc := 15) h dX8_alone_15 (k_X8_allFiles m hI) mv_X8_119 (f20) rfl rfl (by decide) (Nat.le_of_ble_eq_true rfl) (Nat.le_of_ble_eq_true rfl) (Nat.le_of_ble_eq_true rfl) ?_
  refine j_aload0 (pc := 18) h dX8_alone_18 ?_
  refine j_iload1 (pc := 19) h dX8_alone_19 ?_
  refine j_callVr (pc := 20) h dX8_alone_20 (k_X8_shots m hI) mv_X8_123 (f20) rfl rfl (by decide) (Nat.le_of_ble_eq_true rfl) (Nat.le_of_ble_eq_true rfl) (Nat.le_of_ble_eq_true rfl) ?_
  refine j_lor (pc := 23) h dX8_alone_23 ?_
  refine j_ldc2 (pc := 24) h dX8_alone_24 kc_X8_149 ?_
  refine j_lxor (pc := 27) h dX8_alone_27 ?_
  refine j_land (pc := 28) h dX8_alone_28 ?_
  refine j_callSr (pc := 29) h dX8_alone_29 (k_X8_bits' (lo60_and (hI.sh s))) ms_X8_126 rfl rfl (by decide) (Nat.le_of_ble_eq_true rfl) (Nat.le_of_ble_eq_true rfl) (Nat.le_of_ble_eq_true rfl) ?_
  refine j_goto (pc := 32) (tgt := 36) h dX8_alone_32 (by decide) ?_
  refine j_iretr (pc := 36) h dX8_alone_36 (rfl)
theorem k_X8_drop_no {x : Int32} (m : MW g ad σ τ C) (hI : Inv σ) (hx : inN x 8 = false ∨ ∃ s, s < 8 ∧ x = nI s ∧ σ.sb s = false) : Cr l g yX8_drop cX8_drop 3 (some .int) 5 [.ref (ad 20), .int x] ad C (.int (-1)) := by
  obtain ⟨f20, f21, f22, f23, f24, f25, f26, f27, f28, f29, f30, f31, f32, f33, f34, f35, f36, f37, f38⟩ := id m
  obtain ⟨hf1, hf2, hfl, hnn, hnm, hno, hc1, hc2⟩ := id hI.le
  refine Ct_of [some (.ref (ad 20)), some (.int x), none] (by decide) rfl rfl (Nat.le_of_ble_eq_true rfl) rfl rfl (fun X hX h => ?_)
  subst hX
  refine j_aload0 (pc := 0) h dX8_drop_0 ?_
  refine j_iload1 (pc := 1) h dX8_drop_1 ?_
  refine j_callVr (pc := 2) h dX8_drop_2 (k_X8_alone_no m hI hx) mv_X8_151 (f20) rfl rfl (by decide) (Nat.le_of_ble_eq_true rfl) (Nat.le_of_ble_eq_true rfl) (Nat.le_of_ble_eq_true rfl) ?_
  refine j_istore2 (pc := 5) h dX8_drop_5 rfl ?_
  refine j_iload2 (pc := 6) h dX8_drop_6 ?_
  refine j_iconst (pc := 7) h dX8_drop_7 ic_m1 ?_
  refine j_icmp_eq (pc := 8) (tgt := 18) h dX8_drop_8 (by decide) (fun c8 => ?_) (fun c8 => absurd (rfl) c8)
  refine j_iload2 (pc := 18) h dX8_drop_18 ?_
  refine j_iretr (pc := 19) h dX8_drop_19 (rfl)
theorem k_X8_drop {s : Nat} (m : MW g ad σ τ C) (hI : Inv σ) (hs : s < 8) (hx : σ.sb s = true) : Ct l g yX8_drop cX8_drop 3 (some .int) 5 0 0 [.ref (ad 20), .int (nI s)] ad C (PMo g ad C (.int (nI (alS σ s))) (sDr σ s)) := by
  obtain ⟨f20, f21, f22, f23, f24, f25, f26, f27, f28, f29, f30, f31, f32, f33, f34, f35, f36, f37, f38⟩ := id m
  obtain ⟨hf1, hf2, hfl, hnn, hnm, hno, hc1, hc2⟩ := id hI.le
  have hpc : alS σ s ≤ 64 := pcn_le _
  refine Ct_of [some (.ref (ad 20)), some (.int (nI s)), none] (by decide) rfl rfl (Nat.le_of_ble_eq_true rfl) rfl rfl (fun X hX h => ?_)
  subst hX
  refine j_aload0 (pc := 0) h dX8_drop_0 ?_
  refine j_iload1 (pc := 1) h dX8_drop_1 ?_
  refine j_callVr (pc := 2) h dX8_drop_2 (k_X8_alone m hI hs hx) mv_X8_151 (f20) rfl rfl (by decide) (Nat.le_of_ble_eq_true rfl) (Nat.le_of_ble_eq_true rfl) (Nat.le_of_ble_eq_true rfl) ?_
  refine j_istore2 (pc := 5) h dX8_drop_5 rfl ?_
  refine j_iload2 (pc := 6) h dX8_drop_6 ?_
  refine j_iconst (pc := 7) h dX8_drop_7 ic_m1 ?_
  refine j_icmp_eq (pc := 8) (tgt := 18) h dX8_drop_8 (by decide) (fun c8 => absurd c8 (nI_m1 (by omega))) (fun c8 => ?_)
  refine j_aload0 (pc := 11) h dX8_drop_11 ?_
  refine j_getf (pc := 12) h dX8_drop_12 (f20) fl_X8_48 rfl ?_
  refine j_iload1 (pc := 15) h dX8_drop_15 ?_
  refine j_iconst (pc := 16) h dX8_drop_16 ic_0 ?_
  refine j_zast (pc := 17) h dX8_drop_17 (f32) (by omega) (by decide) (nar_0) ?_
  refine j_iload2 (pc := 18) h dX8_drop_18 ?_
  refine j_iret (pc := 19) h dX8_drop_19 (⟨rfl, rfl, ⟨τ, ⟨f20, f21, f22, f23, f24, f25, f26, f27, f28, f29, f30, f31, eZ_c bF_up0, f33, f34, f35, f36, f37, f38⟩⟩, frM_up (frM_rf C) (by decide) (by decide)⟩)
theorem tkS_le (σ : Sg) (t : Nat) : tkS σ t ≤ 64 := pcn_le _
theorem k_X8_mark_no (m : MW g ad σ τ C) (hn : σ.nm = 20) : Cr l g yX8_mark cX8_mark 2 (some .int) 4 [.ref (ad 20)] ad C (.int (-1)) := by
  obtain ⟨f20, f21, f22, f23, f24, f25, f26, f27, f28, f29, f30, f31, f32, f33, f34, f35, f36, f37, f38⟩ := id m
  refine Ct_of [some (.ref (ad 20)), none] (by decide) rfl rfl (Nat.le_of_ble_eq_true rfl) rfl rfl (fun X hX h => ?_)
  subst hX
  refine j_aload0 (pc := 0) h dX8_mark_0 ?_
  refine j_getf (pc := 1) h dX8_mark_1 (f20) fl_X8_154 rfl ?_
  refine j_bipush (pc := 4) h dX8_mark_4 bp_20 ?_
  refine j_icmp_ne (pc := 6) (tgt := 11) h dX8_mark_6 (by decide) (fun c6 => absurd (by rw [hn]) c6) (fun c6 => ?_)
  refine j_iconst (pc := 9) h dX8_mark_9 ic_m1 ?_
  refine j_iretr (pc := 10) h dX8_mark_10 (rfl)
theorem mkT_s (σ : Sg) (i : Nat) : upd (fun q => nI (mkT σ i q)) (30 * σ.nm + i) (nI (if i < σ.nf then tkS σ i else 0)) = fun q => nI (mkT σ (i + 1) q) := by
  funext q
  by_cases h : q = 30 * σ.nm + i
  · subst h
    have e : 30 * σ.nm + i - 30 * σ.nm = i := by omega
    simp [upd, mkT, e]
  · have e : (30 * σ.nm ≤ q ∧ q < 30 * σ.nm + (i + 1)) ↔ (30 * σ.nm ≤ q ∧ q < 30 * σ.nm + i) := by omega
    simp [upd, mkT, h, e]
theorem mkT_0 (σ : Sg) : (fun q => nI (mkT σ 0 q)) = fun q => nI (σ.mt q) := by
  funext q
  have e : ¬ (30 * σ.nm ≤ q ∧ q < 30 * σ.nm + 0) := by omega
  unfold mkT
  rw [if_neg e]
theorem k_X8_mark (m : MW g ad σ τ C) (hI : Inv σ) (hn : σ.nm < 20) : Ct l g yX8_mark cX8_mark 2 (some .int) 4 0 0 [.ref (ad 20)] ad C (PMo g ad C (.int (nI σ.nm)) (sMa σ)) := by
  obtain ⟨f20, f21, f22, f23, f24, f25, f26, f27, f28, f29, f30, f31, f32, f33, f34, f35, f36, f37, f38⟩ := id m
  obtain ⟨hf1, hf2, hfl, hnn, hnm, hno, hc1, hc2⟩ := id hI.le
  refine Ct_of [some (.ref (ad 20)), none] (by decide) rfl rfl (Nat.le_of_ble_eq_true rfl) rfl rfl (fun X hX h => ?_)
  subst hX
  have key : ∀ D : CC, MW g ad (σ.uN 5 (va_up σ.md σ.nm σ.now)) τ D → frM C D → ∀ n i D', i + n = 30 → D' = va_up D 35 (some (eI g 600 (fun q => nI (mkT σ i q)))) → J X g 2 (QX X g 0 0 (PMo g ad C (.int (nI σ.nm)) (sMa σ))) 0 0 ad D' 26 [some (.ref (ad 20)), some (.int (nI i))] [] := by
    intro D mD hfr n
    have e1 : (σ.uN 5 (va_up σ.md σ.nm σ.now)).nf = σ.nf := rfl
    have e2 : (σ.uN 5 (va_up σ.md σ.nm σ.now)).nm = σ.nm := rfl
    obtain ⟨f20, f21, f22, f23, f24, f25, f26, f27, f28, f29, f30, f31, f32, f33, f34, f35, f36, f37, f38⟩ := id mD
    induction n with
    | zero =>
      intro i D' hi hD
      obtain rfl : i = 30 := by omega
      subst hD
      refine j_iload1 (pc := 26) h dX8_mark_26 ?_
      refine j_bipush (pc := 27) h dX8_mark_27 bp_30 ?_
      refine j_icmp_ge (pc := 29) (tgt := 69) h dX8_mark_29 (by decide) (fun c29 => ?_) (fun c29 => absurd (nI_le (by omega) (by omega)) c29)
      refine j_aload0 (pc := 69) h dX8_mark_69 ?_
      refine j_dupR (pc := 70) h dX8_mark_70 ?_
      refine j_getf (pc := 71) h dX8_mark_71 (f20) fl_X8_154 rfl ?_
      refine j_iconst (pc := 74) h dX8_mark_74 ic_1 ?_
      refine j_iaddN (pc := 75) h dX8_mark_75 ?_
      refine j_putv (pc := 76) h dX8_mark_76 (f20) pl_X8_154 rfl rfl (Nat.le_of_ble_eq_true rfl) ?_
      refine j_aload0 (pc := 79) h dX8_mark_79 ?_
      refine j_getf (pc := 80) h dX8_mark_80 (rfl) fl_X8_154 rfl ?_
      refine j_iconst (pc := 83) h dX8_mark_83 ic_1 ?_
      refine j_isubN (pc := 84) h dX8_mark_84 (by omega) ?_
      refine j_iret (pc := 85) h dX8_mark_85 (⟨rfl, rfl, ⟨τ, ⟨rfl, f21, f22, f23, f24, f25, f26, f27, f28, f29, f30, f31, f32, f33, f34, rfl, f36, f37, f38⟩⟩, frM_up (frM_up hfr (by decide) (by decide)) (by decide) (by decide)⟩)
    | succ n ih =>
      intro i D' hi hD
      subst hD
      by_cases hq : i < σ.nf
      · have m2 : MW g ad ((σ.uN 5 (va_up σ.md σ.nm σ.now)).uN 6 (mkT σ i)) τ (va_up D 35 (some (eI g 600 (fun q => nI (mkT σ i q))))) := ⟨f20, f21, f22, f23, f24, f25, f26, f27, f28, f29, f30, f31, f32, f33, f34, rfl, f36, f37, f38⟩
        refine j_iload1 (pc := 26) h dX8_mark_26 ?_
        refine j_bipush (pc := 27) h dX8_mark_27 bp_30 ?_
        refine j_icmp_ge (pc := 29) (tgt := 69) h dX8_mark_29 (by decide) (fun c29 => absurd c29 (nI_ge (by omega) (by omega))) (fun c29 => ?_)
        refine j_aload0 (pc := 32) h dX8_mark_32 ?_
        refine j_getf (pc := 33) h dX8_mark_33 (f20) fl_X8_58 rfl ?_
        refine j_bipush (pc := 36) h dX8_mark_36 bp_30 ?_
        refine j_aload0 (pc := 38) h dX8_mark_38 ?_
        refine j_getf (pc := 39) h dX8_mark_39 (f20) fl_X8_154 rfl ?_
        refine j_imulN (pc := 42) h dX8_mark_42 ?_
        refine j_iload1 (pc := 43) h dX8_mark_43 ?_
        refine j_iaddN (pc := 44) h dX8_mark_44 ?_
        refine j_iload1 (pc := 45) h dX8_mark_45 ?_
        refine j_aload0 (pc := 46) h dX8_mark_46 ?_
        refine j_getf (pc := 47) h dX8_mark_47 (f20) fl_X8_7 rfl ?_
        refine j_icmp_ge (pc := 50) (tgt := 61) h dX8_mark_50 (by decide) (fun c50 => absurd c50 (nI_ge (by omega) (by omega))) (fun c50 => ?_)
        refine j_aload0 (pc := 53) h dX8_mark_53 ?_
        refine j_iload1 (pc := 54) h dX8_mark_54 ?_
        refine j_callVr (pc := 55) h dX8_mark_55 (k_X8_taken (σ := (σ.uN 5 (va_up σ.md σ.nm σ.now)).uN 6 (mkT σ i)) m2 hI hq) mv_X8_143 (f20) rfl rfl (by decide) (Nat.le_of_ble_eq_true rfl) (Nat.le_of_ble_eq_true rfl) (Nat.le_of_ble_eq_true rfl) ?_
        refine j_goto (pc := 58) (tgt := 62) h dX8_mark_58 (by decide) ?_
        refine j_iast (pc := 62) h dX8_mark_62 (m2.2.2.2.2.2.2.2.2.2.2.2.2.2.2.2.1) (by omega) (by decide) ?_
        refine j_mem (up_up _ _ _ _) ?_
        refine j_iinc1 (pc := 63) h dX8_mark_63 rfl (inc_n _) ?_
        refine j_goto (pc := 66) (tgt := 26) h dX8_mark_66 (by decide) ?_
        exact ih (i + 1) _ (by omega) (by rw [← mkT_s, if_pos hq]; rfl)
      · refine j_iload1 (pc := 26) h dX8_mark_26 ?_
        refine j_bipush (pc := 27) h dX8_mark_27 bp_30 ?_
        refine j_icmp_ge (pc := 29) (tgt := 69) h dX8_mark_29 (by decide) (fun c29 => absurd c29 (nI_ge (by omega) (by omega))) (fun c29 => ?_)
        refine j_aload0 (pc := 32) h dX8_mark_32 ?_
        refine j_getf (pc := 33) h dX8_mark_33 (f20) fl_X8_58 rfl ?_
        refine j_bipush (pc := 36) h dX8_mark_36 bp_30 ?_
        refine j_aload0 (pc := 38) h dX8_mark_38 ?_
        refine j_getf (pc := 39) h dX8_mark_39 (f20) fl_X8_154 rfl ?_
        refine j_imulN (pc := 42) h dX8_mark_42 ?_
        refine j_iload1 (pc := 43) h dX8_mark_43 ?_
        refine j_iaddN (pc := 44) h dX8_mark_44 ?_
        refine j_iload1 (pc := 45) h dX8_mark_45 ?_
        refine j_aload0 (pc := 46) h dX8_mark_46 ?_
        refine j_getf (pc := 47) h dX8_mark_47 (f20) fl_X8_7 rfl ?_
        refine j_icmp_ge (pc := 50) (tgt := 61) h dX8_mark_50 (by decide) (fun c50 => ?_) (fun c50 => absurd (nI_le (by omega) (by omega)) c50)
        refine j_iconst (pc := 61) h dX8_mark_61 ic_0 ?_
        refine j_iast (pc := 62) h dX8_mark_62 (va_up_self _ _ _) (by omega) (by decide) ?_
        refine j_mem (up_up _ _ _ _) ?_
        refine j_iinc1 (pc := 63) h dX8_mark_63 rfl (inc_n _) ?_
        refine j_goto (pc := 66) (tgt := 26) h dX8_mark_66 (by decide) ?_
        exact ih (i + 1) _ (by omega) (by rw [← mkT_s, if_neg hq]; rfl)
  have m1 : MW g ad (σ.uN 5 (va_up σ.md σ.nm σ.now)) τ (va_up C 34 (some (eI g 20 (upd (fun i => nI (σ.md i)) σ.nm (nI σ.now))))) := ⟨f20, f21, f22, f23, f24, f25, f26, f27, f28, f29, f30, f31, f32, f33, eI_c nF_up, f35, f36, f37, f38⟩
  refine j_aload0 (pc := 0) h dX8_mark_0 ?_
  refine j_getf (pc := 1) h dX8_mark_1 (f20) fl_X8_154 rfl ?_
  refine j_bipush (pc := 4) h dX8_mark_4 bp_20 ?_
  refine j_icmp_ne (pc := 6) (tgt := 11) h dX8_mark_6 (by decide) (fun c6 => ?_) (fun c6 => absurd c6 (fun q => absurd (nI_inj q (by omega) (by omega)) (by omega)))
  refine j_aload0 (pc := 11) h dX8_mark_11 ?_
  refine j_getf (pc := 12) h dX8_mark_12 (f20) fl_X8_55 rfl ?_
  refine j_aload0 (pc := 15) h dX8_mark_15 ?_
  refine j_getf (pc := 16) h dX8_mark_16 (f20) fl_X8_154 rfl ?_
  refine j_aload0 (pc := 19) h dX8_mark_19 ?_
  refine j_getf (pc := 20) h dX8_mark_20 (f20) fl_X8_77 rfl ?_
  refine j_iast (pc := 23) h dX8_mark_23 (f34) (by omega) (by decide) ?_
  refine j_iconst (pc := 24) h dX8_mark_24 ic_0 ?_
  refine j_istore1 (pc := 25) h dX8_mark_25 rfl ?_
  refine key _ m1 (frM_up (frM_rf C) (by decide) (by decide)) 30 0 _ (by omega) ?_
  rw [mkT_0]
  funext j
  by_cases hj : j = 35
  · subst hj; rw [va_up_self]; exact f35
  · rw [va_up_ne _ _ hj]
theorem k_X8_holds_no {x : Int32} (m : MW g ad σ τ C) (hI : Inv σ) (hx : rng x (nI 1) (nI 60) = false ∨ x < nI (pcn (had σ))) : Cr l g yX8_holds cX8_holds 2 (some .boolean) 4 [.ref (ad 20), .int x] ad C (.int (bI false)) := by
  obtain ⟨f20, f21, f22, f23, f24, f25, f26, f27, f28, f29, f30, f31, f32, f33, f34, f35, f36, f37, f38⟩ := id m
  obtain ⟨hf1, hf2, hfl, hnn, hnm, hno, hc1, hc2⟩ := id hI.le
  refine Ct_of [some (.ref (ad 20)), some (.int x)] (by decide) rfl rfl (Nat.le_of_ble_eq_true rfl) rfl rfl (fun X hX h => ?_)
  subst hX
  refine j_iload1 (pc := 0) h dX8_holds_0 ?_
  refine j_iconst (pc := 1) h dX8_holds_1 ic_1 ?_
  refine j_bipush (pc := 2) h dX8_holds_2 bp_60 ?_
  refine j_callSr (pc := 4) h dX8_holds_4 (k_X8_in) ms_X8_73 rfl rfl (by decide) (Nat.le_of_ble_eq_true rfl) (Nat.le_of_ble_eq_true rfl) (Nat.le_of_ble_eq_true rfl) ?_
  refine j_if_eqB (pc := 7) (tgt := 27) h dX8_holds_7 (by decide) (fun c7 => ?_) (fun c7 => ?_)
  · refine j_iconst (pc := 27) h dX8_holds_27 ic_0 ?_
    refine j_zretr (pc := 28) h dX8_holds_28 (by decide) (rfl)
  · rcases hx with hx | hx
    · exact absurd (hx.symm.trans c7) (by decide)
    · refine j_aload0 (pc := 10) h dX8_holds_10 ?_
      refine j_callVr (pc := 11) h dX8_holds_11 (k_X8_allFiles m hI) mv_X8_119 (f20) rfl rfl (by decide) (Nat.le_of_ble_eq_true rfl) (Nat.le_of_ble_eq_true rfl) (Nat.le_of_ble_eq_true rfl) ?_
      refine j_aload0 (pc := 14) h dX8_holds_14 ?_
      refine j_iconst (pc := 15) h dX8_holds_15 ic_m1 ?_
      refine j_callVr (pc := 16) h dX8_holds_16 (k_X8_shots m hI) mv_X8_123 (f20) rfl rfl (by decide) (Nat.le_of_ble_eq_true rfl) (Nat.le_of_ble_eq_true rfl) (Nat.le_of_ble_eq_true rfl) ?_
      refine j_lor (pc := 19) h dX8_holds_19 ?_
      refine j_callSr (pc := 20) h dX8_holds_20 (k_X8_bits' (lo60_had hI)) ms_X8_126 rfl rfl (by decide) (Nat.le_of_ble_eq_true rfl) (Nat.le_of_ble_eq_true rfl) (Nat.le_of_ble_eq_true rfl) ?_
      refine j_iload1 (pc := 23) h dX8_holds_23 ?_
      refine j_icmp_le (pc := 24) (tgt := 29) h dX8_holds_24 (by decide) (fun c24 => absurd c24 (by rw [Int32.le_iff_toInt_le]; rw [Int32.lt_iff_toInt_lt] at hx; omega)) (fun c24 => ?_)
      refine j_iconst (pc := 27) h dX8_holds_27 ic_0 ?_
      refine j_zretr (pc := 28) h dX8_holds_28 (by decide) (rfl)
theorem k_X8_holds {n : Nat} (m : MW g ad σ τ C) (hI : Inv σ) (h1 : 1 ≤ n) (h2 : n ≤ 60) (hx : pcn (had σ) ≤ n) : Ct l g yX8_holds cX8_holds 2 (some .boolean) 4 0 0 [.ref (ad 20), .int (nI n)] ad C (PMo g ad C (.int (bI true)) (sHo σ n)) := by
  obtain ⟨f20, f21, f22, f23, f24, f25, f26, f27, f28, f29, f30, f31, f32, f33, f34, f35, f36, f37, f38⟩ := id m
  obtain ⟨hf1, hf2, hfl, hnn, hnm, hno, hc1, hc2⟩ := id hI.le
  have hpc := pcn_le (had σ)
  refine Ct_of [some (.ref (ad 20)), some (.int (nI n))] (by decide) rfl rfl (Nat.le_of_ble_eq_true rfl) rfl rfl (fun X hX h => ?_)
  subst hX
  refine j_iload1 (pc := 0) h dX8_holds_0 ?_
  refine j_iconst (pc := 1) h dX8_holds_1 ic_1 ?_
  refine j_bipush (pc := 2) h dX8_holds_2 bp_60 ?_
  refine j_callSr (pc := 4) h dX8_holds_4 (k_X8_in) ms_X8_73 rfl rfl (by decide) (Nat.le_of_ble_eq_true rfl) (Nat.le_of_ble_eq_true rfl) (Nat.le_of_ble_eq_true rfl) ?_
  refine j_if_eqB (pc := 7) (tgt := 27) h dX8_holds_7 (by decide) (fun c7 => absurd c7 (by rw [rngT (nI_nlt h1 (by omega)) (nI_nlt h2 (by omega))]; decide)) (fun c7 => ?_)
  refine j_aload0 (pc := 10) h dX8_holds_10 ?_
  refine j_callVr (pc := 11) h dX8_holds_11 (k_X8_allFiles m hI) mv_X8_119 (f20) rfl rfl (by decide) (Nat.le_of_ble_eq_true rfl) (Nat.le_of_ble_eq_true rfl) (Nat.le_of_ble_eq_true rfl) ?_
  refine j_aload0 (pc := 14) h dX8_holds_14 ?_
  refine j_iconst (pc := 15) h dX8_holds_15 ic_m1 ?_
  refine j_callVr (pc := 16) h dX8_holds_16 (k_X8_shots m hI) mv_X8_123 (f20) rfl rfl (by decide) (Nat.le_of_ble_eq_true rfl) (Nat.le_of_ble_eq_true rfl) (Nat.le_of_ble_eq_true rfl) ?_
  refine j_lor (pc := 19) h dX8_holds_19 ?_
  refine j_callSr (pc := 20) h dX8_holds_20 (k_X8_bits' (lo60_had hI)) ms_X8_126 rfl rfl (by decide) (Nat.le_of_ble_eq_true rfl) (Nat.le_of_ble_eq_true rfl) (Nat.le_of_ble_eq_true rfl) ?_
  refine j_iload1 (pc := 23) h dX8_holds_23 ?_
  refine j_icmp_le (pc := 24) (tgt := 29) h dX8_holds_24 (by decide) (fun c24 => ?_) (fun c24 => absurd (nI_le hx (by omega)) c24)
  refine j_aload0 (pc := 29) h dX8_holds_29 ?_
  refine j_iload1 (pc := 30) h dX8_holds_30 ?_
  refine j_putv (pc := 31) h dX8_holds_31 (f20) pl_X8_61 rfl rfl (Nat.le_of_ble_eq_true rfl) ?_
  refine j_iconst (pc := 34) h dX8_holds_34 ic_1 ?_
  refine j_zret (pc := 35) h dX8_holds_35 (nar_1) (⟨rfl, rfl, ⟨τ, ⟨rfl, f21, f22, f23, f24, f25, f26, f27, f28, f29, f30, f31, f32, f33, f34, f35, f36, f37, f38⟩⟩, frM_up (frM_rf C) (by decide) (by decide)⟩)
end MX

