/-! The class: changes of one file; unlink; mark -/
theorem blF_bO {σ : Sg} (hI : Inv σ) {pl : Nat → Int32} {q p : Nat} (h : pl p = rI (σ.rb q)) : blF pl p = bO (σ.rb q) := by
  unfold blF
  rw [h]
  cases e : σ.rb q with
  | none => rfl
  | some b =>
    have : ¬ rI (some b) = -1 := nI_m1 (by have := hI.blk q b e; omega)
    rw [if_neg this]; rfl
/-- one file's places, length and day are new -/
def sSt (σ : Sg) (i L : Nat) (rb : Nat → Option Nat) : Sg := ((σ.uR rb).uN 1 (va_up σ.ln i L)).uI 2 (va_up σ.ch i (nI σ.now))
theorem bkS_ne {σ : Sg} (hI : Inv σ) {i k L : Nat} {rb : Nat → Option Nat} (hk : k < σ.nfl) (h : k ≠ i) (hrb : ∀ q, q < 60 * i ∨ 60 * i + 60 ≤ q → rb q = σ.rb q) : bkS (sSt σ i L rb) k = bkS σ k := by
  have hln := (hI.fil k hk).1
  show orr (fun p => bO (rb (60 * k + p))) (va_up σ.ln i L k) = _
  rw [va_up_ne _ _ h]
  exact orr_cong (fun p hp => by rw [hrb _ (by omega)])
theorem CW_st {g : GG} {ad : AD} {C C' : CC} {σ : Sg} {ρ : Rm} {i L : Nat} {rb : Nat → Option Nat} {pl : Nat → Int32} {B : Int64} (w : CW g ad σ ρ C) (hI : Inv σ) (hi : i < σ.nfl)
    (hC : ∀ j, j ≠ 39 + 2 * i → j ≠ 39 + 2 * i + 1 → C' j = C j) (hrb : ∀ q, q < 60 * i ∨ 60 * i + 60 ≤ q → rb q = σ.rb q)
    (h1 : C' (39 + 2 * i) = some (oSt ad (39 + 2 * i) (σ.ow i) (nI (σ.wo i)) L (nI σ.now) B)) (hB : B = orr (fun p => bO (rb (60 * i + p))) L)
    (h2 : C' (39 + 2 * i + 1) = some (eI g 60 pl)) (h3 : ∀ p, p < L → pl p = rI (rb (60 * i + p))) : CW g ad (sSt σ i L rb) ρ C' := by
  obtain ⟨f0, f1, f2, f3, f4, f5, f6, f7, f8, f9, f10, f11, f12, f13, f14, f15, f16, f17, f18, f19, hal, hfn, fp, fq, ffr⟩ := id w
  obtain ⟨hf1, hf2, hfl, hnn, hnm, hno, hc1, hc2⟩ := id hI.le
  have lo : ∀ j, j < 39 → C' j = C j := fun j hj => hC j (by omega) (by omega)
  refine ⟨(lo 0 (by decide)).trans f0, (lo 1 (by decide)).trans f1, (lo 2 (by decide)).trans f2, (lo 3 (by decide)).trans f3, (lo 4 (by decide)).trans f4, (lo 5 (by decide)).trans f5, (lo 6 (by decide)).trans f6, (lo 7 (by decide)).trans f7, (lo 8 (by decide)).trans f8, (lo 9 (by decide)).trans f9, (lo 10 (by decide)).trans f10, (lo 11 (by decide)).trans f11, (lo 12 (by decide)).trans f12, (lo 13 (by decide)).trans f13, (lo 14 (by decide)).trans f14, (lo 15 (by decide)).trans f15, (lo 16 (by decide)).trans f16, (lo 17 (by decide)).trans f17, (lo 18 (by decide)).trans f18, (lo 19 (by decide)).trans f19, hal, hfn, ?_, ?_, ?_⟩
  · intro k hk
    have hk' : k < σ.nfl := hk
    by_cases e : k = i
    · subst e
      have e1 : (sSt σ k L rb).ln k = L := by show va_up σ.ln k L k = L; simp [va_up]
      have e2 : (sSt σ k L rb).ch k = nI σ.now := by show va_up σ.ch k (nI σ.now) k = _; simp [va_up]
      have e3 : bkS (sSt σ k L rb) k = B := by rw [hB]; unfold bkS; rw [e1]; rfl
      rw [e1, e2, e3]; exact h1
    · rw [hC _ (by omega) (by omega), fp k hk', bkS_ne hI hk' e hrb]
      have e1 : (sSt σ i L rb).ln k = σ.ln k := va_up_ne _ _ e
      have e2 : (sSt σ i L rb).ch k = σ.ch k := va_up_ne _ _ e
      rw [e1, e2]; rfl
  · intro k hk
    have hk' : k < σ.nfl := hk
    by_cases e : k = i
    · subst e
      refine ⟨pl, h2, fun p hp => h3 p ?_⟩
      have e1 : (sSt σ k L rb).ln k = L := by show va_up σ.ln k L k = L; simp [va_up]
      rw [e1] at hp; exact hp
    · obtain ⟨pl', q1, q2⟩ := fq k hk'
      have hln := (hI.fil k hk').1
      refine ⟨pl', (hC _ (by omega) (by omega)).trans q1, fun p hp => ?_⟩
      have e1 : (sSt σ i L rb).ln k = σ.ln k := va_up_ne _ _ e
      rw [e1] at hp
      show pl' p = rI (rb (60 * k + p))
      rw [hrb _ (by omega)]; exact q2 p hp
  · intro j hj
    have hj' : 39 + 2 * σ.nfl ≤ j := hj
    rw [hC _ (by omega) (by omega)]; exact ffr j hj'
/-- the end of a change of one file -/
theorem PCl_st {g : GG} {ad : AD} {C C' : CC} {v : Value} {σ' : Sg} {ρ : Rm} {i : Nat} (w : CW g ad σ' ρ C') (hC : ∀ j, j ≠ 39 + 2 * i → j ≠ 39 + 2 * i + 1 → C' j = C j) : PCl g ad C v σ' (some v) ad C' :=
  ⟨rfl, ⟨ρ, w⟩, fun j _ h2 => hC j (by omega) (by omega), fun _ _ => rfl⟩
theorem up_eq {α : Type} {f : Nat → α} {k : Nat} {v : α} : va_up f k v k = v := by simp [va_up]
theorem up2 {C : CC} {a b : Nat} {u v : Option va_E} : ∀ j, j ≠ a → j ≠ b → va_up (va_up C b u) a v j = C j := fun j h1 h2 => by rw [va_up_ne _ _ h1, va_up_ne _ _ h2]
theorem CW_pu {g : GG} {ad : AD} {C : CC} {σ : Sg} {ρ : Rm} {i p : Nat} {c : Option Nat} {pl : Nat → Int32} (w : CW g ad σ ρ C) (hI : Inv σ) (hi : i < σ.nfl) (hp : p < cpl (σ.ln i)) (hc : ∀ b, c = some b → b < 60) (hpp : ∀ q, q < σ.ln i → pl q = rI (σ.rb (60 * i + q))) :
    CW g ad (sPu σ i p c) ρ (va_up (va_up C (39 + 2 * i + 1) (some (eI g 60 (upd pl p (rI c))))) (39 + 2 * i) (some (oSt ad (39 + 2 * i) (σ.ow i) (nI (σ.wo i)) (if p < σ.ln i then σ.ln i else p + 1) (nI σ.now) (orr (blF (upd pl p (rI c))) (if p < σ.ln i then σ.ln i else p + 1))))) := by
  have hp6 := cpl_le (σ.ln i)
  have hq : ∀ q, q < (if p < σ.ln i then σ.ln i else p + 1) → upd pl p (rI c) q = rI (va_up σ.rb (60 * i + p) c (60 * i + q)) := by
    intro q hq
    by_cases e : q = p
    · subst e; simp [upd, va_up]
    · rw [va_up_ne _ _ (by omega), ← hpp q (by
        by_cases h : p < σ.ln i
        · rw [if_pos h] at hq; exact hq
        · rw [if_neg h] at hq; unfold cpl at hp; split at hp <;> omega)]
      simp [upd, e]
  refine CW_st (i := i) (rb := va_up σ.rb (60 * i + p) c) (pl := upd pl p (rI c)) w hI hi up2 (fun q h => va_up_ne _ _ (by omega)) up_eq ?_ (by rw [va_up_ne _ _ (by omega)]; exact up_eq) hq
  refine orr_cong (fun q h => ?_)
  unfold blF
  rw [hq q h]
  cases e : va_up σ.rb (60 * i + p) c (60 * i + q) with
  | none => rfl
  | some b =>
    have hb : b < 60 := by
      by_cases e2 : 60 * i + q = 60 * i + p
      · rw [e2] at e; simp [va_up] at e; exact hc b e
      · rw [va_up_ne _ _ e2] at e; exact hI.blk _ b e
    have : ¬ rI (some b) = -1 := nI_m1 (by omega)
    rw [if_neg this]; rfl
theorem scan_free {v : Int64} {b : Nat} (hb : b < 60) (h1 : v.toBitVec.getLsbD b = false) (h2 : ∀ c, c < b → v.toBitVec.getLsbD c = true) : scan (fun i => mbr (v ^^^ (-1)) (nI i)) (nI 0) 0 60 = nI b := by
  have hm : ∀ i, i < 64 → mbr (v ^^^ (-1)) (nI i) = !v.toBitVec.getLsbD i := fun i hi => by rw [mbr_bit _ hi, not_bit v hi]
  have lp : ∀ m i, i + m = 60 → i ≤ b → scan (fun i => mbr (v ^^^ (-1)) (nI i)) (nI 0) i m = nI b := by
    intro m
    induction m with
    | zero => intro i h3 h4; omega
    | succ m ih =>
      intro i h3 h4
      by_cases e : i = b
      · subst e
        refine scan_hit (by rw [hm i (by omega), h1]; rfl) ?_
        rw [cnt_no (fun k hk => by rw [hm k (by omega), h2 k hk]; rfl)]
      · rw [scan_no (by rw [hm i (by omega), h2 i (by omega)]; rfl)]
        exact ih (i + 1) (by omega) (by omega)
  exact lp 60 0 (by omega) (by omega)
section CV
variable {l : Launch} {g : GG} {ad : AD} {C : CC} {σ : Sg} {ρ : Rm}
theorem k_X7_hole_no {x y : Int32} (w : CW g ad σ ρ C) (hI : Inv σ) (hx : inN x σ.nfl = false ∨ ∃ i, i < σ.nfl ∧ x = nI i ∧ (lv σ i && inN y (cpl (σ.ln i))) = false) : Cr l g yX7_hole cX7_hole 4 (some .boolean) 4 [.ref (ad 0), .int x, .int y] ad C (.int (bI false)) := by
  obtain ⟨f0, f1, f2, f3, f4, f5, f6, f7, f8, f9, f10, f11, f12, f13, f14, f15, f16, f17, f18, f19, hal, hfn, fp, fq, ffr⟩ := id w
  obtain ⟨hf1, hf2, hfl, hnn, hnm, hno, hc1, hc2⟩ := id hI.le
  refine Ct_of [some (.ref (ad 0)), some (.int x), some (.int y), none] (by decide) rfl rfl (Nat.le_of_ble_eq_true rfl) rfl rfl (fun X hX h => ?_)
  subst hX
  rcases hx with hx | ⟨i, hi, rfl, hx⟩
  · refine j_aload0 (pc := 0) h dX7_hole_0 ?_
    refine j_getf (pc := 1) h dX7_hole_1 (f0) fl_X7_19 rfl ?_
    refine j_iload1 (pc := 4) h dX7_hole_4 ?_
    refine j_callVr (pc := 5) h dX7_hole_5 (k_X0_find_no f5 hfl hx) mv_X7_101 (f5) rfl rfl (by decide) (Nat.le_of_ble_eq_true rfl) (Nat.le_of_ble_eq_true rfl) (Nat.le_of_ble_eq_true rfl) ?_
    refine j_astore3N (pc := 8) h dX7_hole_8 rfl ?_
    refine j_aload3N (pc := 9) h dX7_hole_9 ?_
    refine j_ifnullN (pc := 10) (tgt := 21) h dX7_hole_10 (by decide) ?_
    refine j_iconst (pc := 21) h dX7_hole_21 ic_0 ?_
    refine j_zretr (pc := 22) h dX7_hole_22 (by decide) (rfl)
  · have hln := (hI.fil i hi).1
    cases hl : lv σ i with
    | false =>
      refine j_aload0 (pc := 0) h dX7_hole_0 ?_
      refine j_getf (pc := 1) h dX7_hole_1 (f0) fl_X7_19 rfl ?_
      refine j_iload1 (pc := 4) h dX7_hole_4 ?_
      refine j_callVr (pc := 5) h dX7_hole_5 (k_X0_find_n f5 f6 hfl hi hal hl) mv_X7_101 (f5) rfl rfl (by decide) (Nat.le_of_ble_eq_true rfl) (Nat.le_of_ble_eq_true rfl) (Nat.le_of_ble_eq_true rfl) ?_
      refine j_astore3N (pc := 8) h dX7_hole_8 rfl ?_
      refine j_aload3N (pc := 9) h dX7_hole_9 ?_
      refine j_ifnullN (pc := 10) (tgt := 21) h dX7_hole_10 (by decide) ?_
      refine j_iconst (pc := 21) h dX7_hole_21 ic_0 ?_
      refine j_zretr (pc := 22) h dX7_hole_22 (by decide) (rfl)
    | true =>
      rw [hl] at hx
      refine j_aload0 (pc := 0) h dX7_hole_0 ?_
      refine j_getf (pc := 1) h dX7_hole_1 (f0) fl_X7_19 rfl ?_
      refine j_iload1 (pc := 4) h dX7_hole_4 ?_
      refine j_callVr (pc := 5) h dX7_hole_5 (k_X0_find f5 f6 hfl hi hal hl) mv_X7_101 (f5) rfl rfl (by decide) (Nat.le_of_ble_eq_true rfl) (Nat.le_of_ble_eq_true rfl) (Nat.le_of_ble_eq_true rfl) ?_
      refine j_astore3 (pc := 8) h dX7_hole_8 rfl ?_
      refine j_aload3 (pc := 9) h dX7_hole_9 ?_
      refine j_ifnull (pc := 10) h dX7_hole_10 ?_
      refine j_aload3 (pc := 13) h dX7_hole_13 ?_
      refine j_iload2 (pc := 14) h dX7_hole_14 ?_
      refine j_callVr (pc := 15) h dX7_hole_15 (k_X6_canPutAt (fp i hi) hln) mv_X7_118 (fp i hi) rfl rfl (by decide) (Nat.le_of_ble_eq_true rfl) (Nat.le_of_ble_eq_true rfl) (Nat.le_of_ble_eq_true rfl) ?_
      refine j_if_neB (pc := 18) (tgt := 23) h dX7_hole_18 (by decide) (fun c18 => absurd (c18.symm.trans (show inN y (cpl (σ.ln i)) = false by simpa using hx)) (by decide)) (fun c18 => ?_)
      refine j_iconst (pc := 21) h dX7_hole_21 ic_0 ?_
      refine j_zretr (pc := 22) h dX7_hole_22 (by decide) (rfl)
theorem k_X7_hole {i p : Nat} (w : CW g ad σ ρ C) (hI : Inv σ) (hi : i < σ.nfl) (hl : lv σ i = true) (hp : p < cpl (σ.ln i)) : Ct l g yX7_hole cX7_hole 4 (some .boolean) 4 0 0 [.ref (ad 0), .int (nI i), .int (nI p)] ad C (PCl g ad C (.int (bI true)) (sPu σ i p none)) := by
  obtain ⟨f0, f1, f2, f3, f4, f5, f6, f7, f8, f9, f10, f11, f12, f13, f14, f15, f16, f17, f18, f19, hal, hfn, fp, fq, ffr⟩ := id w
  obtain ⟨hf1, hf2, hfl, hnn, hnm, hno, hc1, hc2⟩ := id hI.le
  have hp6 := cpl_le (σ.ln i)
  have hln := (hI.fil i hi).1
  obtain ⟨pl, hpl, hpp⟩ := fq i hi
  refine Ct_of [some (.ref (ad 0)), some (.int (nI i)), some (.int (nI p)), none] (by decide) rfl rfl (Nat.le_of_ble_eq_true rfl) rfl rfl (fun X hX h => ?_)
  subst hX
  refine j_aload0 (pc := 0) h dX7_hole_0 ?_
  refine j_getf (pc := 1) h dX7_hole_1 (f0) fl_X7_19 rfl ?_
  refine j_iload1 (pc := 4) h dX7_hole_4 ?_
  refine j_callVr (pc := 5) h dX7_hole_5 (k_X0_find f5 f6 hfl hi hal hl) mv_X7_101 (f5) rfl rfl (by decide) (Nat.le_of_ble_eq_true rfl) (Nat.le_of_ble_eq_true rfl) (Nat.le_of_ble_eq_true rfl) ?_
  refine j_astore3 (pc := 8) h dX7_hole_8 rfl ?_
  refine j_aload3 (pc := 9) h dX7_hole_9 ?_
  refine j_ifnull (pc := 10) h dX7_hole_10 ?_
  refine j_aload3 (pc := 13) h dX7_hole_13 ?_
  refine j_iload2 (pc := 14) h dX7_hole_14 ?_
  refine j_callVr (pc := 15) h dX7_hole_15 (k_X6_canPutAt (fp i hi) hln) mv_X7_118 (fp i hi) rfl rfl (by decide) (Nat.le_of_ble_eq_true rfl) (Nat.le_of_ble_eq_true rfl) (Nat.le_of_ble_eq_true rfl) ?_
  refine j_if_neB (pc := 18) (tgt := 23) h dX7_hole_18 (by decide) (fun c18 => ?_) (fun c18 => absurd c18 (by rw [inN_nI (by omega)]; simp; omega))
  refine j_aload3 (pc := 23) h dX7_hole_23 ?_
  refine j_iload2 (pc := 24) h dX7_hole_24 ?_
  refine j_iconst (pc := 25) h dX7_hole_25 ic_m1 ?_
  refine j_aload0 (pc := 26) h dX7_hole_26 ?_
  refine j_getf (pc := 27) h dX7_hole_27 (f0) fl_X7_51 rfl ?_
  refine j_callV (pc := 30) h dX7_hole_30 (k_X6_put (fp i hi) hpl hln hp) mv_X7_137 (fp i hi) rfl rfl (by decide) (Nat.le_of_ble_eq_true rfl) (Nat.le_of_ble_eq_true rfl) (Nat.le_of_ble_eq_true rfl) (fun v30 ad30 C30 hp30 => ?_)
  obtain ⟨rfl, rfl, rfl⟩ := hp30
  refine j_iconst (pc := 33) h dX7_hole_33 ic_1 ?_
  refine j_zret (pc := 34) h dX7_hole_34 (nar_1) (PCl_st (i := i) (CW_pu (c := none) w hI hi hp (fun b h => by cases h) hpp) up2)
theorem k_X7_write_no {x y : Int32} (w : CW g ad σ ρ C) (hI : Inv σ) (hx : inN x σ.nfl = false ∨ ∃ i, i < σ.nfl ∧ x = nI i ∧ (lv σ i && inN y (cpl (σ.ln i))) = false) : Cr l g yX7_write cX7_write 7 (some .int) 5 [.ref (ad 0), .int x, .int y] ad C (.int (-1)) := by
  obtain ⟨f0, f1, f2, f3, f4, f5, f6, f7, f8, f9, f10, f11, f12, f13, f14, f15, f16, f17, f18, f19, hal, hfn, fp, fq, ffr⟩ := id w
  obtain ⟨hf1, hf2, hfl, hnn, hnm, hno, hc1, hc2⟩ := id hI.le
  refine Ct_of [some (.ref (ad 0)), some (.int x), some (.int y), none, none, none, none] (by decide) rfl rfl (Nat.le_of_ble_eq_true rfl) rfl rfl (fun X hX h => ?_)
  subst hX
  rcases hx with hx | ⟨i, hi, rfl, hx⟩
  · refine j_aload0 (pc := 0) h dX7_write_0 ?_
    refine j_getf (pc := 1) h dX7_write_1 (f0) fl_X7_19 rfl ?_
    refine j_iload1 (pc := 4) h dX7_write_4 ?_
    refine j_callVr (pc := 5) h dX7_write_5 (k_X0_find_no f5 hfl hx) mv_X7_101 (f5) rfl rfl (by decide) (Nat.le_of_ble_eq_true rfl) (Nat.le_of_ble_eq_true rfl) (Nat.le_of_ble_eq_true rfl) ?_
    refine j_astore3N (pc := 8) h dX7_write_8 rfl ?_
    refine j_aload3N (pc := 9) h dX7_write_9 ?_
    refine j_ifnullN (pc := 10) (tgt := 21) h dX7_write_10 (by decide) ?_
    refine j_iconst (pc := 21) h dX7_write_21 ic_m1 ?_
    refine j_iretr (pc := 22) h dX7_write_22 (rfl)
  · have hln := (hI.fil i hi).1
    cases hl : lv σ i with
    | false =>
      refine j_aload0 (pc := 0) h dX7_write_0 ?_
      refine j_getf (pc := 1) h dX7_write_1 (f0) fl_X7_19 rfl ?_
      refine j_iload1 (pc := 4) h dX7_write_4 ?_
      refine j_callVr (pc := 5) h dX7_write_5 (k_X0_find_n f5 f6 hfl hi hal hl) mv_X7_101 (f5) rfl rfl (by decide) (Nat.le_of_ble_eq_true rfl) (Nat.le_of_ble_eq_true rfl) (Nat.le_of_ble_eq_true rfl) ?_
      refine j_astore3N (pc := 8) h dX7_write_8 rfl ?_
      refine j_aload3N (pc := 9) h dX7_write_9 ?_
      refine j_ifnullN (pc := 10) (tgt := 21) h dX7_write_10 (by decide) ?_
      refine j_iconst (pc := 21) h dX7_write_21 ic_m1 ?_
      refine j_iretr (pc := 22) h dX7_write_22 (rfl)
    | true =>
      rw [hl] at hx
      refine j_aload0 (pc := 0) h dX7_write_0 ?_
      refine j_getf (pc := 1) h dX7_write_1 (f0) fl_X7_19 rfl ?_
      refine j_iload1 (pc := 4) h dX7_write_4 ?_
      refine j_callVr (pc := 5) h dX7_write_5 (k_X0_find f5 f6 hfl hi hal hl) mv_X7_101 (f5) rfl rfl (by decide) (Nat.le_of_ble_eq_true rfl) (Nat.le_of_ble_eq_true rfl) (Nat.le_of_ble_eq_true rfl) ?_
      refine j_astore3 (pc := 8) h dX7_write_8 rfl ?_
      refine j_aload3 (pc := 9) h dX7_write_9 ?_
      refine j_ifnull (pc := 10) h dX7_write_10 ?_
      refine j_aload3 (pc := 13) h dX7_write_13 ?_
      refine j_iload2 (pc := 14) h dX7_write_14 ?_
      refine j_callVr (pc := 15) h dX7_write_15 (k_X6_canPutAt (fp i hi) hln) mv_X7_118 (fp i hi) rfl rfl (by decide) (Nat.le_of_ble_eq_true rfl) (Nat.le_of_ble_eq_true rfl) (Nat.le_of_ble_eq_true rfl) ?_
      refine j_if_neB (pc := 18) (tgt := 23) h dX7_write_18 (by decide) (fun c18 => absurd (c18.symm.trans (show inN y (cpl (σ.ln i)) = false by simpa using hx)) (by decide)) (fun c18 => ?_)
      refine j_iconst (pc := 21) h dX7_write_21 ic_m1 ?_
      refine j_iretr (pc := 22) h dX7_write_22 (rfl)
theorem k_X7_write_fu {i p : Nat} (w : CW g ad σ ρ C) (hI : Inv σ) (hi : i < σ.nfl) (hl : lv σ i = true) (hp : p < cpl (σ.ln i)) (hfu : σ.cap ≤ pcn (had σ)) : Cr l g yX7_write cX7_write 7 (some .int) 5 [.ref (ad 0), .int (nI i), .int (nI p)] ad C (.int (-1)) := by
  obtain ⟨f0, f1, f2, f3, f4, f5, f6, f7, f8, f9, f10, f11, f12, f13, f14, f15, f16, f17, f18, f19, hal, hfn, fp, fq, ffr⟩ := id w
  obtain ⟨hf1, hf2, hfl, hnn, hnm, hno, hc1, hc2⟩ := id hI.le
  have hp6 := cpl_le (σ.ln i)
  have hpc := pcn_le (had σ)
  have hln := (hI.fil i hi).1
  refine Ct_of [some (.ref (ad 0)), some (.int (nI i)), some (.int (nI p)), none, none, none, none] (by decide) rfl rfl (Nat.le_of_ble_eq_true rfl) rfl rfl (fun X hX h => ?_)
  subst hX
  refine j_aload0 (pc := 0) h dX7_write_0 ?_
  refine j_getf (pc := 1) h dX7_write_1 (f0) fl_X7_19 rfl ?_
  refine j_iload1 (pc := 4) h dX7_write_4 ?_
  refine j_callVr (pc := 5) h dX7_write_5 (k_X0_find f5 f6 hfl hi hal hl) mv_X7_101 (f5) rfl rfl (by decide) (Nat.le_of_ble_eq_true rfl) (Nat.le_of_ble_eq_true rfl) (Nat.le_of_ble_eq_true rfl) ?_
  refine j_astore3 (pc := 8) h dX7_write_8 rfl ?_
  refine j_aload3 (pc := 9) h dX7_write_9 ?_
  refine j_ifnull (pc := 10) h dX7_write_10 ?_
  refine j_aload3 (pc := 13) h dX7_write_13 ?_
  refine j_iload2 (pc := 14) h dX7_write_14 ?_
  refine j_callVr (pc := 15) h dX7_write_15 (k_X6_canPutAt (fp i hi) hln) mv_X7_118 (fp i hi) rfl rfl (by decide) (Nat.le_of_ble_eq_true rfl) (Nat.le_of_ble_eq_true rfl) (Nat.le_of_ble_eq_true rfl) ?_
  refine j_if_neB (pc := 18) (tgt := 23) h dX7_write_18 (by decide) (fun c18 => ?_) (fun c18 => absurd c18 (by rw [inN_nI (by omega)]; simp; omega))
  refine j_aload0 (pc := 23) h dX7_write_23 ?_
  refine j_callVr (pc := 24) h dX7_write_24 (k_X7_blocksHad w hI) mv_X7_121 (f0) rfl rfl (by decide) (Nat.le_of_ble_eq_true rfl) (Nat.le_of_ble_eq_true rfl) (Nat.le_of_ble_eq_true rfl) ?_
  refine j_lstore4 (pc := 27) h dX7_write_27 rfl ?_
  refine j_lload4 (pc := 29) h dX7_write_29 ?_
  refine j_callSr (pc := 31) h dX7_write_31 (k_J13_bitCount_95d88) ms_X7_125 rfl rfl (by decide) (Nat.le_of_ble_eq_true rfl) (Nat.le_of_ble_eq_true rfl) (Nat.le_of_ble_eq_true rfl) ?_
  refine j_aload0 (pc := 34) h dX7_write_34 ?_
  refine j_getf (pc := 35) h dX7_write_35 (f0) fl_X7_55 rfl ?_
  refine j_icmp_lt (pc := 38) (tgt := 43) h dX7_write_38 (by decide) (fun c38 => absurd c38 (nI_nlt hfu (by omega))) (fun c38 => ?_)
  refine j_iconst (pc := 41) h dX7_write_41 ic_m1 ?_
  refine j_iretr (pc := 42) h dX7_write_42 (rfl)
theorem k_X7_write {i p b : Nat} (w : CW g ad σ ρ C) (hI : Inv σ) (hi : i < σ.nfl) (hl : lv σ i = true) (hp : p < cpl (σ.ln i)) (hfu : pcn (had σ) < σ.cap) (hb : b < 60) (hb1 : (had σ).toBitVec.getLsbD b = false) (hb2 : ∀ c, c < b → (had σ).toBitVec.getLsbD c = true) : Ct l g yX7_write cX7_write 7 (some .int) 5 0 0 [.ref (ad 0), .int (nI i), .int (nI p)] ad C (PCl g ad C (.int (nI b)) (sPu σ i p (some b))) := by
  obtain ⟨f0, f1, f2, f3, f4, f5, f6, f7, f8, f9, f10, f11, f12, f13, f14, f15, f16, f17, f18, f19, hal, hfn, fp, fq, ffr⟩ := id w
  obtain ⟨hf1, hf2, hfl, hnn, hnm, hno, hc1, hc2⟩ := id hI.le
  have hp6 := cpl_le (σ.ln i)
  have hpc := pcn_le (had σ)
  have hln := (hI.fil i hi).1
  obtain ⟨pl, hpl, hpp⟩ := fq i hi
  refine Ct_of [some (.ref (ad 0)), some (.int (nI i)), some (.int (nI p)), none, none, none, none] (by decide) rfl rfl (Nat.le_of_ble_eq_true rfl) rfl rfl (fun X hX h => ?_)
  subst hX
  refine j_aload0 (pc := 0) h dX7_write_0 ?_
  refine j_getf (pc := 1) h dX7_write_1 (f0) fl_X7_19 rfl ?_
  refine j_iload1 (pc := 4) h dX7_write_4 ?_
  refine j_callVr (pc := 5) h dX7_write_5 (k_X0_find f5 f6 hfl hi hal hl) mv_X7_101 (f5) rfl rfl (by decide) (Nat.le_of_ble_eq_true rfl) (Nat.le_of_ble_eq_true rfl) (Nat.le_of_ble_eq_true rfl) ?_
  refine j_astore3 (pc := 8) h dX7_write_8 rfl ?_
  refine j_aload3 (pc := 9) h dX7_write_9 ?_
  refine j_ifnull (pc := 10) h dX7_write_10 ?_
  refine j_aload3 (pc := 13) h dX7_write_13 ?_
  refine j_iload2 (pc := 14) h dX7_write_14 ?_
  refine j_callVr (pc := 15) h dX7_write_15 (k_X6_canPutAt (fp i hi) hln) mv_X7_118 (fp i hi) rfl rfl (by decide) (Nat.le_of_ble_eq_true rfl) (Nat.le_of_ble_eq_true rfl) (Nat.le_of_ble_eq_true rfl) ?_
  refine j_if_neB (pc := 18) (tgt := 23) h dX7_write_18 (by decide) (fun c18 => ?_) (fun c18 => absurd c18 (by rw [inN_nI (by omega)]; simp; omega))
  refine j_aload0 (pc := 23) h dX7_write_23 ?_
  refine j_callVr (pc := 24) h dX7_write_24 (k_X7_blocksHad w hI) mv_X7_121 (f0) rfl rfl (by decide) (Nat.le_of_ble_eq_true rfl) (Nat.le_of_ble_eq_true rfl) (Nat.le_of_ble_eq_true rfl) ?_
  refine j_lstore4 (pc := 27) h dX7_write_27 rfl ?_
  refine j_lload4 (pc := 29) h dX7_write_29 ?_
  refine j_callSr (pc := 31) h dX7_write_31 (k_J13_bitCount_95d88) ms_X7_125 rfl rfl (by decide) (Nat.le_of_ble_eq_true rfl) (Nat.le_of_ble_eq_true rfl) (Nat.le_of_ble_eq_true rfl) ?_
  refine j_aload0 (pc := 34) h dX7_write_34 ?_
  refine j_getf (pc := 35) h dX7_write_35 (f0) fl_X7_55 rfl ?_
  refine j_icmp_lt (pc := 38) (tgt := 43) h dX7_write_38 (by decide) (fun c38 => ?_) (fun c38 => absurd (nI_lt hfu (by omega)) c38)
  refine j_lload4 (pc := 43) h dX7_write_43 ?_
  refine j_ldc2 (pc := 45) h dX7_write_45 kc_X7_131 ?_
  refine j_lxor (pc := 48) h dX7_write_48 ?_
  refine j_iconst (pc := 49) h dX7_write_49 ic_0 ?_
  refine j_bipush (pc := 50) h dX7_write_50 bp_60 ?_
  refine j_callSr (pc := 52) h dX7_write_52 (k_X7_memberOf (n := 60) (by decide)) ms_X7_133 rfl rfl (by decide) (Nat.le_of_ble_eq_true rfl) (Nat.le_of_ble_eq_true rfl) (Nat.le_of_ble_eq_true rfl) ?_
  refine j_topi (scan_free hb hb1 hb2) ?_
  refine j_istore6 (pc := 55) h dX7_write_55 rfl ?_
  refine j_iload6 (pc := 57) h dX7_write_57 ?_
  refine j_iconst (pc := 59) h dX7_write_59 ic_m1 ?_
  refine j_icmp_eq (pc := 60) (tgt := 74) h dX7_write_60 (by decide) (fun c60 => absurd c60 (nI_m1 (by omega))) (fun c60 => ?_)
  refine j_aload3 (pc := 63) h dX7_write_63 ?_
  refine j_iload2 (pc := 64) h dX7_write_64 ?_
  refine j_iload6 (pc := 65) h dX7_write_65 ?_
  refine j_aload0 (pc := 67) h dX7_write_67 ?_
  refine j_getf (pc := 68) h dX7_write_68 (f0) fl_X7_51 rfl ?_
  refine j_callV (pc := 71) h dX7_write_71 (k_X6_put (fp i hi) hpl hln hp) mv_X7_137 (fp i hi) rfl rfl (by decide) (Nat.le_of_ble_eq_true rfl) (Nat.le_of_ble_eq_true rfl) (Nat.le_of_ble_eq_true rfl) (fun v71 ad71 C71 hp71 => ?_)
  obtain ⟨rfl, rfl, rfl⟩ := hp71
  refine j_iload6 (pc := 74) h dX7_write_74 ?_
  refine j_iret (pc := 76) h dX7_write_76 (PCl_st (i := i) (CW_pu (c := some b) w hI hi hp (fun b' h => by cases h; exact hb) hpp) up2)
theorem k_X7_share_no {x y z u : Int32} (w : CW g ad σ ρ C) (hI : Inv σ) (hx : inN x σ.nfl = false ∨ ∃ i, i < σ.nfl ∧ x = nI i ∧ (lv σ i && inN y (cpl (σ.ln i))) = false) : Cr l g yX7_share cX7_share 8 (some .boolean) 4 [.ref (ad 0), .int x, .int y, .int z, .int u] ad C (.int (bI false)) := by
  obtain ⟨f0, f1, f2, f3, f4, f5, f6, f7, f8, f9, f10, f11, f12, f13, f14, f15, f16, f17, f18, f19, hal, hfn, fp, fq, ffr⟩ := id w
  obtain ⟨hf1, hf2, hfl, hnn, hnm, hno, hc1, hc2⟩ := id hI.le
  refine Ct_of [some (.ref (ad 0)), some (.int x), some (.int y), some (.int z), some (.int u), none, none, none] (by decide) rfl rfl (Nat.le_of_ble_eq_true rfl) rfl rfl (fun X hX h => ?_)
  subst hX
  rcases inN_cases z σ.nfl with hz | ⟨j, hj, rfl⟩
  · rcases inN_cases x σ.nfl with hz' | ⟨i, hi, rfl⟩
    · refine j_aload0 (pc := 0) h dX7_share_0 ?_
      refine j_getf (pc := 1) h dX7_share_1 (f0) fl_X7_19 rfl ?_
      refine j_iload1 (pc := 4) h dX7_share_4 ?_
      refine j_callVr (pc := 5) h dX7_share_5 (k_X0_find_no f5 hfl hz') mv_X7_101 (f5) rfl rfl (by decide) (Nat.le_of_ble_eq_true rfl) (Nat.le_of_ble_eq_true rfl) (Nat.le_of_ble_eq_true rfl) ?_
      refine j_astore5N (pc := 8) h dX7_share_8 rfl ?_
      refine j_aload0 (pc := 10) h dX7_share_10 ?_
      refine j_getf (pc := 11) h dX7_share_11 (f0) fl_X7_19 rfl ?_
      refine j_iload3 (pc := 14) h dX7_share_14 ?_
      refine j_callVr (pc := 15) h dX7_share_15 (k_X0_find_no f5 hfl hz) mv_X7_101 (f5) rfl rfl (by decide) (Nat.le_of_ble_eq_true rfl) (Nat.le_of_ble_eq_true rfl) (Nat.le_of_ble_eq_true rfl) ?_
      refine j_astore6N (pc := 18) h dX7_share_18 rfl ?_
      refine j_aload5N (pc := 20) h dX7_share_20 ?_
      refine j_ifnullN (pc := 22) (tgt := 39) h dX7_share_22 (by decide) ?_
      refine j_iconst (pc := 39) h dX7_share_39 ic_0 ?_
      refine j_zretr (pc := 40) h dX7_share_40 (by decide) (rfl)
    · cases hl : lv σ i with
      | false =>
        refine j_aload0 (pc := 0) h dX7_share_0 ?_
        refine j_getf (pc := 1) h dX7_share_1 (f0) fl_X7_19 rfl ?_
        refine j_iload1 (pc := 4) h dX7_share_4 ?_
        refine j_callVr (pc := 5) h dX7_share_5 (k_X0_find_n f5 f6 hfl hi hal hl) mv_X7_101 (f5) rfl rfl (by decide) (Nat.le_of_ble_eq_true rfl) (Nat.le_of_ble_eq_true rfl) (Nat.le_of_ble_eq_true rfl) ?_
        refine j_astore5N (pc := 8) h dX7_share_8 rfl ?_
        refine j_aload0 (pc := 10) h dX7_share_10 ?_
        refine j_getf (pc := 11) h dX7_share_11 (f0) fl_X7_19 rfl ?_
        refine j_iload3 (pc := 14) h dX7_share_14 ?_
        refine j_callVr (pc := 15) h dX7_share_15 (k_X0_find_no f5 hfl hz) mv_X7_101 (f5) rfl rfl (by decide) (Nat.le_of_ble_eq_true rfl) (Nat.le_of_ble_eq_true rfl) (Nat.le_of_ble_eq_true rfl) ?_
        refine j_astore6N (pc := 18) h dX7_share_18 rfl ?_
        refine j_aload5N (pc := 20) h dX7_share_20 ?_
        refine j_ifnullN (pc := 22) (tgt := 39) h dX7_share_22 (by decide) ?_
        refine j_iconst (pc := 39) h dX7_share_39 ic_0 ?_
        refine j_zretr (pc := 40) h dX7_share_40 (by decide) (rfl)
      | true =>
        refine j_aload0 (pc := 0) h dX7_share_0 ?_
        refine j_getf (pc := 1) h dX7_share_1 (f0) fl_X7_19 rfl ?_
        refine j_iload1 (pc := 4) h dX7_share_4 ?_
        refine j_callVr (pc := 5) h dX7_share_5 (k_X0_find f5 f6 hfl hi hal hl) mv_X7_101 (f5) rfl rfl (by decide) (Nat.le_of_ble_eq_true rfl) (Nat.le_of_ble_eq_true rfl) (Nat.le_of_ble_eq_true rfl) ?_
        refine j_astore5 (pc := 8) h dX7_share_8 rfl ?_
        refine j_aload0 (pc := 10) h dX7_share_10 ?_
        refine j_getf (pc := 11) h dX7_share_11 (f0) fl_X7_19 rfl ?_
        refine j_iload3 (pc := 14) h dX7_share_14 ?_
        refine j_callVr (pc := 15) h dX7_share_15 (k_X0_find_no f5 hfl hz) mv_X7_101 (f5) rfl rfl (by decide) (Nat.le_of_ble_eq_true rfl) (Nat.le_of_ble_eq_true rfl) (Nat.le_of_ble_eq_true rfl) ?_
        refine j_astore6N (pc := 18) h dX7_share_18 rfl ?_
        refine j_aload5 (pc := 20) h dX7_share_20 ?_
        refine j_ifnull (pc := 22) h dX7_share_22 ?_
        refine j_aload6N (pc := 25) h dX7_share_25 ?_
        refine j_ifnullN (pc := 27) (tgt := 39) h dX7_share_27 (by decide) ?_
        refine j_iconst (pc := 39) h dX7_share_39 ic_0 ?_
        refine j_zretr (pc := 40) h dX7_share_40 (by decide) (rfl)
  · cases hj2 : lv σ j with
    | false =>
      rcases inN_cases x σ.nfl with hz' | ⟨i, hi, rfl⟩
      · refine j_aload0 (pc := 0) h dX7_share_0 ?_
        refine j_getf (pc := 1) h dX7_share_1 (f0) fl_X7_19 rfl ?_
        refine j_iload1 (pc := 4) h dX7_share_4 ?_
        refine j_callVr (pc := 5) h dX7_share_5 (k_X0_find_no f5 hfl hz') mv_X7_101 (f5) rfl rfl (by decide) (Nat.le_of_ble_eq_true rfl) (Nat.le_of_ble_eq_true rfl) (Nat.le_of_ble_eq_true rfl) ?_
        refine j_astore5N (pc := 8) h dX7_share_8 rfl ?_
        refine j_aload0 (pc := 10) h dX7_share_10 ?_
        refine j_getf (pc := 11) h dX7_share_11 (f0) fl_X7_19 rfl ?_
        refine j_iload3 (pc := 14) h dX7_share_14 ?_
        refine j_callVr (pc := 15) h dX7_share_15 (k_X0_find_n f5 f6 hfl hj hal hj2) mv_X7_101 (f5) rfl rfl (by decide) (Nat.le_of_ble_eq_true rfl) (Nat.le_of_ble_eq_true rfl) (Nat.le_of_ble_eq_true rfl) ?_
        refine j_astore6N (pc := 18) h dX7_share_18 rfl ?_
        refine j_aload5N (pc := 20) h dX7_share_20 ?_
        refine j_ifnullN (pc := 22) (tgt := 39) h dX7_share_22 (by decide) ?_
        refine j_iconst (pc := 39) h dX7_share_39 ic_0 ?_
        refine j_zretr (pc := 40) h dX7_share_40 (by decide) (rfl)
      · cases hl : lv σ i with
        | false =>
          refine j_aload0 (pc := 0) h dX7_share_0 ?_
          refine j_getf (pc := 1) h dX7_share_1 (f0) fl_X7_19 rfl ?_
          refine j_iload1 (pc := 4) h dX7_share_4 ?_
          refine j_callVr (pc := 5) h dX7_share_5 (k_X0_find_n f5 f6 hfl hi hal hl) mv_X7_101 (f5) rfl rfl (by decide) (Nat.le_of_ble_eq_true rfl) (Nat.le_of_ble_eq_true rfl) (Nat.le_of_ble_eq_true rfl) ?_
          refine j_astore5N (pc := 8) h dX7_share_8 rfl ?_
          refine j_aload0 (pc := 10) h dX7_share_10 ?_
          refine j_getf (pc := 11) h dX7_share_11 (f0) fl_X7_19 rfl ?_
          refine j_iload3 (pc := 14) h dX7_share_14 ?_
          refine j_callVr (pc := 15) h dX7_share_15 (k_X0_find_n f5 f6 hfl hj hal hj2) mv_X7_101 (f5) rfl rfl (by decide) (Nat.le_of_ble_eq_true rfl) (Nat.le_of_ble_eq_true rfl) (Nat.le_of_ble_eq_true rfl) ?_
          refine j_astore6N (pc := 18) h dX7_share_18 rfl ?_
          refine j_aload5N (pc := 20) h dX7_share_20 ?_
          refine j_ifnullN (pc := 22) (tgt := 39) h dX7_share_22 (by decide) ?_
          refine j_iconst (pc := 39) h dX7_share_39 ic_0 ?_
          refine j_zretr (pc := 40) h dX7_share_40 (by decide) (rfl)
        | true =>
          refine j_aload0 (pc := 0) h dX7_share_0 ?_
          refine j_getf (pc := 1) h dX7_share_1 (f0) fl_X7_19 rfl ?_
          refine j_iload1 (pc := 4) h dX7_share_4 ?_
          refine j_callVr (pc := 5) h dX7_share_5 (k_X0_find f5 f6 hfl hi hal hl) mv_X7_101 (f5) rfl rfl (by decide) (Nat.le_of_ble_eq_true rfl) (Nat.le_of_ble_eq_true rfl) (Nat.le_of_ble_eq_true rfl) ?_
          refine j_astore5 (pc := 8) h dX7_share_8 rfl ?_
          refine j_aload0 (pc := 10) h dX7_share_10 ?_
          refine j_getf (pc := 11) h dX7_share_11 (f0) fl_X7_19 rfl ?_
          refine j_iload3 (pc := 14) h dX7_share_14 ?_
          refine j_callVr (pc := 15) h dX7_share_15 (k_X0_find_n f5 f6 hfl hj hal hj2) mv_X7_101 (f5) rfl rfl (by decide) (Nat.le_of_ble_eq_true rfl) (Nat.le_of_ble_eq_true rfl) (Nat.le_of_ble_eq_true rfl) ?_
          refine j_astore6N (pc := 18) h dX7_share_18 rfl ?_
          refine j_aload5 (pc := 20) h dX7_share_20 ?_
          refine j_ifnull (pc := 22) h dX7_share_22 ?_
          refine j_aload6N (pc := 25) h dX7_share_25 ?_
          refine j_ifnullN (pc := 27) (tgt := 39) h dX7_share_27 (by decide) ?_
          refine j_iconst (pc := 39) h dX7_share_39 ic_0 ?_
          refine j_zretr (pc := 40) h dX7_share_40 (by decide) (rfl)
    | true =>
      rcases hx with hx | ⟨i, hi, rfl, hx⟩
      · refine j_aload0 (pc := 0) h dX7_share_0 ?_
        refine j_getf (pc := 1) h dX7_share_1 (f0) fl_X7_19 rfl ?_
        refine j_iload1 (pc := 4) h dX7_share_4 ?_
        refine j_callVr (pc := 5) h dX7_share_5 (k_X0_find_no f5 hfl hx) mv_X7_101 (f5) rfl rfl (by decide) (Nat.le_of_ble_eq_true rfl) (Nat.le_of_ble_eq_true rfl) (Nat.le_of_ble_eq_true rfl) ?_
        refine j_astore5N (pc := 8) h dX7_share_8 rfl ?_
        refine j_aload0 (pc := 10) h dX7_share_10 ?_
        refine j_getf (pc := 11) h dX7_share_11 (f0) fl_X7_19 rfl ?_
        refine j_iload3 (pc := 14) h dX7_share_14 ?_
        refine j_callVr (pc := 15) h dX7_share_15 (k_X0_find f5 f6 hfl hj hal hj2) mv_X7_101 (f5) rfl rfl (by decide) (Nat.le_of_ble_eq_true rfl) (Nat.le_of_ble_eq_true rfl) (Nat.le_of_ble_eq_true rfl) ?_
        refine j_astore6 (pc := 18) h dX7_share_18 rfl ?_
        refine j_aload5N (pc := 20) h dX7_share_20 ?_
        refine j_ifnullN (pc := 22) (tgt := 39) h dX7_share_22 (by decide) ?_
        refine j_iconst (pc := 39) h dX7_share_39 ic_0 ?_
        refine j_zretr (pc := 40) h dX7_share_40 (by decide) (rfl)
      · have hln := (hI.fil i hi).1
        cases hl : lv σ i with
        | false =>
          refine j_aload0 (pc := 0) h dX7_share_0 ?_
          refine j_getf (pc := 1) h dX7_share_1 (f0) fl_X7_19 rfl ?_
          refine j_iload1 (pc := 4) h dX7_share_4 ?_
          refine j_callVr (pc := 5) h dX7_share_5 (k_X0_find_n f5 f6 hfl hi hal hl) mv_X7_101 (f5) rfl rfl (by decide) (Nat.le_of_ble_eq_true rfl) (Nat.le_of_ble_eq_true rfl) (Nat.le_of_ble_eq_true rfl) ?_
          refine j_astore5N (pc := 8) h dX7_share_8 rfl ?_
          refine j_aload0 (pc := 10) h dX7_share_10 ?_
          refine j_getf (pc := 11) h dX7_share_11 (f0) fl_X7_19 rfl ?_
          refine j_iload3 (pc := 14) h dX7_share_14 ?_
          refine j_callVr (pc := 15) h dX7_share_15 (k_X0_find f5 f6 hfl hj hal hj2) mv_X7_101 (f5) rfl rfl (by decide) (Nat.le_of_ble_eq_true rfl) (Nat.le_of_ble_eq_true rfl) (Nat.le_of_ble_eq_true rfl) ?_
          refine j_astore6 (pc := 18) h dX7_share_18 rfl ?_
          refine j_aload5N (pc := 20) h dX7_share_20 ?_
          refine j_ifnullN (pc := 22) (tgt := 39) h dX7_share_22 (by decide) ?_
          refine j_iconst (pc := 39) h dX7_share_39 ic_0 ?_
          refine j_zretr (pc := 40) h dX7_share_40 (by decide) (rfl)
        | true =>
          rw [hl] at hx
          refine j_aload0 (pc := 0) h dX7_share_0 ?_
          refine j_getf (pc := 1) h dX7_share_1 (f0) fl_X7_19 rfl ?_
          refine j_iload1 (pc := 4) h dX7_share_4 ?_
          refine j_callVr (pc := 5) h dX7_share_5 (k_X0_find f5 f6 hfl hi hal hl) mv_X7_101 (f5) rfl rfl (by decide) (Nat.le_of_ble_eq_true rfl) (Nat.le_of_ble_eq_true rfl) (Nat.le_of_ble_eq_true rfl) ?_
          refine j_astore5 (pc := 8) h dX7_share_8 rfl ?_
          refine j_aload0 (pc := 10) h dX7_share_10 ?_
          refine j_getf (pc := 11) h dX7_share_11 (f0) fl_X7_19 rfl ?_
          refine j_iload3 (pc := 14) h dX7_share_14 ?_
          refine j_callVr (pc := 15) h dX7_share_15 (k_X0_find f5 f6 hfl hj hal hj2) mv_X7_101 (f5) rfl rfl (by decide) (Nat.le_of_ble_eq_true rfl) (Nat.le_of_ble_eq_true rfl) (Nat.le_of_ble_eq_true rfl) ?_
          refine j_astore6 (pc := 18) h dX7_share_18 rfl ?_
          refine j_aload5 (pc := 20) h dX7_share_20 ?_
          refine j_ifnull (pc := 22) h dX7_share_22 ?_
          refine j_aload6 (pc := 25) h dX7_share_25 ?_
          refine j_ifnull (pc := 27) h dX7_share_27 ?_
          refine j_aload5 (pc := 30) h dX7_share_30 ?_
          refine j_iload2 (pc := 32) h dX7_share_32 ?_
          refine j_callVr (pc := 33) h dX7_share_33 (k_X6_canPutAt (fp i hi) hln) mv_X7_118 (fp i hi) rfl rfl (by decide) (Nat.le_of_ble_eq_true rfl) (Nat.le_of_ble_eq_true rfl) (Nat.le_of_ble_eq_true rfl) ?_
          refine j_if_neB (pc := 36) (tgt := 41) h dX7_share_36 (by decide) (fun c36 => absurd (c36.symm.trans (show inN y (cpl (σ.ln i)) = false by simpa using hx)) (by decide)) (fun c36 => ?_)
          refine j_iconst (pc := 39) h dX7_share_39 ic_0 ?_
          refine j_zretr (pc := 40) h dX7_share_40 (by decide) (rfl)
theorem k_X7_share_nb {i p : Nat} {z u : Int32} (w : CW g ad σ ρ C) (hI : Inv σ) (hi : i < σ.nfl) (hl : lv σ i = true) (hp : p < cpl (σ.ln i)) (hx : inN z σ.nfl = false ∨ (∃ j, j < σ.nfl ∧ z = nI j ∧ (lv σ j && inN u (σ.ln j)) = false) ∨ ∃ j q, j < σ.nfl ∧ lv σ j = true ∧ q < σ.ln j ∧ z = nI j ∧ u = nI q ∧ σ.rb (60 * j + q) = none) : Cr l g yX7_share cX7_share 8 (some .boolean) 4 [.ref (ad 0), .int (nI i), .int (nI p), .int z, .int u] ad C (.int (bI false)) := by
  obtain ⟨f0, f1, f2, f3, f4, f5, f6, f7, f8, f9, f10, f11, f12, f13, f14, f15, f16, f17, f18, f19, hal, hfn, fp, fq, ffr⟩ := id w
  obtain ⟨hf1, hf2, hfl, hnn, hnm, hno, hc1, hc2⟩ := id hI.le
  have hp6 := cpl_le (σ.ln i)
  have hln := (hI.fil i hi).1
  refine Ct_of [some (.ref (ad 0)), some (.int (nI i)), some (.int (nI p)), some (.int z), some (.int u), none, none, none] (by decide) rfl rfl (Nat.le_of_ble_eq_true rfl) rfl rfl (fun X hX h => ?_)
  subst hX
  rcases hx with hx | ⟨j, hj, rfl, hx⟩ | ⟨j, q, hj, hlj, hq, rfl, rfl, hx⟩
  · refine j_aload0 (pc := 0) h dX7_share_0 ?_
    refine j_getf (pc := 1) h dX7_share_1 (f0) fl_X7_19 rfl ?_
    refine j_iload1 (pc := 4) h dX7_share_4 ?_
    refine j_callVr (pc := 5) h dX7_share_5 (k_X0_find f5 f6 hfl hi hal hl) mv_X7_101 (f5) rfl rfl (by decide) (Nat.le_of_ble_eq_true rfl) (Nat.le_of_ble_eq_true rfl) (Nat.le_of_ble_eq_true rfl) ?_
    refine j_astore5 (pc := 8) h dX7_share_8 rfl ?_
    refine j_aload0 (pc := 10) h dX7_share_10 ?_
    refine j_getf (pc := 11) h dX7_share_11 (f0) fl_X7_19 rfl ?_
    refine j_iload3 (pc := 14) h dX7_share_14 ?_
    refine j_callVr (pc := 15) h dX7_share_15 (k_X0_find_no f5 hfl hx) mv_X7_101 (f5) rfl rfl (by decide) (Nat.le_of_ble_eq_true rfl) (Nat.le_of_ble_eq_true rfl) (Nat.le_of_ble_eq_true rfl) ?_
    refine j_astore6N (pc := 18) h dX7_share_18 rfl ?_
    refine j_aload5 (pc := 20) h dX7_share_20 ?_
    refine j_ifnull (pc := 22) h dX7_share_22 ?_
    refine j_aload6N (pc := 25) h dX7_share_25 ?_
    refine j_ifnullN (pc := 27) (tgt := 39) h dX7_share_27 (by decide) ?_
    refine j_iconst (pc := 39) h dX7_share_39 ic_0 ?_
    refine j_zretr (pc := 40) h dX7_share_40 (by decide) (rfl)
  · have hlj' := (hI.fil j hj).1
    cases hlj : lv σ j with
    | false =>
      refine j_aload0 (pc := 0) h dX7_share_0 ?_
      refine j_getf (pc := 1) h dX7_share_1 (f0) fl_X7_19 rfl ?_
      refine j_iload1 (pc := 4) h dX7_share_4 ?_
      refine j_callVr (pc := 5) h dX7_share_5 (k_X0_find f5 f6 hfl hi hal hl) mv_X7_101 (f5) rfl rfl (by decide) (Nat.le_of_ble_eq_true rfl) (Nat.le_of_ble_eq_true rfl) (Nat.le_of_ble_eq_true rfl) ?_
      refine j_astore5 (pc := 8) h dX7_share_8 rfl ?_
      refine j_aload0 (pc := 10) h dX7_share_10 ?_
      refine j_getf (pc := 11) h dX7_share_11 (f0) fl_X7_19 rfl ?_
      refine j_iload3 (pc := 14) h dX7_share_14 ?_
      refine j_callVr (pc := 15) h dX7_share_15 (k_X0_find_n f5 f6 hfl hj hal hlj) mv_X7_101 (f5) rfl rfl (by decide) (Nat.le_of_ble_eq_true rfl) (Nat.le_of_ble_eq_true rfl) (Nat.le_of_ble_eq_true rfl) ?_
      refine j_astore6N (pc := 18) h dX7_share_18 rfl ?_
      refine j_aload5 (pc := 20) h dX7_share_20 ?_
      refine j_ifnull (pc := 22) h dX7_share_22 ?_
      refine j_aload6N (pc := 25) h dX7_share_25 ?_
      refine j_ifnullN (pc := 27) (tgt := 39) h dX7_share_27 (by decide) ?_
      refine j_iconst (pc := 39) h dX7_share_39 ic_0 ?_
      refine j_zretr (pc := 40) h dX7_share_40 (by decide) (rfl)
    | true =>
      rw [hlj] at hx
      refine j_aload0 (pc := 0) h dX7_share_0 ?_
      refine j_getf (pc := 1) h dX7_share_1 (f0) fl_X7_19 rfl ?_
      refine j_iload1 (pc := 4) h dX7_share_4 ?_
      refine j_callVr (pc := 5) h dX7_share_5 (k_X0_find f5 f6 hfl hi hal hl) mv_X7_101 (f5) rfl rfl (by decide) (Nat.le_of_ble_eq_true rfl) (Nat.le_of_ble_eq_true rfl) (Nat.le_of_ble_eq_true rfl) ?_
      refine j_astore5 (pc := 8) h dX7_share_8 rfl ?_
      refine j_aload0 (pc := 10) h dX7_share_10 ?_
      refine j_getf (pc := 11) h dX7_share_11 (f0) fl_X7_19 rfl ?_
      refine j_iload3 (pc := 14) h dX7_share_14 ?_
      refine j_callVr (pc := 15) h dX7_share_15 (k_X0_find f5 f6 hfl hj hal hlj) mv_X7_101 (f5) rfl rfl (by decide) (Nat.le_of_ble_eq_true rfl) (Nat.le_of_ble_eq_true rfl) (Nat.le_of_ble_eq_true rfl) ?_
      refine j_astore6 (pc := 18) h dX7_share_18 rfl ?_
      refine j_aload5 (pc := 20) h dX7_share_20 ?_
      refine j_ifnull (pc := 22) h dX7_share_22 ?_
      refine j_aload6 (pc := 25) h dX7_share_25 ?_
      refine j_ifnull (pc := 27) h dX7_share_27 ?_
      refine j_aload5 (pc := 30) h dX7_share_30 ?_
      refine j_iload2 (pc := 32) h dX7_share_32 ?_
      refine j_callVr (pc := 33) h dX7_share_33 (k_X6_canPutAt (fp i hi) hln) mv_X7_118 (fp i hi) rfl rfl (by decide) (Nat.le_of_ble_eq_true rfl) (Nat.le_of_ble_eq_true rfl) (Nat.le_of_ble_eq_true rfl) ?_
      refine j_if_neB (pc := 36) (tgt := 41) h dX7_share_36 (by decide) (fun c36 => ?_) (fun c36 => absurd c36 (by rw [inN_nI (by omega)]; simp; omega))
      refine j_aload6 (pc := 41) h dX7_share_41 ?_
      refine j_iload4 (pc := 43) h dX7_share_43 ?_
      refine j_callVr (pc := 45) h dX7_share_45 (k_X6_blockAt_no (fp j hj) hlj' (by simpa using hx)) mv_X7_140 (fp j hj) rfl rfl (by decide) (Nat.le_of_ble_eq_true rfl) (Nat.le_of_ble_eq_true rfl) (Nat.le_of_ble_eq_true rfl) ?_
      refine j_istore7 (pc := 48) h dX7_share_48 rfl ?_
      refine j_iload7 (pc := 50) h dX7_share_50 ?_
      refine j_iconst (pc := 52) h dX7_share_52 ic_m1 ?_
      refine j_icmp_ne (pc := 53) (tgt := 58) h dX7_share_53 (by decide) (fun c53 => absurd (rfl) c53) (fun c53 => ?_)
      refine j_iconst (pc := 56) h dX7_share_56 ic_0 ?_
      refine j_zretr (pc := 57) h dX7_share_57 (by decide) (rfl)
  · have hlj' := (hI.fil j hj).1
    obtain ⟨pl, hpl, hpp⟩ := fq j hj
    refine j_aload0 (pc := 0) h dX7_share_0 ?_
    refine j_getf (pc := 1) h dX7_share_1 (f0) fl_X7_19 rfl ?_
    refine j_iload1 (pc := 4) h dX7_share_4 ?_
    refine j_callVr (pc := 5) h dX7_share_5 (k_X0_find f5 f6 hfl hi hal hl) mv_X7_101 (f5) rfl rfl (by decide) (Nat.le_of_ble_eq_true rfl) (Nat.le_of_ble_eq_true rfl) (Nat.le_of_ble_eq_true rfl) ?_
    refine j_astore5 (pc := 8) h dX7_share_8 rfl ?_
    refine j_aload0 (pc := 10) h dX7_share_10 ?_
    refine j_getf (pc := 11) h dX7_share_11 (f0) fl_X7_19 rfl ?_
    refine j_iload3 (pc := 14) h dX7_share_14 ?_
    refine j_callVr (pc := 15) h dX7_share_15 (k_X0_find f5 f6 hfl hj hal hlj) mv_X7_101 (f5) rfl rfl (by decide) (Nat.le_of_ble_eq_true rfl) (Nat.le_of_ble_eq_true rfl) (Nat.le_of_ble_eq_true rfl) ?_
    refine j_astore6 (pc := 18) h dX7_share_18 rfl ?_
    refine j_aload5 (pc := 20) h dX7_share_20 ?_
    refine j_ifnull (pc := 22) h dX7_share_22 ?_
    refine j_aload6 (pc := 25) h dX7_share_25 ?_
    refine j_ifnull (pc := 27) h dX7_share_27 ?_
    refine j_aload5 (pc := 30) h dX7_share_30 ?_
    refine j_iload2 (pc := 32) h dX7_share_32 ?_
    refine j_callVr (pc := 33) h dX7_share_33 (k_X6_canPutAt (fp i hi) hln) mv_X7_118 (fp i hi) rfl rfl (by decide) (Nat.le_of_ble_eq_true rfl) (Nat.le_of_ble_eq_true rfl) (Nat.le_of_ble_eq_true rfl) ?_
    refine j_if_neB (pc := 36) (tgt := 41) h dX7_share_36 (by decide) (fun c36 => ?_) (fun c36 => absurd c36 (by rw [inN_nI (by omega)]; simp; omega))
    refine j_aload6 (pc := 41) h dX7_share_41 ?_
    refine j_iload4 (pc := 43) h dX7_share_43 ?_
    refine j_callVr (pc := 45) h dX7_share_45 (k_X6_blockAt (fp j hj) hpl hlj' hq) mv_X7_140 (fp j hj) rfl rfl (by decide) (Nat.le_of_ble_eq_true rfl) (Nat.le_of_ble_eq_true rfl) (Nat.le_of_ble_eq_true rfl) ?_
    refine j_istore7 (pc := 48) h dX7_share_48 rfl ?_
    refine j_iload7 (pc := 50) h dX7_share_50 ?_
    refine j_iconst (pc := 52) h dX7_share_52 ic_m1 ?_
    refine j_icmp_ne (pc := 53) (tgt := 58) h dX7_share_53 (by decide) (fun c53 => absurd (by rw [hpp q hq, hx]; rfl) c53) (fun c53 => ?_)
    refine j_iconst (pc := 56) h dX7_share_56 ic_0 ?_
    refine j_zretr (pc := 57) h dX7_share_57 (by decide) (rfl)
theorem k_X7_share {i p b : Nat} {z u : Int32} (w : CW g ad σ ρ C) (hI : Inv σ) (hi : i < σ.nfl) (hl : lv σ i = true) (hp : p < cpl (σ.ln i)) (hx : blkAt σ z u b) : Ct l g yX7_share cX7_share 8 (some .boolean) 4 0 0 [.ref (ad 0), .int (nI i), .int (nI p), .int z, .int u] ad C (PCl g ad C (.int (bI true)) (sPu σ i p (some b))) := by
  obtain ⟨f0, f1, f2, f3, f4, f5, f6, f7, f8, f9, f10, f11, f12, f13, f14, f15, f16, f17, f18, f19, hal, hfn, fp, fq, ffr⟩ := id w
  obtain ⟨hf1, hf2, hfl, hnn, hnm, hno, hc1, hc2⟩ := id hI.le
  have hp6 := cpl_le (σ.ln i)
  have hln := (hI.fil i hi).1
  obtain ⟨j, q, hj, hlj, hq, rfl, rfl, hx⟩ := hx
  have hlj' := (hI.fil j hj).1
  have hb := hI.blk _ _ hx
  obtain ⟨pl, hpl, hpp⟩ := fq i hi
  obtain ⟨pj, hpj, hpq⟩ := fq j hj
  have e : pj q = rI (some b) := by rw [hpq q hq, hx]
  refine Ct_of [some (.ref (ad 0)), some (.int (nI i)), some (.int (nI p)), some (.int (nI j)), some (.int (nI q)), none, none, none] (by decide) rfl rfl (Nat.le_of_ble_eq_true rfl) rfl rfl (fun X hX h => ?_)
  subst hX
  refine j_aload0 (pc := 0) h dX7_share_0 ?_
  refine j_getf (pc := 1) h dX7_share_1 (f0) fl_X7_19 rfl ?_
  refine j_iload1 (pc := 4) h dX7_share_4 ?_
  refine j_callVr (pc := 5) h dX7_share_5 (k_X0_find f5 f6 hfl hi hal hl) mv_X7_101 (f5) rfl rfl (by decide) (Nat.le_of_ble_eq_true rfl) (Nat.le_of_ble_eq_true rfl) (Nat.le_of_ble_eq_true rfl) ?_
  refine j_astore5 (pc := 8) h dX7_share_8 rfl ?_
  refine j_aload0 (pc := 10) h dX7_share_10 ?_
  refine j_getf (pc := 11) h dX7_share_11 (f0) fl_X7_19 rfl ?_
  refine j_iload3 (pc := 14) h dX7_share_14 ?_
  refine j_callVr (pc := 15) h dX7_share_15 (k_X0_find f5 f6 hfl hj hal hlj) mv_X7_101 (f5) rfl rfl (by decide) (Nat.le_of_ble_eq_true rfl) (Nat.le_of_ble_eq_true rfl) (Nat.le_of_ble_eq_true rfl) ?_
  refine j_astore6 (pc := 18) h dX7_share_18 rfl ?_
  refine j_aload5 (pc := 20) h dX7_share_20 ?_
  refine j_ifnull (pc := 22) h dX7_share_22 ?_
  refine j_aload6 (pc := 25) h dX7_share_25 ?_
  refine j_ifnull (pc := 27) h dX7_share_27 ?_
  refine j_aload5 (pc := 30) h dX7_share_30 ?_
  refine j_iload2 (pc := 32) h dX7_share_32 ?_
  refine j_callVr (pc := 33) h dX7_share_33 (k_X6_canPutAt (fp i hi) hln) mv_X7_118 (fp i hi) rfl rfl (by decide) (Nat.le_of_ble_eq_true rfl) (Nat.le_of_ble_eq_true rfl) (Nat.le_of_ble_eq_true rfl) ?_
  refine j_if_neB (pc := 36) (tgt := 41) h dX7_share_36 (by decide) (fun c36 => ?_) (fun c36 => absurd c36 (by rw [inN_nI (by omega)]; simp; omega))
  refine j_aload6 (pc := 41) h dX7_share_41 ?_
  refine j_iload4 (pc := 43) h dX7_share_43 ?_
  refine j_callVr (pc := 45) h dX7_share_45 (k_X6_blockAt (fp j hj) hpj hlj' hq) mv_X7_140 (fp j hj) rfl rfl (by decide) (Nat.le_of_ble_eq_true rfl) (Nat.le_of_ble_eq_true rfl) (Nat.le_of_ble_eq_true rfl) ?_
  refine j_topi (e) ?_
  refine j_istore7 (pc := 48) h dX7_share_48 rfl ?_
  refine j_iload7 (pc := 50) h dX7_share_50 ?_
  refine j_iconst (pc := 52) h dX7_share_52 ic_m1 ?_
  refine j_icmp_ne (pc := 53) (tgt := 58) h dX7_share_53 (by decide) (fun c53 => ?_) (fun c53 => absurd c53 (nI_m1 (by omega)))
  refine j_aload5 (pc := 58) h dX7_share_58 ?_
  refine j_iload2 (pc := 60) h dX7_share_60 ?_
  refine j_iload7 (pc := 61) h dX7_share_61 ?_
  refine j_aload0 (pc := 63) h dX7_share_63 ?_
  refine j_getf (pc := 64) h dX7_share_64 (f0) fl_X7_51 rfl ?_
  refine j_callV (pc := 67) h dX7_share_67 (k_X6_put (fp i hi) hpl hln hp) mv_X7_137 (fp i hi) rfl rfl (by decide) (Nat.le_of_ble_eq_true rfl) (Nat.le_of_ble_eq_true rfl) (Nat.le_of_ble_eq_true rfl) (fun v67 ad67 C67 hp67 => ?_)
  obtain ⟨rfl, rfl, rfl⟩ := hp67
  refine j_iconst (pc := 70) h dX7_share_70 ic_1 ?_
  refine j_zret (pc := 71) h dX7_share_71 (nar_1) (PCl_st (i := i) (CW_pu (c := some b) w hI hi hp (fun b' h => by cases h; exact hb) hpp) up2)
theorem k_X7_cut_no {x y : Int32} (w : CW g ad σ ρ C) (hI : Inv σ) (hx : inN x σ.nfl = false ∨ ∃ i, i < σ.nfl ∧ x = nI i ∧ (lv σ i && inN y (σ.ln i + 1)) = false) : Cr l g yX7_cut cX7_cut 4 (some .boolean) 4 [.ref (ad 0), .int x, .int y] ad C (.int (bI false)) := by
  obtain ⟨f0, f1, f2, f3, f4, f5, f6, f7, f8, f9, f10, f11, f12, f13, f14, f15, f16, f17, f18, f19, hal, hfn, fp, fq, ffr⟩ := id w
  obtain ⟨hf1, hf2, hfl, hnn, hnm, hno, hc1, hc2⟩ := id hI.le
  refine Ct_of [some (.ref (ad 0)), some (.int x), some (.int y), none] (by decide) rfl rfl (Nat.le_of_ble_eq_true rfl) rfl rfl (fun X hX h => ?_)
  subst hX
  rcases hx with hx | ⟨i, hi, rfl, hx⟩
  · refine j_aload0 (pc := 0) h dX7_cut_0 ?_
    refine j_getf (pc := 1) h dX7_cut_1 (f0) fl_X7_19 rfl ?_
    refine j_iload1 (pc := 4) h dX7_cut_4 ?_
    refine j_callVr (pc := 5) h dX7_cut_5 (k_X0_find_no f5 hfl hx) mv_X7_101 (f5) rfl rfl (by decide) (Nat.le_of_ble_eq_true rfl) (Nat.le_of_ble_eq_true rfl) (Nat.le_of_ble_eq_true rfl) ?_
    refine j_astore3N (pc := 8) h dX7_cut_8 rfl ?_
    refine j_aload3N (pc := 9) h dX7_cut_9 ?_
    refine j_ifnullN (pc := 10) (tgt := 25) h dX7_cut_10 (by decide) ?_
    refine j_iconst (pc := 25) h dX7_cut_25 ic_0 ?_
    refine j_zretr (pc := 26) h dX7_cut_26 (by decide) (rfl)
  · have hln := (hI.fil i hi).1
    cases hl : lv σ i with
    | false =>
      refine j_aload0 (pc := 0) h dX7_cut_0 ?_
      refine j_getf (pc := 1) h dX7_cut_1 (f0) fl_X7_19 rfl ?_
      refine j_iload1 (pc := 4) h dX7_cut_4 ?_
      refine j_callVr (pc := 5) h dX7_cut_5 (k_X0_find_n f5 f6 hfl hi hal hl) mv_X7_101 (f5) rfl rfl (by decide) (Nat.le_of_ble_eq_true rfl) (Nat.le_of_ble_eq_true rfl) (Nat.le_of_ble_eq_true rfl) ?_
      refine j_astore3N (pc := 8) h dX7_cut_8 rfl ?_
      refine j_aload3N (pc := 9) h dX7_cut_9 ?_
      refine j_ifnullN (pc := 10) (tgt := 25) h dX7_cut_10 (by decide) ?_
      refine j_iconst (pc := 25) h dX7_cut_25 ic_0 ?_
      refine j_zretr (pc := 26) h dX7_cut_26 (by decide) (rfl)
    | true =>
      rw [hl] at hx
      refine j_aload0 (pc := 0) h dX7_cut_0 ?_
      refine j_getf (pc := 1) h dX7_cut_1 (f0) fl_X7_19 rfl ?_
      refine j_iload1 (pc := 4) h dX7_cut_4 ?_
      refine j_callVr (pc := 5) h dX7_cut_5 (k_X0_find f5 f6 hfl hi hal hl) mv_X7_101 (f5) rfl rfl (by decide) (Nat.le_of_ble_eq_true rfl) (Nat.le_of_ble_eq_true rfl) (Nat.le_of_ble_eq_true rfl) ?_
      refine j_astore3 (pc := 8) h dX7_cut_8 rfl ?_
      refine j_aload3 (pc := 9) h dX7_cut_9 ?_
      refine j_ifnull (pc := 10) h dX7_cut_10 ?_
      refine j_iload2 (pc := 13) h dX7_cut_13 ?_
      refine j_if_lt (pc := 14) (tgt := 25) h dX7_cut_14 (by decide) (fun c14 => ?_) (fun c14 => ?_)
      · refine j_iconst (pc := 25) h dX7_cut_25 ic_0 ?_
        refine j_zretr (pc := 26) h dX7_cut_26 (by decide) (rfl)
      · refine j_iload2 (pc := 17) h dX7_cut_17 ?_
        refine j_aload3 (pc := 18) h dX7_cut_18 ?_
        refine j_getf (pc := 19) h dX7_cut_19 (fp i hi) fl_X7_143 rfl ?_
        refine j_icmp_le (pc := 22) (tgt := 27) h dX7_cut_22 (by decide) (fun c22 => absurd c22 (cut_no c14 (by simpa using hx) (by omega))) (fun c22 => ?_)
        refine j_iconst (pc := 25) h dX7_cut_25 ic_0 ?_
        refine j_zretr (pc := 26) h dX7_cut_26 (by decide) (rfl)
theorem k_X7_cut {i n : Nat} (w : CW g ad σ ρ C) (hI : Inv σ) (hi : i < σ.nfl) (hl : lv σ i = true) (hn : n ≤ σ.ln i) : Ct l g yX7_cut cX7_cut 4 (some .boolean) 4 0 0 [.ref (ad 0), .int (nI i), .int (nI n)] ad C (PCl g ad C (.int (bI true)) (sCu σ i n)) := by
  obtain ⟨f0, f1, f2, f3, f4, f5, f6, f7, f8, f9, f10, f11, f12, f13, f14, f15, f16, f17, f18, f19, hal, hfn, fp, fq, ffr⟩ := id w
  obtain ⟨hf1, hf2, hfl, hnn, hnm, hno, hc1, hc2⟩ := id hI.le
  have hln := (hI.fil i hi).1
  obtain ⟨pl, hpl, hpp⟩ := fq i hi
  refine Ct_of [some (.ref (ad 0)), some (.int (nI i)), some (.int (nI n)), none] (by decide) rfl rfl (Nat.le_of_ble_eq_true rfl) rfl rfl (fun X hX h => ?_)
  subst hX
  refine j_aload0 (pc := 0) h dX7_cut_0 ?_
  refine j_getf (pc := 1) h dX7_cut_1 (f0) fl_X7_19 rfl ?_
  refine j_iload1 (pc := 4) h dX7_cut_4 ?_
  refine j_callVr (pc := 5) h dX7_cut_5 (k_X0_find f5 f6 hfl hi hal hl) mv_X7_101 (f5) rfl rfl (by decide) (Nat.le_of_ble_eq_true rfl) (Nat.le_of_ble_eq_true rfl) (Nat.le_of_ble_eq_true rfl) ?_
  refine j_astore3 (pc := 8) h dX7_cut_8 rfl ?_
  refine j_aload3 (pc := 9) h dX7_cut_9 ?_
  refine j_ifnull (pc := 10) h dX7_cut_10 ?_
  refine j_iload2 (pc := 13) h dX7_cut_13 ?_
  refine j_if_lt (pc := 14) (tgt := 25) h dX7_cut_14 (by decide) (fun c14 => absurd c14 (nI_pos (by omega))) (fun c14 => ?_)
  refine j_iload2 (pc := 17) h dX7_cut_17 ?_
  refine j_aload3 (pc := 18) h dX7_cut_18 ?_
  refine j_getf (pc := 19) h dX7_cut_19 (fp i hi) fl_X7_143 rfl ?_
  refine j_icmp_le (pc := 22) (tgt := 27) h dX7_cut_22 (by decide) (fun c22 => ?_) (fun c22 => absurd (nI_le hn (by omega)) c22)
  refine j_aload3 (pc := 27) h dX7_cut_27 ?_
  refine j_iload2 (pc := 28) h dX7_cut_28 ?_
  refine j_aload0 (pc := 29) h dX7_cut_29 ?_
  refine j_getf (pc := 30) h dX7_cut_30 (f0) fl_X7_51 rfl ?_
  refine j_callV (pc := 33) h dX7_cut_33 (k_X6_shorten (fp i hi) hpl (by omega)) mv_X7_146 (fp i hi) rfl rfl (by decide) (Nat.le_of_ble_eq_true rfl) (Nat.le_of_ble_eq_true rfl) (Nat.le_of_ble_eq_true rfl) (fun v33 ad33 C33 hp33 => ?_)
  obtain ⟨rfl, rfl, rfl⟩ := hp33
  refine j_iconst (pc := 36) h dX7_cut_36 ic_1 ?_
  refine j_zret (pc := 37) h dX7_cut_37 (nar_1) (PCl_st (i := i) (CW_st (i := i) (L := n) (rb := σ.rb) (pl := pl) w hI hi (fun j h1 _ => va_up_ne _ _ h1) (fun _ _ => rfl) up_eq (orr_cong (fun p hp => blF_bO hI (hpp p (by omega)))) (by rw [va_up_ne _ _ (by omega)]; exact hpl) (fun p hp => hpp p (by omega))) (fun j h1 _ => va_up_ne _ _ h1))
end CV

