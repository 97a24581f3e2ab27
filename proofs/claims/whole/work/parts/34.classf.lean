/-! The class: file and copy -/
/-- a new file with its name -/
def sNw (σ : Sg) (y : Int32) (wv a L : Nat) (rb : Nat → Option Nat) : Sg := ((sNa (sFi σ y wv) σ.nfl a).uN 1 (va_up σ.ln σ.nfl L)).uR rb
theorem Inv_pre {σ : Sg} (hI : Inv σ) : nms σ σ.nfl = 0 := cnt_no (fun k hk => by
  have := (hI.nam k hk).1
  rw [beq_eq_false_iff_ne.mpr (by omega : σ.fl k ≠ σ.nfl), Bool.and_false])
theorem nms_nw {σ : Sg} (hI : Inv σ) {y : Int32} {wv a L i : Nat} {rb : Nat → Option Nat} : nms (sNw σ y wv a L rb) i = nms σ i + (if σ.nfl = i then 1 else 0) := nms_na (σ := σ) hI (f := σ.nfl) (a := a) (i := i)
theorem bkS_nw {σ : Sg} (hI : Inv σ) {y : Int32} {wv a L k : Nat} {rb : Nat → Option Nat} (hk : k < σ.nfl) (hrb : ∀ q, q < 60 * σ.nfl → rb q = σ.rb q) : bkS (sNw σ y wv a L rb) k = bkS σ k := by
  have hln := (hI.fil k hk).1
  show orr (fun p => bO (rb (60 * k + p))) (va_up σ.ln σ.nfl L k) = _
  rw [va_up_ne _ _ (by omega)]
  exact orr_cong (fun p hp => by rw [hrb _ (by omega)])
theorem CW_nw {g : GG} {ad ad' : AD} {C C' : CC} {σ : Sg} {ρ : Rm} {y : Int32} {wv a L : Nat} {rb : Nat → Option Nat} {pl : Nat → Int32} {B : Int64} (w : CW g ad σ ρ C) (hI : Inv σ)
    (ha : ∀ i, i < 39 + 2 * σ.nfl → ad' i = ad i) (hC : ∀ i, i < 39 + 2 * σ.nfl → ¬ (5 ≤ i ∧ i ≤ 9) → C' i = C i) (hrb : ∀ q, q < 60 * σ.nfl → rb q = σ.rb q)
    (h5 : C' 5 = some (oFi ad' (σ.nfl + 1))) (h6 : C' 6 = some (eO g 40 (va_up ρ.al σ.nfl (some (ad' (39 + 2 * σ.nfl)))))) (h7 : C' 7 = some (oNa ad' (σ.nn + 1)))
    (h8 : C' 8 = some (eI g 100 (upd ρ.fn σ.nn (nI σ.nfl)))) (h9 : C' 9 = some (eI g 100 (upd (fun k => nI (σ.ni k)) σ.nn (nI a))))
    (hj : C' (39 + 2 * σ.nfl) = some (oSt ad' (39 + 2 * σ.nfl) y (nI wv) L (nI σ.now) B)) (hB : B = orr (fun p => bO (rb (60 * σ.nfl + p))) L)
    (hj1 : C' (39 + 2 * σ.nfl + 1) = some (eI g 60 pl)) (hp : ∀ p, p < L → pl p = rI (rb (60 * σ.nfl + p))) (he : ∀ i, 39 + 2 * σ.nfl + 2 ≤ i → C' i = none) :
    CW g ad' (sNw σ y wv a L rb) ((ρ.uF (upd ρ.fn σ.nn (nI σ.nfl))).uA (va_up ρ.al σ.nfl (some (ad' (39 + 2 * σ.nfl))))) C' := by
  obtain ⟨f0, f1, f2, f3, f4, f5, f6, f7, f8, f9, f10, f11, f12, f13, f14, f15, f16, f17, f18, f19, hal, hfn, fp, fq, ffr⟩ := id w
  obtain ⟨hf1, hf2, hfl, hnn, hnm, hno, hc1, hc2⟩ := id hI.le
  have lo : ∀ i, i < 39 → ¬ (5 ≤ i ∧ i ≤ 9) → C' i = C i := fun i hi h => hC i (by omega) h
  have a1 : ∀ i, i < 39 → ad' i = ad i := fun i hi => ha i (by omega)
  refine ⟨?_, ?_, (lo 2 (by decide) (by decide)).trans f2, (lo 3 (by decide) (by decide)).trans f3, (lo 4 (by decide) (by decide)).trans f4, h5, h6, h7, h8, h9.trans (eI_c nF_up), ?_, (lo 11 (by decide) (by decide)).trans f11, (lo 12 (by decide) (by decide)).trans f12, ?_, (lo 14 (by decide) (by decide)).trans f14, (lo 15 (by decide) (by decide)).trans f15, ?_, (lo 17 (by decide) (by decide)).trans f17, (lo 18 (by decide) (by decide)).trans f18, (lo 19 (by decide) (by decide)).trans f19, ?_, ?_, ?_, ?_, ?_⟩
  · rw [lo 0 (by decide) (by decide), f0]; unfold oRg; rw [a1 1 (by decide), a1 5 (by decide), a1 7 (by decide), a1 10 (by decide), a1 13 (by decide), a1 16 (by decide)]; rfl
  · rw [lo 1 (by decide) (by decide), f1]; unfold oFo; rw [a1 2 (by decide), a1 3 (by decide), a1 4 (by decide)]; rfl
  · rw [lo 10 (by decide) (by decide), f10]; unfold oSn; rw [a1 11 (by decide), a1 12 (by decide)]
  · rw [lo 13 (by decide) (by decide), f13]; unfold oMa; rw [a1 14 (by decide), a1 15 (by decide)]; rfl
  · rw [lo 16 (by decide) (by decide), f16]; unfold oPl; rw [a1 17 (by decide), a1 18 (by decide), a1 19 (by decide)]; rfl
  · intro i hi
    have hi' : i < σ.nfl + 1 := hi
    show va_up ρ.al σ.nfl (some (ad' (39 + 2 * σ.nfl))) i = _
    have en := nms_nw (y := y) (wv := wv) (a := a) (L := L) (i := i) (rb := rb) hI
    by_cases e : i = σ.nfl
    · subst e
      have : lv (sNw σ y wv a L rb) σ.nfl = true := decide_eq_true (by rw [en, if_pos rfl]; omega)
      rw [up_eq, if_pos this]
    · have : lv (sNw σ y wv a L rb) i = lv σ i := by unfold lv; rw [en, if_neg (fun q => e q.symm)]; rfl
      rw [va_up_ne _ _ e, hal i (by omega), this, ha _ (by omega)]
  · exact hfn_na (σ := σ) (f := σ.nfl) (a := a) hfn
  · intro k hk
    have hk' : k < σ.nfl + 1 := hk
    by_cases e : k = σ.nfl
    · subst e
      have e1 : (sNw σ y wv a L rb).ln σ.nfl = L := up_eq
      have e2 : (sNw σ y wv a L rb).ch σ.nfl = nI σ.now := up_eq
      have e3 : (sNw σ y wv a L rb).ow σ.nfl = y := up_eq
      have e4 : (sNw σ y wv a L rb).wo σ.nfl = wv := up_eq
      have e5 : bkS (sNw σ y wv a L rb) σ.nfl = B := by rw [hB]; unfold bkS; rw [e1]; rfl
      rw [e1, e2, e3, e4, e5]; exact hj
    · rw [hC _ (by omega) (by omega), fp k (by omega), bkS_nw hI (by omega) hrb]
      have e1 : (sNw σ y wv a L rb).ln k = σ.ln k := va_up_ne _ _ e
      have e2 : (sNw σ y wv a L rb).ch k = σ.ch k := va_up_ne _ _ e
      have e3 : (sNw σ y wv a L rb).ow k = σ.ow k := va_up_ne _ _ e
      have e4 : (sNw σ y wv a L rb).wo k = σ.wo k := va_up_ne _ _ e
      rw [e1, e2, e3, e4]; unfold oSt; rw [ha (39 + 2 * k + 1) (by omega)]
  · intro k hk
    have hk' : k < σ.nfl + 1 := hk
    by_cases e : k = σ.nfl
    · subst e
      have e1 : (sNw σ y wv a L rb).ln σ.nfl = L := up_eq
      refine ⟨pl, hj1, fun p q => hp p ?_⟩
      rw [e1] at q; exact q
    · obtain ⟨pl', q1, q2⟩ := fq k (by omega)
      have hln := (hI.fil k (by omega)).1
      refine ⟨pl', (hC _ (by omega) (by omega)).trans q1, fun p q => ?_⟩
      have e1 : (sNw σ y wv a L rb).ln k = σ.ln k := va_up_ne _ _ e
      rw [e1] at q
      show pl' p = rI (rb (60 * k + p))
      rw [hrb _ (by omega)]; exact q2 p q
  · intro i hi
    have hi' : 39 + 2 * (σ.nfl + 1) ≤ i := hi
    exact he i (by omega)
theorem uN_id {σ : Sg} {f : Nat → Nat} (h : f = σ.ln) : (σ.uN 1 f).uR σ.rb = σ := by
  subst h
  have e : va_up σ.2.1 1 (σ.2.1 1) = σ.2.1 := by
    funext i
    by_cases q : i = 1
    · subst q; exact up_eq
    · exact va_up_ne _ _ q
  show (σ.1, va_up σ.2.1 1 (σ.2.1 1), σ.2.2.1, σ.2.2.2.1, σ.2.2.2.2.1, σ.2.2.2.2.2) = σ
  rw [e]; rfl
theorem sNw_fi {σ : Sg} (hI : Inv σ) {y : Int32} {wv a : Nat} : sNw σ y wv a 0 σ.rb = sNa (sFi σ y wv) σ.nfl a := by
  refine uN_id (σ := sNa (sFi σ y wv) σ.nfl a) ?_
  funext i
  show va_up σ.ln σ.nfl 0 i = σ.ln i
  by_cases q : i = σ.nfl
  · subst q; rw [up_eq, hI.ln0 _ (Nat.le_refl _)]
  · exact va_up_ne _ _ q
section CF
variable {l : Launch} {g : GG} {ad : AD} {C : CC} {σ : Sg} {ρ : Rm}
/-- the rows' own end: the new file at nfl, added and named -/
theorem CW_add {ad2 : AD} {C2 : CC} {y : Int32} {wv a L : Nat} {rb : Nat → Option Nat} {pl : Nat → Int32} {B : Int64} (w : CW g ad σ ρ C) (hI : Inv σ) (hP : PNw g ad C (39 + 2 * σ.nfl) y (nI wv) L (nI σ.now) B pl ad2 C2)
    (hrb : ∀ q, q < 60 * σ.nfl → rb q = σ.rb q) (hB : B = orr (fun p => bO (rb (60 * σ.nfl + p))) L) (hp : ∀ p, p < L → pl p = rI (rb (60 * σ.nfl + p))) (hne : ∀ j, C j ≠ none → ad2 j = ad j) :
    PCl g ad C (.int (nI σ.nn)) (sNw σ y wv a L rb) (some (.int (nI σ.nn))) ad2 (va_up (va_up (va_up (va_up (va_up C2 6 (some (eO g 40 (va_up ρ.al σ.nfl (some (ad2 (39 + 2 * σ.nfl))))))) 5 (some (oFi ad2 (σ.nfl + 1)))) 8 (some (eI g 100 (upd ρ.fn σ.nn (nI σ.nfl))))) 9 (some (eI g 100 (upd (fun k => nI (σ.ni k)) σ.nn (nI a))))) 7 (some (oNa ad2 (σ.nn + 1)))) := by
  obtain ⟨q1, q2, q3⟩ := hP
  have hi : ∀ i, 9 < i → (va_up (va_up (va_up (va_up (va_up C2 6 (some (eO g 40 (va_up ρ.al σ.nfl (some (ad2 (39 + 2 * σ.nfl))))))) 5 (some (oFi ad2 (σ.nfl + 1)))) 8 (some (eI g 100 (upd ρ.fn σ.nn (nI σ.nfl))))) 9 (some (eI g 100 (upd (fun k => nI (σ.ni k)) σ.nn (nI a))))) 7 (some (oNa ad2 (σ.nn + 1)))) i = C2 i := fun i h => by
    rw [va_up_ne _ _ (by omega), va_up_ne _ _ (by omega), va_up_ne _ _ (by omega), va_up_ne _ _ (by omega), va_up_ne _ _ (by omega)]
  refine ⟨rfl, ⟨_, CW_nw w hI (ad' := ad2) (L := L) (rb := rb) (pl := pl) (B := B) (fun i h => (q1 i (by omega) (by omega)).1) ?_ hrb rfl rfl rfl rfl rfl ((hi _ (by omega)).trans q2) hB ((hi _ (by omega)).trans q3) hp ?_⟩, fun j h1 h2 => (hi j (by omega)).trans (q1 j (by omega) (by omega)).2, hne⟩
  · intro i h1 h2
    by_cases h3 : 9 < i
    · rw [hi i h3]; exact (q1 i (by omega) (by omega)).2
    · rw [va_up_ne _ _ (by omega), va_up_ne _ _ (by omega), va_up_ne _ _ (by omega), va_up_ne _ _ (by omega), va_up_ne _ _ (by omega)]
      exact (q1 i (by omega) (by omega)).2
  · intro i h
    obtain ⟨f0, f1, f2, f3, f4, f5, f6, f7, f8, f9, f10, f11, f12, f13, f14, f15, f16, f17, f18, f19, hal, hfn, fp, fq, ffr⟩ := id w
    obtain ⟨hf1, hf2, hfl, hnn, hnm, hno, hc1, hc2⟩ := id hI.le
    rw [hi i (by omega), (q1 i (by omega) (by omega)).2]; exact ffr i (by omega)
theorem wo_rg {z : Int32} (c19 : ¬ z < 0) (c26 : z < nI 1000) : inN z 1000 = true := inN_yes (by decide) c19 (fun q => by have h1 := Int32.lt_iff_toInt_lt.mp c26; have h2 := Int32.le_iff_toInt_le.mp q; omega)
theorem k_X7_file_no {x y z : Int32} (w : CW g ad σ ρ C) (hI : Inv σ) (hx : (inN x σ.nf && inN y 6 && inN z 1000 && decide (σ.nfl < 40) && decide (σ.nn < 100)) = false) : Ct l g yX7_file cX7_file 4 (some .int) 4 0 0 [.ref (ad 0), .int x, .int y, .int z] ad C (fun r ad' C' => r = some (.int (-1)) ∧ ad' = ad ∧ C' = C) := by
  obtain ⟨f0, f1, f2, f3, f4, f5, f6, f7, f8, f9, f10, f11, f12, f13, f14, f15, f16, f17, f18, f19, hal, hfn, fp, fq, ffr⟩ := id w
  obtain ⟨hf1, hf2, hfl, hnn, hnm, hno, hc1, hc2⟩ := id hI.le
  refine Ct_of [some (.ref (ad 0)), some (.int x), some (.int y), some (.int z)] (by decide) rfl rfl (Nat.le_of_ble_eq_true rfl) rfl rfl (fun X hX h => ?_)
  subst hX
  refine j_aload0 (pc := 0) h dX7_file_0 ?_
  refine j_getf (pc := 1) h dX7_file_1 (f0) fl_X7_12 rfl ?_
  refine j_iload1 (pc := 4) h dX7_file_4 ?_
  refine j_callVr (pc := 5) h dX7_file_5 (k_X1_has f1 hf2) mv_X7_64 (f1) rfl rfl (by decide) (Nat.le_of_ble_eq_true rfl) (Nat.le_of_ble_eq_true rfl) (Nat.le_of_ble_eq_true rfl) ?_
  refine j_if_eqB (pc := 8) (tgt := 29) h dX7_file_8 (by decide) (fun c8 => ?_) (fun c8 => ?_)
  · refine j_iconst (pc := 29) h dX7_file_29 ic_m1 ?_
    refine j_iretr (pc := 30) h dX7_file_30 (rfl)
  · refine j_iload2 (pc := 11) h dX7_file_11 ?_
    refine j_callSr (pc := 12) h dX7_file_12 (k_X7_isPerson) ms_X7_68 rfl rfl (by decide) (Nat.le_of_ble_eq_true rfl) (Nat.le_of_ble_eq_true rfl) (Nat.le_of_ble_eq_true rfl) ?_
    refine j_if_eqB (pc := 15) (tgt := 29) h dX7_file_15 (by decide) (fun c15 => ?_) (fun c15 => ?_)
    · refine j_iconst (pc := 29) h dX7_file_29 ic_m1 ?_
      refine j_iretr (pc := 30) h dX7_file_30 (rfl)
    · refine j_iload3 (pc := 18) h dX7_file_18 ?_
      refine j_if_lt (pc := 19) (tgt := 29) h dX7_file_19 (by decide) (fun c19 => ?_) (fun c19 => ?_)
      · refine j_iconst (pc := 29) h dX7_file_29 ic_m1 ?_
        refine j_iretr (pc := 30) h dX7_file_30 (rfl)
      · refine j_iload3 (pc := 22) h dX7_file_22 ?_
        refine j_sipush (pc := 23) h dX7_file_23 sp_1000 ?_
        refine j_icmp_lt (pc := 26) (tgt := 31) h dX7_file_26 (by decide) (fun c26 => ?_) (fun c26 => ?_)
        · rw [c8, c15, wo_rg c19 c26] at hx
          refine j_aload0 (pc := 31) h dX7_file_31 ?_
          refine j_callVr (pc := 32) h dX7_file_32 (k_X7_canTakeFile w hI) mv_X7_83 (f0) rfl rfl (by decide) (Nat.le_of_ble_eq_true rfl) (Nat.le_of_ble_eq_true rfl) (Nat.le_of_ble_eq_true rfl) ?_
          refine j_if_neB (pc := 35) (tgt := 40) h dX7_file_35 (by decide) (fun c35 => absurd c35 (by simp at hx; simp; omega)) (fun c35 => ?_)
          refine j_iconst (pc := 38) h dX7_file_38 ic_m1 ?_
          refine j_iretr (pc := 39) h dX7_file_39 (rfl)
        · refine j_iconst (pc := 29) h dX7_file_29 ic_m1 ?_
          refine j_iretr (pc := 30) h dX7_file_30 (rfl)
theorem k_X7_file {a wv : Nat} {y : Int32} (w : CW g ad σ ρ C) (hI : Inv σ) (ha : a < σ.nf) (hy : inN y 6 = true) (hw : wv < 1000) (hf : σ.nfl < 40) (hn : σ.nn < 100) : Ct l g yX7_file cX7_file 4 (some .int) 4 2 66 [.ref (ad 0), .int (nI a), .int y, .int (nI wv)] ad C (PCl g ad C (.int (nI σ.nn)) (sNa (sFi σ y wv) σ.nfl a)) := by
  obtain ⟨f0, f1, f2, f3, f4, f5, f6, f7, f8, f9, f10, f11, f12, f13, f14, f15, f16, f17, f18, f19, hal, hfn, fp, fq, ffr⟩ := id w
  obtain ⟨hf1, hf2, hfl, hnn, hnm, hno, hc1, hc2⟩ := id hI.le
  refine Ct_of [some (.ref (ad 0)), some (.int (nI a)), some (.int y), some (.int (nI wv))] (by decide) rfl rfl (Nat.le_of_ble_eq_true rfl) rfl rfl (fun X hX h => ?_)
  subst hX
  refine j_aload0 (pc := 0) h dX7_file_0 ?_
  refine j_getf (pc := 1) h dX7_file_1 (f0) fl_X7_12 rfl ?_
  refine j_iload1 (pc := 4) h dX7_file_4 ?_
  refine j_callVr (pc := 5) h dX7_file_5 (k_X1_has f1 hf2) mv_X7_64 (f1) rfl rfl (by decide) (Nat.le_of_ble_eq_true rfl) (Nat.le_of_ble_eq_true rfl) (Nat.le_of_ble_eq_true rfl) ?_
  refine j_if_eqB (pc := 8) (tgt := 29) h dX7_file_8 (by decide) (fun c8 => absurd c8 (by rw [inN_nI (by omega)]; simp; omega)) (fun c8 => ?_)
  refine j_iload2 (pc := 11) h dX7_file_11 ?_
  refine j_callSr (pc := 12) h dX7_file_12 (k_X7_isPerson) ms_X7_68 rfl rfl (by decide) (Nat.le_of_ble_eq_true rfl) (Nat.le_of_ble_eq_true rfl) (Nat.le_of_ble_eq_true rfl) ?_
  refine j_if_eqB (pc := 15) (tgt := 29) h dX7_file_15 (by decide) (fun c15 => absurd (hy.symm.trans c15) (by decide)) (fun c15 => ?_)
  refine j_iload3 (pc := 18) h dX7_file_18 ?_
  refine j_if_lt (pc := 19) (tgt := 29) h dX7_file_19 (by decide) (fun c19 => absurd c19 (nI_pos (by omega))) (fun c19 => ?_)
  refine j_iload3 (pc := 22) h dX7_file_22 ?_
  refine j_sipush (pc := 23) h dX7_file_23 sp_1000 ?_
  refine j_icmp_lt (pc := 26) (tgt := 31) h dX7_file_26 (by decide) (fun c26 => ?_) (fun c26 => absurd (nI_lt hw (by omega)) c26)
  refine j_aload0 (pc := 31) h dX7_file_31 ?_
  refine j_callVr (pc := 32) h dX7_file_32 (k_X7_canTakeFile w hI) mv_X7_83 (f0) rfl rfl (by decide) (Nat.le_of_ble_eq_true rfl) (Nat.le_of_ble_eq_true rfl) (Nat.le_of_ble_eq_true rfl) ?_
  refine j_if_neB (pc := 35) (tgt := 40) h dX7_file_35 (by decide) (fun c35 => ?_) (fun c35 => absurd c35 (by simp; omega))
  refine j_aload0 (pc := 40) h dX7_file_40 ?_
  refine j_getf (pc := 41) h dX7_file_41 (f0) fl_X7_26 rfl ?_
  refine j_aload0 (pc := 44) h dX7_file_44 ?_
  refine j_getf (pc := 45) h dX7_file_45 (f0) fl_X7_19 rfl ?_
  refine j_new (pc := 48) (j := (39 + 2 * σ.nfl)) h dX7_file_48 (ffr _ (Nat.le_refl _)) nl_X7_87 (by decide) (by decide) (fun q => ?_)
  obtain ⟨ad1, e1, e2, e3⟩ := ad_up (ad := ad) (39 + 2 * σ.nfl) q
  rw [e1]
  refine j_st (st' := [.ref (ad1 (39 + 2 * σ.nfl)), .ref (ad1 5), .ref (ad1 7)]) (by rw [e2, e3 5 (by omega), e3 7 (by omega)]) ?_
  refine j_L (L' := [some (.ref (ad1 0)), some (.int (nI a)), some (.int y), some (.int (nI wv))]) (by rw [e3 0 (by omega)]) ?_
  refine j_dupR (pc := 51) h dX7_file_51 ?_
  refine j_iload2 (pc := 52) h dX7_file_52 ?_
  refine j_iload3 (pc := 53) h dX7_file_53 ?_
  refine j_aload0 (pc := 54) h dX7_file_54 ?_
  refine j_getf (pc := 55) h dX7_file_55 ((va_up_ne _ _ (by omega)).trans f0) fl_X7_51 rfl ?_
  refine j_callI (pc := 58) h dX7_file_58 (k_X6_init (j := 39 + 2 * σ.nfl) up_eq (by rw [va_up_ne _ _ (by omega)]; exact ffr _ (by omega))) mi_X7_89 rfl rfl (by decide) (Nat.le_of_ble_eq_true rfl) (Nat.le_of_ble_eq_true rfl) (Nat.le_of_ble_eq_true rfl) (fun v58 ad58 C58 hp58 => ?_)
  obtain ⟨rfl, h1, hP⟩ := hp58
  have hP2 : PNw g ad C (39 + 2 * σ.nfl) y (nI wv) 0 (nI σ.now) 0 (fun _ => 0) ad58 C58 := ⟨fun i h1 h2 => ⟨((hP.1 i h1 h2).1).trans (e3 i h1), ((hP.1 i h1 h2).2).trans (va_up_ne _ _ h1)⟩, hP.2.1, hP.2.2⟩
  have g5 : C58 5 = some (oFi ad58 σ.nfl) := by rw [(hP2.1 5 (by omega) (by omega)).2, f5]; unfold oFi; rw [(hP2.1 6 (by omega) (by omega)).1]
  have g6 : C58 6 = some (eO g 40 ρ.al) := by rw [(hP2.1 6 (by omega) (by omega)).2, f6]
  have g7 : C58 7 = some (oNa ad58 σ.nn) := by rw [(hP2.1 7 (by omega) (by omega)).2, f7]; unfold oNa; rw [(hP2.1 8 (by omega) (by omega)).1, (hP2.1 9 (by omega) (by omega)).1]
  have g8 : C58 8 = some (eI g 100 ρ.fn) := by rw [(hP2.1 8 (by omega) (by omega)).2, f8]
  have g9 : C58 9 = some (eI g 100 (fun k => nI (σ.ni k))) := by rw [(hP2.1 9 (by omega) (by omega)).2, f9]
  have hne : ∀ j, C j ≠ none → ad58 j = ad j := fun j hj => by
    by_cases h : j < 39 + 2 * σ.nfl
    · exact (hP2.1 j (by omega) (by omega)).1
    · exact absurd (ffr j (by omega)) hj
  refine j_st (st' := [.ref (ad58 (39 + 2 * σ.nfl)), .ref (ad58 5), .ref (ad58 7)]) (by rw [h1, (hP.1 5 (by omega) (by omega)).1, (hP.1 7 (by omega) (by omega)).1]; rfl) ?_
  refine j_L (L' := [some (.ref (ad58 0)), some (.int (nI a)), some (.int y), some (.int (nI wv))]) (by rw [(hP.1 0 (by omega) (by omega)).1]) ?_
  refine j_callV (pc := 61) h dX7_file_61 (k_X0_add g5 g6 hP2.2.1 (by omega) hf) mv_X7_92 (g5) rfl rfl (by decide) (Nat.le_of_ble_eq_true rfl) (Nat.le_of_ble_eq_true rfl) (Nat.le_of_ble_eq_true rfl) (fun v61 ad61 C61 hp61 => ?_)
  obtain ⟨rfl, rfl, rfl⟩ := hp61
  refine j_iload1 (pc := 64) h dX7_file_64 ?_
  refine j_callV (pc := 65) h dX7_file_65 (k_X3_add (nn := σ.nn) g7 g8 g9 hn) mv_X7_95 (g7) rfl rfl (by decide) (Nat.le_of_ble_eq_true rfl) (Nat.le_of_ble_eq_true rfl) (Nat.le_of_ble_eq_true rfl) (fun v65 ad65 C65 hp65 => ?_)
  obtain ⟨rfl, rfl, rfl⟩ := hp65
  refine j_iret (pc := 68) h dX7_file_68 (by rw [← sNw_fi hI]; exact CW_add w hI hP2 (fun _ _ => rfl) rfl (fun p hp => by omega) hne)
theorem rbC_at {rb : Nat → Option Nat} {f n p : Nat} (hp : p < 60) : rbC rb f n 60 (60 * n + p) = rb (60 * f + p) := by
  unfold rbC
  rw [if_pos (by omega), show 60 * n + p - 60 * n = p by omega]
theorem copy_n {σ : Sg} (hI : Inv σ) {k : Nat} {y : Int32} (hk : k < σ.nn) (ht : σ.tb k = true) (hy : inN y σ.nf = true) (hx : inN (nI k) σ.nn = false ∨ (∃ k', k' < σ.nn ∧ nI k = nI k' ∧ σ.tb k' = false) ∨ inN y σ.nf = false ∨ σ.nfl = 40 ∨ σ.nn = 100) : ¬ (decide (σ.nfl < 40) && decide (σ.nn < 100)) = true := by
  have hle := hI.le
  rcases hx with hx | ⟨k', hk', e, hx⟩ | hx | hx | hx
  · rw [inN_nI (by omega)] at hx; simp at hx; omega
  · have := nI_inj e (by omega) (by omega); subst this; rw [ht] at hx; cases hx
  · rw [hy] at hx; cases hx
  · simp; omega
  · simp; omega
theorem k_X7_copy_no {x y : Int32} (w : CW g ad σ ρ C) (hI : Inv σ) (hx : inN x σ.nn = false ∨ (∃ k, k < σ.nn ∧ x = nI k ∧ σ.tb k = false) ∨ inN y σ.nf = false ∨ σ.nfl = 40 ∨ σ.nn = 100) : Cr l g yX7_copy cX7_copy 4 (some .int) 4 [.ref (ad 0), .int x, .int y] ad C (.int (-1)) := by
  obtain ⟨f0, f1, f2, f3, f4, f5, f6, f7, f8, f9, f10, f11, f12, f13, f14, f15, f16, f17, f18, f19, hal, hfn, fp, fq, ffr⟩ := id w
  obtain ⟨hf1, hf2, hfl, hnn, hnm, hno, hc1, hc2⟩ := id hI.le
  have hm : inN (-1) σ.nfl = false := inN_no0 (by decide)
  refine Ct_of [some (.ref (ad 0)), some (.int x), some (.int y), none] (by decide) rfl rfl (Nat.le_of_ble_eq_true rfl) rfl rfl (fun X hX h => ?_)
  subst hX
  rcases inN_cases x σ.nn with h1 | ⟨k, hk, rfl⟩
  · refine j_aload0 (pc := 0) h dX7_copy_0 ?_
    refine j_getf (pc := 1) h dX7_copy_1 (f0) fl_X7_19 rfl ?_
    refine j_aload0 (pc := 4) h dX7_copy_4 ?_
    refine j_getf (pc := 5) h dX7_copy_5 (f0) fl_X7_26 rfl ?_
    refine j_iload1 (pc := 8) h dX7_copy_8 ?_
    refine j_callVr (pc := 9) h dX7_copy_9 (k_X3_fileOf_no f7 hnn h1) mv_X7_97 (f7) rfl rfl (by decide) (Nat.le_of_ble_eq_true rfl) (Nat.le_of_ble_eq_true rfl) (Nat.le_of_ble_eq_true rfl) ?_
    refine j_callVr (pc := 12) h dX7_copy_12 (k_X0_find_no f5 hfl hm) mv_X7_101 (f5) rfl rfl (by decide) (Nat.le_of_ble_eq_true rfl) (Nat.le_of_ble_eq_true rfl) (Nat.le_of_ble_eq_true rfl) ?_
    refine j_astore3N (pc := 15) h dX7_copy_15 rfl ?_
    refine j_aload3N (pc := 16) h dX7_copy_16 ?_
    refine j_ifnullN (pc := 17) (tgt := 38) h dX7_copy_17 (by decide) ?_
    refine j_iconst (pc := 38) h dX7_copy_38 ic_m1 ?_
    refine j_iretr (pc := 39) h dX7_copy_39 (rfl)
  · cases ht : σ.tb k with
    | false =>
      have ef : ρ.fn k = -1 := by rw [hfn k hk, ht]; rfl
      refine j_aload0 (pc := 0) h dX7_copy_0 ?_
      refine j_getf (pc := 1) h dX7_copy_1 (f0) fl_X7_19 rfl ?_
      refine j_aload0 (pc := 4) h dX7_copy_4 ?_
      refine j_getf (pc := 5) h dX7_copy_5 (f0) fl_X7_26 rfl ?_
      refine j_iload1 (pc := 8) h dX7_copy_8 ?_
      refine j_callVr (pc := 9) h dX7_copy_9 (k_X3_fileOf f7 f8 hnn hk) mv_X7_97 (f7) rfl rfl (by decide) (Nat.le_of_ble_eq_true rfl) (Nat.le_of_ble_eq_true rfl) (Nat.le_of_ble_eq_true rfl) ?_
      refine j_topi (ef) ?_
      refine j_callVr (pc := 12) h dX7_copy_12 (k_X0_find_no f5 hfl hm) mv_X7_101 (f5) rfl rfl (by decide) (Nat.le_of_ble_eq_true rfl) (Nat.le_of_ble_eq_true rfl) (Nat.le_of_ble_eq_true rfl) ?_
      refine j_astore3N (pc := 15) h dX7_copy_15 rfl ?_
      refine j_aload3N (pc := 16) h dX7_copy_16 ?_
      refine j_ifnullN (pc := 17) (tgt := 38) h dX7_copy_17 (by decide) ?_
      refine j_iconst (pc := 38) h dX7_copy_38 ic_m1 ?_
      refine j_iretr (pc := 39) h dX7_copy_39 (rfl)
    | true =>
      have ef : ρ.fn k = nI (σ.fl k) := by rw [hfn k hk, ht]; rfl
      refine j_aload0 (pc := 0) h dX7_copy_0 ?_
      refine j_getf (pc := 1) h dX7_copy_1 (f0) fl_X7_19 rfl ?_
      refine j_aload0 (pc := 4) h dX7_copy_4 ?_
      refine j_getf (pc := 5) h dX7_copy_5 (f0) fl_X7_26 rfl ?_
      refine j_iload1 (pc := 8) h dX7_copy_8 ?_
      refine j_callVr (pc := 9) h dX7_copy_9 (k_X3_fileOf f7 f8 hnn hk) mv_X7_97 (f7) rfl rfl (by decide) (Nat.le_of_ble_eq_true rfl) (Nat.le_of_ble_eq_true rfl) (Nat.le_of_ble_eq_true rfl) ?_
      refine j_topi (ef) ?_
      refine j_callVr (pc := 12) h dX7_copy_12 (k_X0_find f5 f6 hfl (hI.nam k hk).1 hal (lv_of hk ht)) mv_X7_101 (f5) rfl rfl (by decide) (Nat.le_of_ble_eq_true rfl) (Nat.le_of_ble_eq_true rfl) (Nat.le_of_ble_eq_true rfl) ?_
      refine j_astore3 (pc := 15) h dX7_copy_15 rfl ?_
      refine j_aload3 (pc := 16) h dX7_copy_16 ?_
      refine j_ifnull (pc := 17) h dX7_copy_17 ?_
      refine j_aload0 (pc := 20) h dX7_copy_20 ?_
      refine j_getf (pc := 21) h dX7_copy_21 (f0) fl_X7_12 rfl ?_
      refine j_iload2 (pc := 24) h dX7_copy_24 ?_
      refine j_callVr (pc := 25) h dX7_copy_25 (k_X1_has f1 hf2) mv_X7_64 (f1) rfl rfl (by decide) (Nat.le_of_ble_eq_true rfl) (Nat.le_of_ble_eq_true rfl) (Nat.le_of_ble_eq_true rfl) ?_
      refine j_if_eqB (pc := 28) (tgt := 38) h dX7_copy_28 (by decide) (fun c28 => ?_) (fun c28 => ?_)
      · refine j_iconst (pc := 38) h dX7_copy_38 ic_m1 ?_
        refine j_iretr (pc := 39) h dX7_copy_39 (rfl)
      · refine j_aload0 (pc := 31) h dX7_copy_31 ?_
        refine j_callVr (pc := 32) h dX7_copy_32 (k_X7_canTakeFile w hI) mv_X7_83 (f0) rfl rfl (by decide) (Nat.le_of_ble_eq_true rfl) (Nat.le_of_ble_eq_true rfl) (Nat.le_of_ble_eq_true rfl) ?_
        refine j_if_neB (pc := 35) (tgt := 40) h dX7_copy_35 (by decide) (fun c35 => absurd c35 (copy_n hI hk ht c28 hx)) (fun c35 => ?_)
        refine j_iconst (pc := 38) h dX7_copy_38 ic_m1 ?_
        refine j_iretr (pc := 39) h dX7_copy_39 (rfl)
theorem k_X7_copy {k a : Nat} (w : CW g ad σ ρ C) (hI : Inv σ) (hk : k < σ.nn) (ht : σ.tb k = true) (ha : a < σ.nf) (hf : σ.nfl < 40) (hn : σ.nn < 100) : Ct l g yX7_copy cX7_copy 4 (some .int) 4 2 66 [.ref (ad 0), .int (nI k), .int (nI a)] ad C (PCl g ad C (.int (nI σ.nn)) (sCp σ (σ.fl k) a)) := by
  obtain ⟨f0, f1, f2, f3, f4, f5, f6, f7, f8, f9, f10, f11, f12, f13, f14, f15, f16, f17, f18, f19, hal, hfn, fp, fq, ffr⟩ := id w
  obtain ⟨hf1, hf2, hfl, hnn, hnm, hno, hc1, hc2⟩ := id hI.le
  have hfk := (hI.nam k hk).1
  have hln := (hI.fil _ hfk).1
  obtain ⟨pl, hpl, hpp⟩ := fq _ hfk
  have ef : ρ.fn k = nI (σ.fl k) := by rw [hfn k hk, ht]; rfl
  refine Ct_of [some (.ref (ad 0)), some (.int (nI k)), some (.int (nI a)), none] (by decide) rfl rfl (Nat.le_of_ble_eq_true rfl) rfl rfl (fun X hX h => ?_)
  subst hX
  refine j_aload0 (pc := 0) h dX7_copy_0 ?_
  refine j_getf (pc := 1) h dX7_copy_1 (f0) fl_X7_19 rfl ?_
  refine j_aload0 (pc := 4) h dX7_copy_4 ?_
  refine j_getf (pc := 5) h dX7_copy_5 (f0) fl_X7_26 rfl ?_
  refine j_iload1 (pc := 8) h dX7_copy_8 ?_
  refine j_callVr (pc := 9) h dX7_copy_9 (k_X3_fileOf f7 f8 hnn hk) mv_X7_97 (f7) rfl rfl (by decide) (Nat.le_of_ble_eq_true rfl) (Nat.le_of_ble_eq_true rfl) (Nat.le_of_ble_eq_true rfl) ?_
  refine j_topi (ef) ?_
  refine j_callVr (pc := 12) h dX7_copy_12 (k_X0_find f5 f6 hfl hfk hal (lv_of hk ht)) mv_X7_101 (f5) rfl rfl (by decide) (Nat.le_of_ble_eq_true rfl) (Nat.le_of_ble_eq_true rfl) (Nat.le_of_ble_eq_true rfl) ?_
  refine j_astore3 (pc := 15) h dX7_copy_15 rfl ?_
  refine j_aload3 (pc := 16) h dX7_copy_16 ?_
  refine j_ifnull (pc := 17) h dX7_copy_17 ?_
  refine j_aload0 (pc := 20) h dX7_copy_20 ?_
  refine j_getf (pc := 21) h dX7_copy_21 (f0) fl_X7_12 rfl ?_
  refine j_iload2 (pc := 24) h dX7_copy_24 ?_
  refine j_callVr (pc := 25) h dX7_copy_25 (k_X1_has f1 hf2) mv_X7_64 (f1) rfl rfl (by decide) (Nat.le_of_ble_eq_true rfl) (Nat.le_of_ble_eq_true rfl) (Nat.le_of_ble_eq_true rfl) ?_
  refine j_if_eqB (pc := 28) (tgt := 38) h dX7_copy_28 (by decide) (fun c28 => absurd c28 (by rw [inN_nI (by omega)]; simp; omega)) (fun c28 => ?_)
  refine j_aload0 (pc := 31) h dX7_copy_31 ?_
  refine j_callVr (pc := 32) h dX7_copy_32 (k_X7_canTakeFile w hI) mv_X7_83 (f0) rfl rfl (by decide) (Nat.le_of_ble_eq_true rfl) (Nat.le_of_ble_eq_true rfl) (Nat.le_of_ble_eq_true rfl) ?_
  refine j_if_neB (pc := 35) (tgt := 40) h dX7_copy_35 (by decide) (fun c35 => ?_) (fun c35 => absurd c35 (by simp; omega))
  refine j_aload0 (pc := 40) h dX7_copy_40 ?_
  refine j_getf (pc := 41) h dX7_copy_41 (f0) fl_X7_26 rfl ?_
  refine j_aload0 (pc := 44) h dX7_copy_44 ?_
  refine j_getf (pc := 45) h dX7_copy_45 (f0) fl_X7_19 rfl ?_
  refine j_aload3 (pc := 48) h dX7_copy_48 ?_
  refine j_aload0 (pc := 49) h dX7_copy_49 ?_
  refine j_getf (pc := 50) h dX7_copy_50 (f0) fl_X7_51 rfl ?_
  refine j_callV (pc := 53) h dX7_copy_53 (k_X6_duplicate (t := 39 + 2 * σ.nfl) (fp _ hfk) hpl hln (ffr _ (Nat.le_refl _)) (ffr _ (by omega)) (by omega)) mv_X7_105 (fp _ hfk) rfl rfl (by decide) (Nat.le_of_ble_eq_true rfl) (Nat.le_of_ble_eq_true rfl) (Nat.le_of_ble_eq_true rfl) (fun v53 ad53 C53 hp53 => ?_)
  obtain ⟨rfl, pl', hP2, hpl'⟩ := hp53
  have g5 : C53 5 = some (oFi ad53 σ.nfl) := by rw [(hP2.1 5 (by omega) (by omega)).2, f5]; unfold oFi; rw [(hP2.1 6 (by omega) (by omega)).1]
  have g6 : C53 6 = some (eO g 40 ρ.al) := by rw [(hP2.1 6 (by omega) (by omega)).2, f6]
  have g7 : C53 7 = some (oNa ad53 σ.nn) := by rw [(hP2.1 7 (by omega) (by omega)).2, f7]; unfold oNa; rw [(hP2.1 8 (by omega) (by omega)).1, (hP2.1 9 (by omega) (by omega)).1]
  have g8 : C53 8 = some (eI g 100 ρ.fn) := by rw [(hP2.1 8 (by omega) (by omega)).2, f8]
  have g9 : C53 9 = some (eI g 100 (fun k => nI (σ.ni k))) := by rw [(hP2.1 9 (by omega) (by omega)).2, f9]
  have hne : ∀ j, C j ≠ none → ad53 j = ad j := fun j hj => by
    by_cases h : j < 39 + 2 * σ.nfl
    · exact (hP2.1 j (by omega) (by omega)).1
    · exact absurd (ffr j (by omega)) hj
  refine j_st (st' := [.ref (ad53 (39 + 2 * σ.nfl)), .ref (ad53 5), .ref (ad53 7)]) (by rw [(hP2.1 5 (by omega) (by omega)).1, (hP2.1 7 (by omega) (by omega)).1]; rfl) ?_
  refine j_fg (L' := [none, none, some (.int (nI a)), none]) (by intro q hq; simp [asc] at hq ⊢; simp [hq]) rfl ?_
  refine j_callV (pc := 56) h dX7_copy_56 (k_X0_add g5 g6 hP2.2.1 (by omega) hf) mv_X7_92 (g5) rfl rfl (by decide) (Nat.le_of_ble_eq_true rfl) (Nat.le_of_ble_eq_true rfl) (Nat.le_of_ble_eq_true rfl) (fun v56 ad56 C56 hp56 => ?_)
  obtain ⟨rfl, rfl, rfl⟩ := hp56
  refine j_iload2 (pc := 59) h dX7_copy_59 ?_
  refine j_callV (pc := 60) h dX7_copy_60 (k_X3_add (nn := σ.nn) g7 g8 g9 hn) mv_X7_95 (g7) rfl rfl (by decide) (Nat.le_of_ble_eq_true rfl) (Nat.le_of_ble_eq_true rfl) (Nat.le_of_ble_eq_true rfl) (fun v60 ad60 C60 hp60 => ?_)
  obtain ⟨rfl, rfl, rfl⟩ := hp60
  refine j_iret (pc := 63) h dX7_copy_63 (CW_add (L := σ.ln (σ.fl k)) (rb := rbC σ.rb (σ.fl k) σ.nfl 60) w hI hP2 (fun q hq => by unfold rbC; rw [if_neg (by omega)]) (orr_cong (fun p hp => by rw [rbC_at (by omega)])) (fun p hp => by rw [hpl' p hp, hpp p hp, rbC_at (by omega)]) hne)
end CF

