/-! The reference: copy, sums, names, growth, what is told -/
def sCp (σ : Sg) (f a : Nat) : Sg := sCo (sNa (sFi σ (σ.ow f) (σ.wo f)) σ.nfl a) f σ.nfl
theorem rbC_s {rb : Nat → Option Nat} {f n i : Nat} (hf : f < n) (hi : i < 60) : upd (fun q => rI (rbC rb f n i q)) (60 * n + i) (rI (rbC rb f n i (60 * f + i))) = fun q => rI (rbC rb f n (i + 1) q) := by
  have e0 : rbC rb f n i (60 * f + i) = rb (60 * f + i) := by unfold rbC; rw [if_neg (by omega)]
  rw [e0]
  funext q
  by_cases h : q = 60 * n + i
  · subst h
    have e : 60 * n + i - 60 * n = i := by omega
    simp [upd, rbC, e]
  · have e : (60 * n ≤ q ∧ q < 60 * n + (i + 1)) ↔ (60 * n ≤ q ∧ q < 60 * n + i) := by omega
    simp [upd, rbC, h, e]
theorem rbC_0 {rb : Nat → Option Nat} {f n : Nat} : rbC rb f n 0 = rb := by
  funext q
  unfold rbC
  rw [if_neg (by omega)]
theorem rng_m1 {x : Int32} {n : Nat} (hn : n < 2 ^ 30) (hx : ¬ x = -1) : rng x (-1) (nI n - nI 1) = inN x n := by
  rw [← rng_n hn]
  unfold rng
  congr 1
  refine decide_eq_decide.mpr ?_
  rw [Int32.le_iff_toInt_le, Int32.le_iff_toInt_le]
  have e1 : (-1 : Int32).toInt = -1 := by decide
  have e2 : (nI 0).toInt = 0 := by decide
  have e3 : ¬ x.toInt = -1 := fun q => hx (Int32.toInt_inj.mp (q.trans e1.symm))
  omega
theorem rng_mm {n : Nat} (hn : n < 2 ^ 30) : rng (-1) (-1) (nI n - nI 1) = true := by
  refine rngT (by decide) ?_
  rw [Int32.lt_iff_toInt_lt, pk_sub_toInt hn (by decide)]
  have e1 : (-1 : Int32).toInt = -1 := by decide
  omega
section MY
variable {l : Launch} {g : GG} {ad : AD} {C : CC} {σ : Sg} {τ : Tm}
theorem k_X8_copy_no {x y : Int32} (m : MW g ad σ τ C) (hI : Inv σ) (hx : inN x σ.nn = false ∨ (∃ k, k < σ.nn ∧ x = nI k ∧ σ.tb k = false) ∨ inN y σ.nf = false ∨ σ.nfl = 40 ∨ σ.nn = 100) : Cr l g yX8_copy cX8_copy 6 (some .int) 4 [.ref (ad 20), .int x, .int y] ad C (.int (-1)) := by
  obtain ⟨f20, f21, f22, f23, f24, f25, f26, f27, f28, f29, f30, f31, f32, f33, f34, f35, f36, f37, f38⟩ := id m
  obtain ⟨hf1, hf2, hfl, hnn, hnm, hno, hc1, hc2⟩ := id hI.le
  refine Ct_of [some (.ref (ad 20)), some (.int x), some (.int y), none, none, none] (by decide) rfl rfl (Nat.le_of_ble_eq_true rfl) rfl rfl (fun X hX h => ?_)
  subst hX
  rcases inN_cases x σ.nn with hz | ⟨k, hk, rfl⟩
  · refine j_aload0 (pc := 0) h dX8_copy_0 ?_
    refine j_iload1 (pc := 1) h dX8_copy_1 ?_
    refine j_callVr (pc := 2) h dX8_copy_2 (k_X8_of_no m hI hz) mv_X8_102 (f20) rfl rfl (by decide) (Nat.le_of_ble_eq_true rfl) (Nat.le_of_ble_eq_true rfl) (Nat.le_of_ble_eq_true rfl) ?_
    refine j_istore3 (pc := 5) h dX8_copy_5 rfl ?_
    refine j_iload3 (pc := 6) h dX8_copy_6 ?_
    refine j_iconst (pc := 7) h dX8_copy_7 ic_m1 ?_
    refine j_icmp_eq (pc := 8) (tgt := 37) h dX8_copy_8 (by decide) (fun c8 => ?_) (fun c8 => absurd (rfl) c8)
    refine j_iconst (pc := 37) h dX8_copy_37 ic_m1 ?_
    refine j_iretr (pc := 38) h dX8_copy_38 (rfl)
  · cases ht : σ.tb k with
    | false =>
      refine j_aload0 (pc := 0) h dX8_copy_0 ?_
      refine j_iload1 (pc := 1) h dX8_copy_1 ?_
      refine j_callVr (pc := 2) h dX8_copy_2 (k_X8_of m hI hk) mv_X8_102 (f20) rfl rfl (by decide) (Nat.le_of_ble_eq_true rfl) (Nat.le_of_ble_eq_true rfl) (Nat.le_of_ble_eq_true rfl) ?_
      refine j_istore3 (pc := 5) h dX8_copy_5 rfl ?_
      refine j_iload3 (pc := 6) h dX8_copy_6 ?_
      refine j_iconst (pc := 7) h dX8_copy_7 ic_m1 ?_
      refine j_icmp_eq (pc := 8) (tgt := 37) h dX8_copy_8 (by decide) (fun c8 => ?_) (fun c8 => absurd (by rw [ht]; rfl) c8)
      refine j_iconst (pc := 37) h dX8_copy_37 ic_m1 ?_
      refine j_iretr (pc := 38) h dX8_copy_38 (rfl)
    | true =>
      have hfk := (hI.nam k hk).1
      refine j_aload0 (pc := 0) h dX8_copy_0 ?_
      refine j_iload1 (pc := 1) h dX8_copy_1 ?_
      refine j_callVr (pc := 2) h dX8_copy_2 (k_X8_of m hI hk) mv_X8_102 (f20) rfl rfl (by decide) (Nat.le_of_ble_eq_true rfl) (Nat.le_of_ble_eq_true rfl) (Nat.le_of_ble_eq_true rfl) ?_
      refine j_istore3 (pc := 5) h dX8_copy_5 rfl ?_
      refine j_iload3 (pc := 6) h dX8_copy_6 ?_
      refine j_iconst (pc := 7) h dX8_copy_7 ic_m1 ?_
      refine j_icmp_eq (pc := 8) (tgt := 37) h dX8_copy_8 (by decide) (fun c8 => absurd c8 (by rw [if_pos ht]; exact nI_m1 (by omega))) (fun c8 => ?_)
      refine j_aload0 (pc := 11) h dX8_copy_11 ?_
      refine j_iload2 (pc := 12) h dX8_copy_12 ?_
      refine j_callVr (pc := 13) h dX8_copy_13 (k_X8_isFolder m hI) mv_X8_80 (f20) rfl rfl (by decide) (Nat.le_of_ble_eq_true rfl) (Nat.le_of_ble_eq_true rfl) (Nat.le_of_ble_eq_true rfl) ?_
      refine j_if_eqB (pc := 16) (tgt := 37) h dX8_copy_16 (by decide) (fun c16 => ?_) (fun c16 => ?_)
      · refine j_iconst (pc := 37) h dX8_copy_37 ic_m1 ?_
        refine j_iretr (pc := 38) h dX8_copy_38 (rfl)
      · refine j_aload0 (pc := 19) h dX8_copy_19 ?_
        refine j_getf (pc := 20) h dX8_copy_20 (f20) fl_X8_91 rfl ?_
        refine j_bipush (pc := 23) h dX8_copy_23 bp_40 ?_
        refine j_icmp_eq (pc := 25) (tgt := 37) h dX8_copy_25 (by decide) (fun c25 => ?_) (fun c25 => ?_)
        · refine j_iconst (pc := 37) h dX8_copy_37 ic_m1 ?_
          refine j_iretr (pc := 38) h dX8_copy_38 (rfl)
        · have h4 : ¬ σ.nfl = 40 := fun q => c25 (by rw [q])
          rcases hx with hx | ⟨j, hj, he, hx⟩ | hx | hx | hx
          · rw [inN_nI (by omega)] at hx; simp at hx; omega
          · have := nI_inj he (by omega) (by omega); subst this; rw [hx] at ht; cases ht
          · exact absurd (hx.symm.trans c16) (by decide)
          · exact absurd hx h4
          · refine j_aload0 (pc := 28) h dX8_copy_28 ?_
            refine j_getf (pc := 29) h dX8_copy_29 (f20) fl_X8_88 rfl ?_
            refine j_bipush (pc := 32) h dX8_copy_32 bp_100 ?_
            refine j_icmp_ne (pc := 34) (tgt := 39) h dX8_copy_34 (by decide) (fun c34 => absurd (by rw [hx]) c34) (fun c34 => ?_)
            refine j_iconst (pc := 37) h dX8_copy_37 ic_m1 ?_
            refine j_iretr (pc := 38) h dX8_copy_38 (rfl)
theorem k_X8_copy {k a : Nat} (m : MW g ad σ τ C) (hI : Inv σ) (hk : k < σ.nn) (ht : σ.tb k = true) (ha : a < σ.nf) (hf : σ.nfl < 40) (hn : σ.nn < 100) : Ct l g yX8_copy cX8_copy 6 (some .int) 4 0 0 [.ref (ad 20), .int (nI k), .int (nI a)] ad C (PMo g ad C (.int (nI σ.nn)) (sCp σ (σ.fl k) a)) := by
  obtain ⟨f20, f21, f22, f23, f24, f25, f26, f27, f28, f29, f30, f31, f32, f33, f34, f35, f36, f37, f38⟩ := id m
  obtain ⟨hf1, hf2, hfl, hnn, hnm, hno, hc1, hc2⟩ := id hI.le
  have hfk := (hI.nam k hk).1
  obtain ⟨q1, q2, q3⟩ := hI.fil _ hfk
  have e0 : (if σ.tb k = true then nI (σ.fl k) else -1) = nI (σ.fl k) := if_pos ht
  refine Ct_of [some (.ref (ad 20)), some (.int (nI k)), some (.int (nI a)), none, none, none] (by decide) rfl rfl (Nat.le_of_ble_eq_true rfl) rfl rfl (fun X hX h => ?_)
  subst hX
  have key : ∀ D : CC, MW g ad ((sNa (sFi σ (σ.ow (σ.fl k)) (σ.wo (σ.fl k))) σ.nfl a).uN 1 (va_up σ.ln σ.nfl (σ.ln (σ.fl k)))) τ D → frM C D → ∀ n i D', i + n = 60 → D' = va_up D 25 (some (eI g 2400 (fun q => rI (rbC σ.rb (σ.fl k) σ.nfl i q)))) → J X g 6 (QX X g 0 0 (PMo g ad C (.int (nI σ.nn)) (sCp σ (σ.fl k) a))) 0 0 ad D' 78 [some (.ref (ad 20)), some (.int (nI k)), some (.int (nI a)), some (.int (nI (σ.fl k))), some (.int (nI σ.nn)), some (.int (nI i))] [] := by
    intro D mD hfr n
    obtain ⟨f20, f21, f22, f23, f24, f25, f26, f27, f28, f29, f30, f31, f32, f33, f34, f35, f36, f37, f38⟩ := id mD
    induction n with
    | zero =>
      intro i D' hi hD
      obtain rfl : i = 60 := by omega
      subst hD
      refine j_iload5 (pc := 78) h dX8_copy_78 ?_
      refine j_bipush (pc := 80) h dX8_copy_80 bp_60 ?_
      refine j_icmp_ge (pc := 82) (tgt := 120) h dX8_copy_82 (by decide) (fun c82 => ?_) (fun c82 => absurd (nI_le (by omega) (by omega)) c82)
      refine j_iload4 (pc := 120) h dX8_copy_120 ?_
      refine j_iret (pc := 122) h dX8_copy_122 (⟨rfl, rfl, ⟨τ, ⟨f20, f21, f22, f23, f24, rfl, f26, f27, f28, f29, f30, f31, f32, f33, f34, f35, f36, f37, f38⟩⟩, frM_up hfr (by decide) (by decide)⟩)
    | succ n ih =>
      intro i D' hi hD
      subst hD
      refine j_iload5 (pc := 78) h dX8_copy_78 ?_
      refine j_bipush (pc := 80) h dX8_copy_80 bp_60 ?_
      refine j_icmp_ge (pc := 82) (tgt := 120) h dX8_copy_82 (by decide) (fun c82 => absurd c82 (nI_ge (by omega) (by omega))) (fun c82 => ?_)
      refine j_aload0 (pc := 85) h dX8_copy_85 ?_
      refine j_getf (pc := 86) h dX8_copy_86 (f20) fl_X8_27 rfl ?_
      refine j_bipush (pc := 89) h dX8_copy_89 bp_60 ?_
      refine j_aload0 (pc := 91) h dX8_copy_91 ?_
      refine j_getf (pc := 92) h dX8_copy_92 (f20) fl_X8_91 rfl ?_
      refine j_iconst (pc := 95) h dX8_copy_95 ic_1 ?_
      refine j_isub1 (pc := 96) h dX8_copy_96 ?_
      refine j_imulN (pc := 97) h dX8_copy_97 ?_
      refine j_iload5 (pc := 98) h dX8_copy_98 ?_
      refine j_iaddN (pc := 100) h dX8_copy_100 ?_
      refine j_aload0 (pc := 101) h dX8_copy_101 ?_
      refine j_getf (pc := 102) h dX8_copy_102 (f20) fl_X8_27 rfl ?_
      refine j_bipush (pc := 105) h dX8_copy_105 bp_60 ?_
      refine j_iload3 (pc := 107) h dX8_copy_107 ?_
      refine j_imulN (pc := 108) h dX8_copy_108 ?_
      refine j_iload5 (pc := 109) h dX8_copy_109 ?_
      refine j_iaddN (pc := 111) h dX8_copy_111 ?_
      refine j_iald (pc := 112) h dX8_copy_112 (va_up_self _ _ _) (by omega) (by decide) ?_
      refine j_iast (pc := 113) h dX8_copy_113 (va_up_self _ _ _) (by omega) (by decide) ?_
      refine j_mem (up_up _ _ _ _) ?_
      refine j_iinc5 (pc := 114) h dX8_copy_114 rfl (inc_n _) ?_
      refine j_goto (pc := 117) (tgt := 78) h dX8_copy_117 (by decide) ?_
      exact ih (i + 1) _ (by omega) (by rw [rbC_s hfk (by omega)])
  refine j_aload0 (pc := 0) h dX8_copy_0 ?_
  refine j_iload1 (pc := 1) h dX8_copy_1 ?_
  refine j_callVr (pc := 2) h dX8_copy_2 (k_X8_of m hI hk) mv_X8_102 (f20) rfl rfl (by decide) (Nat.le_of_ble_eq_true rfl) (Nat.le_of_ble_eq_true rfl) (Nat.le_of_ble_eq_true rfl) ?_
  refine j_topi (e0) ?_
  refine j_istore3 (pc := 5) h dX8_copy_5 rfl ?_
  refine j_iload3 (pc := 6) h dX8_copy_6 ?_
  refine j_iconst (pc := 7) h dX8_copy_7 ic_m1 ?_
  refine j_icmp_eq (pc := 8) (tgt := 37) h dX8_copy_8 (by decide) (fun c8 => absurd c8 (nI_m1 (by omega))) (fun c8 => ?_)
  refine j_aload0 (pc := 11) h dX8_copy_11 ?_
  refine j_iload2 (pc := 12) h dX8_copy_12 ?_
  refine j_callVr (pc := 13) h dX8_copy_13 (k_X8_isFolder m hI) mv_X8_80 (f20) rfl rfl (by decide) (Nat.le_of_ble_eq_true rfl) (Nat.le_of_ble_eq_true rfl) (Nat.le_of_ble_eq_true rfl) ?_
  refine j_if_eqB (pc := 16) (tgt := 37) h dX8_copy_16 (by decide) (fun c16 => absurd c16 (by rw [inN_nI (by omega)]; simp; omega)) (fun c16 => ?_)
  refine j_aload0 (pc := 19) h dX8_copy_19 ?_
  refine j_getf (pc := 20) h dX8_copy_20 (f20) fl_X8_91 rfl ?_
  refine j_bipush (pc := 23) h dX8_copy_23 bp_40 ?_
  refine j_icmp_eq (pc := 25) (tgt := 37) h dX8_copy_25 (by decide) (fun c25 => absurd c25 (fun q => absurd (nI_inj q (by omega) (by omega)) (by omega))) (fun c25 => ?_)
  refine j_aload0 (pc := 28) h dX8_copy_28 ?_
  refine j_getf (pc := 29) h dX8_copy_29 (f20) fl_X8_88 rfl ?_
  refine j_bipush (pc := 32) h dX8_copy_32 bp_100 ?_
  refine j_icmp_ne (pc := 34) (tgt := 39) h dX8_copy_34 (by decide) (fun c34 => ?_) (fun c34 => absurd c34 (fun q => absurd (nI_inj q (by omega) (by omega)) (by omega)))
  refine j_aload0 (pc := 39) h dX8_copy_39 ?_
  refine j_iload2 (pc := 40) h dX8_copy_40 ?_
  refine j_aload0 (pc := 41) h dX8_copy_41 ?_
  refine j_getf (pc := 42) h dX8_copy_42 (f20) fl_X8_30 rfl ?_
  refine j_iload3 (pc := 45) h dX8_copy_45 ?_
  refine j_iald (pc := 46) h dX8_copy_46 (f26) (by omega) (by decide) ?_
  refine j_aload0 (pc := 47) h dX8_copy_47 ?_
  refine j_getf (pc := 48) h dX8_copy_48 (f20) fl_X8_33 rfl ?_
  refine j_iload3 (pc := 51) h dX8_copy_51 ?_
  refine j_iald (pc := 52) h dX8_copy_52 (f27) (by omega) (by decide) ?_
  refine j_callV (pc := 53) h dX8_copy_53 (k_X8_file m hI ha q3 (by omega) hf hn) mv_X8_105 (f20) rfl rfl (by decide) (Nat.le_of_ble_eq_true rfl) (Nat.le_of_ble_eq_true rfl) (Nat.le_of_ble_eq_true rfl) (fun v53 ad53 C53 hp53 => ?_)
  obtain ⟨rfl, rfl, h1, h2⟩ := hp53
  refine j_istore4 (pc := 56) h dX8_copy_56 rfl ?_
  obtain ⟨g20, g21, g22, g23, g24, g25, g26, g27, g28, g29, g30, g31, g32, g33, g34, g35, g36, g37, g38⟩ := id h1
  refine j_aload0 (pc := 58) h dX8_copy_58 ?_
  refine j_getf (pc := 59) h dX8_copy_59 (g20) fl_X8_24 rfl ?_
  refine j_aload0 (pc := 62) h dX8_copy_62 ?_
  refine j_getf (pc := 63) h dX8_copy_63 (g20) fl_X8_91 rfl ?_
  refine j_iconst (pc := 66) h dX8_copy_66 ic_1 ?_
  refine j_isub1 (pc := 67) h dX8_copy_67 ?_
  refine j_aload0 (pc := 68) h dX8_copy_68 ?_
  refine j_getf (pc := 69) h dX8_copy_69 (g20) fl_X8_24 rfl ?_
  refine j_iload3 (pc := 72) h dX8_copy_72 ?_
  refine j_iald (pc := 73) h dX8_copy_73 (g24) (by omega) (by decide) ?_
  refine j_iast (pc := 74) h dX8_copy_74 (g24) (by omega) (by decide) ?_
  refine j_iconst (pc := 75) h dX8_copy_75 ic_0 ?_
  refine j_istore5 (pc := 76) h dX8_copy_76 rfl ?_
  have m2 : MW g ad53 ((sNa (sFi σ (σ.ow (σ.fl k)) (σ.wo (σ.fl k))) σ.nfl a).uN 1 (va_up σ.ln σ.nfl (σ.ln (σ.fl k)))) τ (va_up C53 24 (some (eI g 40 (upd (fun i => nI (σ.ln i)) σ.nfl (nI (σ.ln (σ.fl k))))))) := ⟨g20, g21, g22, g23, eI_c nF_up, g25, g26, g27, g28, g29, g30, g31, g32, g33, g34, g35, g36, g37, g38⟩
  refine key _ m2 (frM_up h2 (by decide) (by decide)) 60 0 _ (by omega) ?_
  rw [rbC_0]
  funext j
  by_cases hj : j = 25
  · subst hj; rw [va_up_self]; exact g25
  · rw [va_up_ne _ _ hj]; rfl
/-- who may ask for sums -/
def may (σ : Sg) (y : Int32) (a : Nat) : Bool := sees σ.pr σ.hd σ.fow y 29 a || (a == 0 || sees σ.pr σ.hd σ.fow y 29 (σ.pr a))
def lenS (σ : Sg) (a : Nat) : Nat := sumN (fun i => if isn σ i a = true then σ.ln i else 0) σ.nfl
def filS (σ : Sg) (a : Nat) : Nat := cnt (fun i => isn σ i a) σ.nfl
theorem k_X8_sum_no {x y z : Int32} (m : MW g ad σ τ C) (hI : Inv σ) (hx : inN x σ.nf = false ∨ inN y 6 = false ∨ inN z 3 = false) : Cr l g yX8_sum cX8_sum 6 (some .int) 4 [.ref (ad 20), .int x, .int y, .int z] ad C (.int (-1)) := by
  obtain ⟨f20, f21, f22, f23, f24, f25, f26, f27, f28, f29, f30, f31, f32, f33, f34, f35, f36, f37, f38⟩ := id m
  obtain ⟨hf1, hf2, hfl, hnn, hnm, hno, hc1, hc2⟩ := id hI.le
  refine Ct_of [some (.ref (ad 20)), some (.int x), some (.int y), some (.int z), none, none] (by decide) rfl rfl (Nat.le_of_ble_eq_true rfl) rfl rfl (fun X hX h => ?_)
  subst hX
  refine j_aload0 (pc := 0) h dX8_sum_0 ?_
  refine j_iload1 (pc := 1) h dX8_sum_1 ?_
  refine j_callVr (pc := 2) h dX8_sum_2 (k_X8_isFolder m hI) mv_X8_80 (f20) rfl rfl (by decide) (Nat.le_of_ble_eq_true rfl) (Nat.le_of_ble_eq_true rfl) (Nat.le_of_ble_eq_true rfl) ?_
  refine j_if_eqB (pc := 5) (tgt := 26) h dX8_sum_5 (by decide) (fun c5 => ?_) (fun c5 => ?_)
  · refine j_iconst (pc := 26) h dX8_sum_26 ic_m1 ?_
    refine j_iretr (pc := 27) h dX8_sum_27 (rfl)
  · refine j_iload2 (pc := 8) h dX8_sum_8 ?_
    refine j_iconst (pc := 9) h dX8_sum_9 ic_0 ?_
    refine j_iconst (pc := 10) h dX8_sum_10 ic_5 ?_
    refine j_callSr (pc := 11) h dX8_sum_11 (k_X8_in) ms_X8_73 rfl rfl (by decide) (Nat.le_of_ble_eq_true rfl) (Nat.le_of_ble_eq_true rfl) (Nat.le_of_ble_eq_true rfl) ?_
    refine j_if_eqB (pc := 14) (tgt := 26) h dX8_sum_14 (by decide) (fun c14 => ?_) (fun c14 => ?_)
    · refine j_iconst (pc := 26) h dX8_sum_26 ic_m1 ?_
      refine j_iretr (pc := 27) h dX8_sum_27 (rfl)
    · refine j_iload3 (pc := 17) h dX8_sum_17 ?_
      refine j_iconst (pc := 18) h dX8_sum_18 ic_0 ?_
      refine j_iconst (pc := 19) h dX8_sum_19 ic_2 ?_
      refine j_callSr (pc := 20) h dX8_sum_20 (k_X8_in) ms_X8_73 rfl rfl (by decide) (Nat.le_of_ble_eq_true rfl) (Nat.le_of_ble_eq_true rfl) (Nat.le_of_ble_eq_true rfl) ?_
      refine j_if_neB (pc := 23) (tgt := 28) h dX8_sum_23 (by decide) (fun c23 => absurd c23 (by rw [rng_m (by decide)]; rw [rng_m (by decide)] at c14; rcases hx with hx|hx|hx; exact absurd (hx.symm.trans c5) (by decide); exact absurd (hx.symm.trans c14) (by decide); rw [hx]; decide)) (fun c23 => ?_)
      refine j_iconst (pc := 26) h dX8_sum_26 ic_m1 ?_
      refine j_iretr (pc := 27) h dX8_sum_27 (rfl)
theorem k_X8_sum_nm {a : Nat} {y z : Int32} (m : MW g ad σ τ C) (hI : Inv σ) (ha : a < σ.nf) (hy : inN y 6 = true) (hz : inN z 3 = true) (hm : may σ y a = false) : Cr l g yX8_sum cX8_sum 6 (some .int) 4 [.ref (ad 20), .int (nI a), .int y, .int z] ad C (.int (-1)) := by
  obtain ⟨f20, f21, f22, f23, f24, f25, f26, f27, f28, f29, f30, f31, f32, f33, f34, f35, f36, f37, f38⟩ := id m
  obtain ⟨hf1, hf2, hfl, hnn, hnm, hno, hc1, hc2⟩ := id hI.le
  have h0 : a ≠ 0 := by intro q; subst q; simp [may] at hm
  have hs1 : sees σ.pr σ.hd σ.fow y 29 a = false := by simp [may] at hm; exact hm.1
  have hs2 : sees σ.pr σ.hd σ.fow y 29 (σ.pr a) = false := by simp [may] at hm; exact hm.2.2
  refine Ct_of [some (.ref (ad 20)), some (.int (nI a)), some (.int y), some (.int z), none, none] (by decide) rfl rfl (Nat.le_of_ble_eq_true rfl) rfl rfl (fun X hX h => ?_)
  subst hX
  refine j_aload0 (pc := 0) h dX8_sum_0 ?_
  refine j_iload1 (pc := 1) h dX8_sum_1 ?_
  refine j_callVr (pc := 2) h dX8_sum_2 (k_X8_isFolder m hI) mv_X8_80 (f20) rfl rfl (by decide) (Nat.le_of_ble_eq_true rfl) (Nat.le_of_ble_eq_true rfl) (Nat.le_of_ble_eq_true rfl) ?_
  refine j_if_eqB (pc := 5) (tgt := 26) h dX8_sum_5 (by decide) (fun c5 => absurd c5 (by rw [inN_nI (by omega)]; simp; omega)) (fun c5 => ?_)
  refine j_iload2 (pc := 8) h dX8_sum_8 ?_
  refine j_iconst (pc := 9) h dX8_sum_9 ic_0 ?_
  refine j_iconst (pc := 10) h dX8_sum_10 ic_5 ?_
  refine j_callSr (pc := 11) h dX8_sum_11 (k_X8_in) ms_X8_73 rfl rfl (by decide) (Nat.le_of_ble_eq_true rfl) (Nat.le_of_ble_eq_true rfl) (Nat.le_of_ble_eq_true rfl) ?_
  refine j_if_eqB (pc := 14) (tgt := 26) h dX8_sum_14 (by decide) (fun c14 => absurd c14 (by rw [rng_m (by decide), hy]; decide)) (fun c14 => ?_)
  refine j_iload3 (pc := 17) h dX8_sum_17 ?_
  refine j_iconst (pc := 18) h dX8_sum_18 ic_0 ?_
  refine j_iconst (pc := 19) h dX8_sum_19 ic_2 ?_
  refine j_callSr (pc := 20) h dX8_sum_20 (k_X8_in) ms_X8_73 rfl rfl (by decide) (Nat.le_of_ble_eq_true rfl) (Nat.le_of_ble_eq_true rfl) (Nat.le_of_ble_eq_true rfl) ?_
  refine j_if_neB (pc := 23) (tgt := 28) h dX8_sum_23 (by decide) (fun c23 => ?_) (fun c23 => absurd c23 (by rw [rng_m (by decide), hz]; decide))
  refine j_aload0 (pc := 28) h dX8_sum_28 ?_
  refine j_iload1 (pc := 29) h dX8_sum_29 ?_
  refine j_iload2 (pc := 30) h dX8_sum_30 ?_
  refine j_callVr (pc := 31) h dX8_sum_31 (k_X8_isSeen m hI ha) mv_X8_140 (f20) rfl rfl (by decide) (Nat.le_of_ble_eq_true rfl) (Nat.le_of_ble_eq_true rfl) (Nat.le_of_ble_eq_true rfl) ?_
  refine j_if_neB (pc := 34) (tgt := 53) h dX8_sum_34 (by decide) (fun c34 => absurd c34 (by rw [hs1]; decide)) (fun c34 => ?_)
  refine j_aload0 (pc := 37) h dX8_sum_37 ?_
  refine j_aload0 (pc := 38) h dX8_sum_38 ?_
  refine j_getf (pc := 39) h dX8_sum_39 (f20) fl_X8_13 rfl ?_
  refine j_iload1 (pc := 42) h dX8_sum_42 ?_
  refine j_iald (pc := 43) h dX8_sum_43 (f21) (by omega) (by decide) ?_
  refine j_topi (parF_s h0) ?_
  refine j_iload2 (pc := 44) h dX8_sum_44 ?_
  refine j_callVr (pc := 45) h dX8_sum_45 (k_X8_isSeen m hI (hI.pr a ha h0)) mv_X8_140 (f20) rfl rfl (by decide) (Nat.le_of_ble_eq_true rfl) (Nat.le_of_ble_eq_true rfl) (Nat.le_of_ble_eq_true rfl) ?_
  refine j_if_neB (pc := 48) (tgt := 53) h dX8_sum_48 (by decide) (fun c48 => absurd c48 (by rw [hs2]; decide)) (fun c48 => ?_)
  refine j_iconst (pc := 51) h dX8_sum_51 ic_m1 ?_
  refine j_iretr (pc := 52) h dX8_sum_52 (rfl)
theorem k_X8_sum_go {a : Nat} {y z r : Int32} (X : CX) (m : MW g ad σ τ C) (hI : Inv σ) (ha : a < σ.nf) (hy : inN y 6 = true) (hz : inN z 3 = true) (hm : may σ y a = true) (h : Cx X g yX8_sum.cls yX8_sum.name cX8_sum 6 4 0 0 (some .int)) (kk : J X g 6 (QR X g ad C (.int r)) 0 0 ad C 53 [some (.ref (ad 20)), some (.int (nI a)), some (.int y), some (.int z), none, none] []) : J X g 6 (QR X g ad C (.int r)) 0 0 ad C 0 [some (.ref (ad 20)), some (.int (nI a)), some (.int y), some (.int z), none, none] [] := by
  obtain ⟨f20, f21, f22, f23, f24, f25, f26, f27, f28, f29, f30, f31, f32, f33, f34, f35, f36, f37, f38⟩ := id m
  obtain ⟨hf1, hf2, hfl, hnn, hnm, hno, hc1, hc2⟩ := id hI.le
  refine j_aload0 (pc := 0) h dX8_sum_0 ?_
  refine j_iload1 (pc := 1) h dX8_sum_1 ?_
  refine j_callVr (pc := 2) h dX8_sum_2 (k_X8_isFolder m hI) mv_X8_80 (f20) rfl rfl (by decide) (Nat.le_of_ble_eq_true rfl) (Nat.le_of_ble_eq_true rfl) (Nat.le_of_ble_eq_true rfl) ?_
  refine j_if_eqB (pc := 5) (tgt := 26) h dX8_sum_5 (by decide) (fun c5 => absurd c5 (by rw [inN_nI (by omega)]; simp; omega)) (fun c5 => ?_)
  refine j_iload2 (pc := 8) h dX8_sum_8 ?_
  refine j_iconst (pc := 9) h dX8_sum_9 ic_0 ?_
  refine j_iconst (pc := 10) h dX8_sum_10 ic_5 ?_
  refine j_callSr (pc := 11) h dX8_sum_11 (k_X8_in) ms_X8_73 rfl rfl (by decide) (Nat.le_of_ble_eq_true rfl) (Nat.le_of_ble_eq_true rfl) (Nat.le_of_ble_eq_true rfl) ?_
  refine j_if_eqB (pc := 14) (tgt := 26) h dX8_sum_14 (by decide) (fun c14 => absurd c14 (by rw [rng_m (by decide), hy]; decide)) (fun c14 => ?_)
  refine j_iload3 (pc := 17) h dX8_sum_17 ?_
  refine j_iconst (pc := 18) h dX8_sum_18 ic_0 ?_
  refine j_iconst (pc := 19) h dX8_sum_19 ic_2 ?_
  refine j_callSr (pc := 20) h dX8_sum_20 (k_X8_in) ms_X8_73 rfl rfl (by decide) (Nat.le_of_ble_eq_true rfl) (Nat.le_of_ble_eq_true rfl) (Nat.le_of_ble_eq_true rfl) ?_
  refine j_if_neB (pc := 23) (tgt := 28) h dX8_sum_23 (by decide) (fun c23 => ?_) (fun c23 => absurd c23 (by rw [rng_m (by decide), hz]; decide))
  refine j_aload0 (pc := 28) h dX8_sum_28 ?_
  refine j_iload1 (pc := 29) h dX8_sum_29 ?_
  refine j_iload2 (pc := 30) h dX8_sum_30 ?_
  refine j_callVr (pc := 31) h dX8_sum_31 (k_X8_isSeen m hI ha) mv_X8_140 (f20) rfl rfl (by decide) (Nat.le_of_ble_eq_true rfl) (Nat.le_of_ble_eq_true rfl) (Nat.le_of_ble_eq_true rfl) ?_
  refine j_if_neB (pc := 34) (tgt := 53) h dX8_sum_34 (by decide) (fun c34 => ?_) (fun c34 => ?_)
  · exact kk
  · by_cases h0 : a = 0
    · subst h0
      refine j_aload0 (pc := 37) h dX8_sum_37 ?_
      refine j_aload0 (pc := 38) h dX8_sum_38 ?_
      refine j_getf (pc := 39) h dX8_sum_39 (f20) fl_X8_13 rfl ?_
      refine j_iload1 (pc := 42) h dX8_sum_42 ?_
      refine j_iald (pc := 43) h dX8_sum_43 (f21) (by omega) (by decide) ?_
      refine j_iload2 (pc := 44) h dX8_sum_44 ?_
      refine j_callVr (pc := 45) h dX8_sum_45 (k_X8_isSeen_m1 m) mv_X8_140 (f20) rfl rfl (by decide) (Nat.le_of_ble_eq_true rfl) (Nat.le_of_ble_eq_true rfl) (Nat.le_of_ble_eq_true rfl) ?_
      refine j_if_neB (pc := 48) (tgt := 53) h dX8_sum_48 (by decide) (fun c48 => ?_) (fun c48 => absurd c48 (by decide))
      exact kk
    · have hs2 : sees σ.pr σ.hd σ.fow y 29 (σ.pr a) = true := by simp [may, c34, h0] at hm; exact hm
      refine j_aload0 (pc := 37) h dX8_sum_37 ?_
      refine j_aload0 (pc := 38) h dX8_sum_38 ?_
      refine j_getf (pc := 39) h dX8_sum_39 (f20) fl_X8_13 rfl ?_
      refine j_iload1 (pc := 42) h dX8_sum_42 ?_
      refine j_iald (pc := 43) h dX8_sum_43 (f21) (by omega) (by decide) ?_
      refine j_topi (parF_s h0) ?_
      refine j_iload2 (pc := 44) h dX8_sum_44 ?_
      refine j_callVr (pc := 45) h dX8_sum_45 (k_X8_isSeen m hI (hI.pr a ha h0)) mv_X8_140 (f20) rfl rfl (by decide) (Nat.le_of_ble_eq_true rfl) (Nat.le_of_ble_eq_true rfl) (Nat.le_of_ble_eq_true rfl) ?_
      refine j_if_neB (pc := 48) (tgt := 53) h dX8_sum_48 (by decide) (fun c48 => ?_) (fun c48 => absurd c48 (by rw [hs2]; decide))
      exact kk
theorem k_X8_sum0 {a : Nat} {y : Int32} (m : MW g ad σ τ C) (hI : Inv σ) (ha : a < σ.nf) (hy : inN y 6 = true) (hm : may σ y a = true) : Cr l g yX8_sum cX8_sum 6 (some .int) 4 [.ref (ad 20), .int (nI a), .int y, .int (nI 0)] ad C (.int (nI (tkS σ a))) := by
  obtain ⟨f20, f21, f22, f23, f24, f25, f26, f27, f28, f29, f30, f31, f32, f33, f34, f35, f36, f37, f38⟩ := id m
  obtain ⟨hf1, hf2, hfl, hnn, hnm, hno, hc1, hc2⟩ := id hI.le
  refine Ct_of [some (.ref (ad 20)), some (.int (nI a)), some (.int y), some (.int (nI 0)), none, none] (by decide) rfl rfl (Nat.le_of_ble_eq_true rfl) rfl rfl (fun X hX h => ?_)
  subst hX
  refine k_X8_sum_go X m hI ha hy (by decide) hm h ?_
  refine j_iload3 (pc := 53) h dX8_sum_53 ?_
  refine j_if_ne (pc := 54) (tgt := 63) h dX8_sum_54 (by decide) (fun c54 => absurd (rfl) c54) (fun c54 => ?_)
  refine j_aload0 (pc := 57) h dX8_sum_57 ?_
  refine j_iload1 (pc := 58) h dX8_sum_58 ?_
  refine j_callVr (pc := 59) h dX8_sum_59 (k_X8_taken m hI ha) mv_X8_143 (f20) rfl rfl (by decide) (Nat.le_of_ble_eq_true rfl) (Nat.le_of_ble_eq_true rfl) (Nat.le_of_ble_eq_true rfl) ?_
  refine j_iretr (pc := 62) h dX8_sum_62 (rfl)
theorem k_X8_sum1 {a : Nat} {y : Int32} (m : MW g ad σ τ C) (hI : Inv σ) (ha : a < σ.nf) (hy : inN y 6 = true) (hm : may σ y a = true) : Cr l g yX8_sum cX8_sum 6 (some .int) 4 [.ref (ad 20), .int (nI a), .int y, .int (nI 1)] ad C (.int (nI (lenS σ a))) := by
  obtain ⟨f20, f21, f22, f23, f24, f25, f26, f27, f28, f29, f30, f31, f32, f33, f34, f35, f36, f37, f38⟩ := id m
  obtain ⟨hf1, hf2, hfl, hnn, hnm, hno, hc1, hc2⟩ := id hI.le
  refine Ct_of [some (.ref (ad 20)), some (.int (nI a)), some (.int y), some (.int (nI 1)), none, none] (by decide) rfl rfl (Nat.le_of_ble_eq_true rfl) rfl rfl (fun X hX h => ?_)
  subst hX
  refine k_X8_sum_go X m hI ha hy (by decide) hm h ?_
  have lp : ∀ n i, i + n = σ.nfl → J X g 6 (QR X g ad C (.int (nI (lenS σ a)))) 0 0 ad C 69 [some (.ref (ad 20)), some (.int (nI a)), some (.int y), some (.int (nI 1)), some (.int (nI (sumN (fun i => if isn σ i a = true then σ.ln i else 0) i))), some (.int (nI i))] [] := by
    intro n
    induction n with
    | zero =>
      intro i hi
      refine j_iload5 (pc := 69) h dX8_sum_69 ?_
      refine j_aload0 (pc := 71) h dX8_sum_71 ?_
      refine j_getf (pc := 72) h dX8_sum_72 (f20) fl_X8_91 rfl ?_
      refine j_icmp_ge (pc := 75) (tgt := 115) h dX8_sum_75 (by decide) (fun c75 => ?_) (fun c75 => absurd (nI_le (by omega) (by omega)) c75)
      refine j_iload4 (pc := 115) h dX8_sum_115 ?_
      refine j_iretr (pc := 117) h dX8_sum_117 (by rw [show i = σ.nfl by omega]; rfl)
    | succ n ih =>
      intro i hi
      refine j_iload5 (pc := 69) h dX8_sum_69 ?_
      refine j_aload0 (pc := 71) h dX8_sum_71 ?_
      refine j_getf (pc := 72) h dX8_sum_72 (f20) fl_X8_91 rfl ?_
      refine j_icmp_ge (pc := 75) (tgt := 115) h dX8_sum_75 (by decide) (fun c75 => absurd c75 (nI_ge (by omega) (by omega))) (fun c75 => ?_)
      refine j_aload0 (pc := 78) h dX8_sum_78 ?_
      refine j_iload5 (pc := 79) h dX8_sum_79 ?_
      refine j_iload1 (pc := 81) h dX8_sum_81 ?_
      refine j_callVr (pc := 82) h dX8_sum_82 (k_X8_isIn m hI (by omega) ha) mv_X8_137 (f20) rfl rfl (by decide) (Nat.le_of_ble_eq_true rfl) (Nat.le_of_ble_eq_true rfl) (Nat.le_of_ble_eq_true rfl) ?_
      refine j_if_eqB (pc := 85) (tgt := 109) h dX8_sum_85 (by decide) (fun c85 => ?_) (fun c85 => ?_)
      · refine j_iinc5 (pc := 109) h dX8_sum_109 rfl (inc_n _) ?_
        refine j_goto (pc := 112) (tgt := 69) h dX8_sum_112 (by decide) ?_
        rw [show sumN (fun i => if isn σ i a = true then σ.ln i else 0) i = sumN (fun i => if isn σ i a = true then σ.ln i else 0) (i + 1) from by rw [sumN]; simp [c85]]
        exact ih (i + 1) (by omega)
      · refine j_iload4 (pc := 88) h dX8_sum_88 ?_
        refine j_iload3 (pc := 90) h dX8_sum_90 ?_
        refine j_iconst (pc := 91) h dX8_sum_91 ic_1 ?_
        refine j_icmp_ne (pc := 92) (tgt := 105) h dX8_sum_92 (by decide) (fun c92 => absurd (rfl) c92) (fun c92 => ?_)
        refine j_aload0 (pc := 95) h dX8_sum_95 ?_
        refine j_getf (pc := 96) h dX8_sum_96 (f20) fl_X8_24 rfl ?_
        refine j_iload5 (pc := 99) h dX8_sum_99 ?_
        refine j_iald (pc := 101) h dX8_sum_101 (f24) (by omega) (by decide) ?_
        refine j_goto (pc := 102) (tgt := 106) h dX8_sum_102 (by decide) ?_
        refine j_iaddN (pc := 106) h dX8_sum_106 ?_
        refine j_istore4 (pc := 107) h dX8_sum_107 rfl ?_
        refine j_iinc5 (pc := 109) h dX8_sum_109 rfl (inc_n _) ?_
        refine j_goto (pc := 112) (tgt := 69) h dX8_sum_112 (by decide) ?_
        rw [show sumN (fun i => if isn σ i a = true then σ.ln i else 0) i + σ.ln i = sumN (fun i => if isn σ i a = true then σ.ln i else 0) (i + 1) from by rw [sumN]; simp [c85]]
        exact ih (i + 1) (by omega)
  refine j_iload3 (pc := 53) h dX8_sum_53 ?_
  refine j_if_ne (pc := 54) (tgt := 63) h dX8_sum_54 (by decide) (fun c54 => ?_) (fun c54 => absurd c54 (by decide))
  refine j_iconst (pc := 63) h dX8_sum_63 ic_0 ?_
  refine j_istore4 (pc := 64) h dX8_sum_64 rfl ?_
  refine j_iconst (pc := 66) h dX8_sum_66 ic_0 ?_
  refine j_istore5 (pc := 67) h dX8_sum_67 rfl ?_
  exact lp σ.nfl 0 (by omega)
theorem k_X8_sum2 {a : Nat} {y : Int32} (m : MW g ad σ τ C) (hI : Inv σ) (ha : a < σ.nf) (hy : inN y 6 = true) (hm : may σ y a = true) : Cr l g yX8_sum cX8_sum 6 (some .int) 4 [.ref (ad 20), .int (nI a), .int y, .int (nI 2)] ad C (.int (nI (filS σ a))) := by
  obtain ⟨f20, f21, f22, f23, f24, f25, f26, f27, f28, f29, f30, f31, f32, f33, f34, f35, f36, f37, f38⟩ := id m
  obtain ⟨hf1, hf2, hfl, hnn, hnm, hno, hc1, hc2⟩ := id hI.le
  refine Ct_of [some (.ref (ad 20)), some (.int (nI a)), some (.int y), some (.int (nI 2)), none, none] (by decide) rfl rfl (Nat.le_of_ble_eq_true rfl) rfl rfl (fun X hX h => ?_)
  subst hX
  refine k_X8_sum_go X m hI ha hy (by decide) hm h ?_
  have lp : ∀ n i, i + n = σ.nfl → J X g 6 (QR X g ad C (.int (nI (filS σ a)))) 0 0 ad C 69 [some (.ref (ad 20)), some (.int (nI a)), some (.int y), some (.int (nI 2)), some (.int (nI (cnt (fun i => isn σ i a) i))), some (.int (nI i))] [] := by
    intro n
    induction n with
    | zero =>
      intro i hi
      refine j_iload5 (pc := 69) h dX8_sum_69 ?_
      refine j_aload0 (pc := 71) h dX8_sum_71 ?_
      refine j_getf (pc := 72) h dX8_sum_72 (f20) fl_X8_91 rfl ?_
      refine j_icmp_ge (pc := 75) (tgt := 115) h dX8_sum_75 (by decide) (fun c75 => ?_) (fun c75 => absurd (nI_le (by omega) (by omega)) c75)
      refine j_iload4 (pc := 115) h dX8_sum_115 ?_
      refine j_iretr (pc := 117) h dX8_sum_117 (by rw [show i = σ.nfl by omega]; rfl)
    | succ n ih =>
      intro i hi
      refine j_iload5 (pc := 69) h dX8_sum_69 ?_
      refine j_aload0 (pc := 71) h dX8_sum_71 ?_
      refine j_getf (pc := 72) h dX8_sum_72 (f20) fl_X8_91 rfl ?_
      refine j_icmp_ge (pc := 75) (tgt := 115) h dX8_sum_75 (by decide) (fun c75 => absurd c75 (nI_ge (by omega) (by omega))) (fun c75 => ?_)
      refine j_aload0 (pc := 78) h dX8_sum_78 ?_
      refine j_iload5 (pc := 79) h dX8_sum_79 ?_
      refine j_iload1 (pc := 81) h dX8_sum_81 ?_
      refine j_callVr (pc := 82) h dX8_sum_82 (k_X8_isIn m hI (by omega) ha) mv_X8_137 (f20) rfl rfl (by decide) (Nat.le_of_ble_eq_true rfl) (Nat.le_of_ble_eq_true rfl) (Nat.le_of_ble_eq_true rfl) ?_
      refine j_if_eqB (pc := 85) (tgt := 109) h dX8_sum_85 (by decide) (fun c85 => ?_) (fun c85 => ?_)
      · refine j_iinc5 (pc := 109) h dX8_sum_109 rfl (inc_n _) ?_
        refine j_goto (pc := 112) (tgt := 69) h dX8_sum_112 (by decide) ?_
        rw [show cnt (fun i => isn σ i a) i = cnt (fun i => isn σ i a) (i + 1) from (cnt_f (p := fun i => isn σ i a) c85).symm]
        exact ih (i + 1) (by omega)
      · refine j_iload4 (pc := 88) h dX8_sum_88 ?_
        refine j_iload3 (pc := 90) h dX8_sum_90 ?_
        refine j_iconst (pc := 91) h dX8_sum_91 ic_1 ?_
        refine j_icmp_ne (pc := 92) (tgt := 105) h dX8_sum_92 (by decide) (fun c92 => ?_) (fun c92 => absurd c92 (by decide))
        refine j_iconst (pc := 105) h dX8_sum_105 ic_1 ?_
        refine j_iaddN (pc := 106) h dX8_sum_106 ?_
        refine j_istore4 (pc := 107) h dX8_sum_107 rfl ?_
        refine j_iinc5 (pc := 109) h dX8_sum_109 rfl (inc_n _) ?_
        refine j_goto (pc := 112) (tgt := 69) h dX8_sum_112 (by decide) ?_
        rw [show cnt (fun i => isn σ i a) i + 1 = cnt (fun i => isn σ i a) (i + 1) from (cnt_t (p := fun i => isn σ i a) c85).symm]
        exact ih (i + 1) (by omega)
  refine j_iload3 (pc := 53) h dX8_sum_53 ?_
  refine j_if_ne (pc := 54) (tgt := 63) h dX8_sum_54 (by decide) (fun c54 => ?_) (fun c54 => absurd c54 (by decide))
  refine j_iconst (pc := 63) h dX8_sum_63 ic_0 ?_
  refine j_istore4 (pc := 64) h dX8_sum_64 rfl ?_
  refine j_iconst (pc := 66) h dX8_sum_66 ic_0 ?_
  refine j_istore5 (pc := 67) h dX8_sum_67 rfl ?_
  exact lp σ.nfl 0 (by omega)
/-- the names right in a folder -/
def namP (σ : Sg) (a : Nat) : Nat → Bool := fun k => σ.tb k && σ.ni k == a
theorem k_X8_named_no {x y z : Int32} (m : MW g ad σ τ C) (hI : Inv σ) (hx : inN x σ.nf = false ∨ inN y 6 = false ∨ ∃ a, a < σ.nf ∧ x = nI a ∧ sees σ.pr σ.hd σ.fow y 29 a = false) : Cr l g yX8_named cX8_named 6 (some .int) 3 [.ref (ad 20), .int x, .int y, .int z] ad C (.int (-1)) := by
  obtain ⟨f20, f21, f22, f23, f24, f25, f26, f27, f28, f29, f30, f31, f32, f33, f34, f35, f36, f37, f38⟩ := id m
  obtain ⟨hf1, hf2, hfl, hnn, hnm, hno, hc1, hc2⟩ := id hI.le
  refine Ct_of [some (.ref (ad 20)), some (.int x), some (.int y), some (.int z), none, none] (by decide) rfl rfl (Nat.le_of_ble_eq_true rfl) rfl rfl (fun X hX h => ?_)
  subst hX
  refine j_aload0 (pc := 0) h dX8_named_0 ?_
  refine j_iload1 (pc := 1) h dX8_named_1 ?_
  refine j_callVr (pc := 2) h dX8_named_2 (k_X8_isFolder m hI) mv_X8_80 (f20) rfl rfl (by decide) (Nat.le_of_ble_eq_true rfl) (Nat.le_of_ble_eq_true rfl) (Nat.le_of_ble_eq_true rfl) ?_
  refine j_if_eqB (pc := 5) (tgt := 30) h dX8_named_5 (by decide) (fun c5 => ?_) (fun c5 => ?_)
  · refine j_iconst (pc := 30) h dX8_named_30 ic_m1 ?_
    refine j_iretr (pc := 31) h dX8_named_31 (rfl)
  · refine j_iload2 (pc := 8) h dX8_named_8 ?_
    refine j_iconst (pc := 9) h dX8_named_9 ic_0 ?_
    refine j_iconst (pc := 10) h dX8_named_10 ic_5 ?_
    refine j_callSr (pc := 11) h dX8_named_11 (k_X8_in) ms_X8_73 rfl rfl (by decide) (Nat.le_of_ble_eq_true rfl) (Nat.le_of_ble_eq_true rfl) (Nat.le_of_ble_eq_true rfl) ?_
    refine j_if_eqB (pc := 14) (tgt := 30) h dX8_named_14 (by decide) (fun c14 => ?_) (fun c14 => ?_)
    · refine j_iconst (pc := 30) h dX8_named_30 ic_m1 ?_
      refine j_iretr (pc := 31) h dX8_named_31 (rfl)
    · rcases hx with hx | hx | ⟨a, ha, rfl, hx⟩
      · exact absurd (hx.symm.trans c5) (by decide)
      · rw [rng_m (by decide)] at c14
        exact absurd (hx.symm.trans c14) (by decide)
      · refine j_aload0 (pc := 17) h dX8_named_17 ?_
        refine j_iload1 (pc := 18) h dX8_named_18 ?_
        refine j_iload2 (pc := 19) h dX8_named_19 ?_
        refine j_callVr (pc := 20) h dX8_named_20 (k_X8_isSeen m hI ha) mv_X8_140 (f20) rfl rfl (by decide) (Nat.le_of_ble_eq_true rfl) (Nat.le_of_ble_eq_true rfl) (Nat.le_of_ble_eq_true rfl) ?_
        refine j_if_eqB (pc := 23) (tgt := 30) h dX8_named_23 (by decide) (fun c23 => ?_) (fun c23 => absurd c23 (by rw [hx]; decide))
        refine j_iconst (pc := 30) h dX8_named_30 ic_m1 ?_
        refine j_iretr (pc := 31) h dX8_named_31 (rfl)
theorem scan_neg {p : Nat → Bool} {x : Int32} (h : x < 0) : ∀ {m i : Nat}, i + m < 2 ^ 31 → scan p x i m = -1
  | 0, _, _ => rfl
  | m + 1, i, hi => by
    rw [scan_nx, scan_neg h (by omega)]
    intro q
    rw [← q] at h
    exact nI_pos (by have := cnt_le p i; omega) h
theorem k_X8_named {a : Nat} {y z : Int32} (m : MW g ad σ τ C) (hI : Inv σ) (ha : a < σ.nf) (hy : inN y 6 = true) (hs : sees σ.pr σ.hd σ.fow y 29 a = true) : Cr l g yX8_named cX8_named 6 (some .int) 3 [.ref (ad 20), .int (nI a), .int y, .int z] ad C (.int (scan (namP σ a) z 0 σ.nn)) := by
  obtain ⟨f20, f21, f22, f23, f24, f25, f26, f27, f28, f29, f30, f31, f32, f33, f34, f35, f36, f37, f38⟩ := id m
  obtain ⟨hf1, hf2, hfl, hnn, hnm, hno, hc1, hc2⟩ := id hI.le
  refine Ct_of [some (.ref (ad 20)), some (.int (nI a)), some (.int y), some (.int z), none, none] (by decide) rfl rfl (Nat.le_of_ble_eq_true rfl) rfl rfl (fun X hX h => ?_)
  subst hX
  have lp : ¬ z < 0 → ∀ n k, k + n = σ.nn → scan (namP σ a) z k n = scan (namP σ a) z 0 σ.nn → ∀ w : Nat, z = nI (cnt (namP σ a) k + w) → cnt (namP σ a) k + w < 2 ^ 31 → J X g 6 (QR X g ad C (.int (scan (namP σ a) z 0 σ.nn))) 0 0 ad C 38 [some (.ref (ad 20)), some (.int (nI a)), some (.int y), some (.int z), some (.int (nI w)), some (.int (nI k))] [] := by
    intro hz n
    induction n with
    | zero =>
      intro k hk hsc w hw hwl
      refine j_iload5 (pc := 38) h dX8_named_38 ?_
      refine j_aload0 (pc := 40) h dX8_named_40 ?_
      refine j_getf (pc := 41) h dX8_named_41 (f20) fl_X8_88 rfl ?_
      refine j_icmp_ge (pc := 44) (tgt := 88) h dX8_named_44 (by decide) (fun c44 => ?_) (fun c44 => absurd (nI_le (by omega) (by omega)) c44)
      refine j_iconst (pc := 88) h dX8_named_88 ic_m1 ?_
      refine j_iretr (pc := 89) h dX8_named_89 (hsc)
    | succ n ih =>
      intro k hk hsc w hw hwl
      obtain ⟨hfk, hnk⟩ := hI.nam k (by omega)
      have hck := cnt_le (namP σ a) k
      have nx : namP σ a k = false → J X g 6 (QR X g ad C (.int (scan (namP σ a) z 0 σ.nn))) 0 0 ad C 82 [some (.ref (ad 20)), some (.int (nI a)), some (.int y), some (.int z), some (.int (nI w)), some (.int (nI k))] [] := by
        intro hf
        refine j_iinc5 (pc := 82) h dX8_named_82 rfl (inc_n _) ?_
        refine j_goto (pc := 85) (tgt := 38) h dX8_named_85 (by decide) ?_
        exact ih (k + 1) (by omega) (by rw [← hsc, scan_no hf]) w (by rw [cnt_f hf]; exact hw) (by rw [cnt_f hf]; exact hwl)
      refine j_iload5 (pc := 38) h dX8_named_38 ?_
      refine j_aload0 (pc := 40) h dX8_named_40 ?_
      refine j_getf (pc := 41) h dX8_named_41 (f20) fl_X8_88 rfl ?_
      refine j_icmp_ge (pc := 44) (tgt := 88) h dX8_named_44 (by decide) (fun c44 => absurd c44 (nI_ge (by omega) (by omega))) (fun c44 => ?_)
      refine j_aload0 (pc := 47) h dX8_named_47 ?_
      refine j_getf (pc := 48) h dX8_named_48 (f20) fl_X8_45 rfl ?_
      refine j_iload5 (pc := 51) h dX8_named_51 ?_
      refine j_zald (pc := 53) h dX8_named_53 (f31) (by omega) (by decide) ?_
      refine j_if_eq (pc := 54) (tgt := 82) h dX8_named_54 (by decide) (fun c54 => ?_) (fun c54 => ?_)
      · exact nx (by simp [namP, bI_0.mp c54])
      · refine j_aload0 (pc := 57) h dX8_named_57 ?_
        refine j_getf (pc := 58) h dX8_named_58 (f20) fl_X8_42 rfl ?_
        refine j_iload5 (pc := 61) h dX8_named_61 ?_
        refine j_iald (pc := 63) h dX8_named_63 (f30) (by omega) (by decide) ?_
        refine j_iload1 (pc := 64) h dX8_named_64 ?_
        refine j_icmp_eq (pc := 65) (tgt := 71) h dX8_named_65 (by decide) (fun c65 => ?_) (fun c65 => ?_)
        · have hp : namP σ a k = true := by have := nI_inj c65 (by omega) (by omega); simp [namP, bI_n0 c54, this]
          cases w with
          | zero =>
            refine j_iload4 (pc := 71) h dX8_named_71 ?_
            refine j_if_ne (pc := 73) (tgt := 79) h dX8_named_73 (by decide) (fun c73 => absurd (rfl) c73) (fun c73 => ?_)
            refine j_iload5 (pc := 76) h dX8_named_76 ?_
            refine j_iretr (pc := 78) h dX8_named_78 (by rw [← hsc, scan_hit hp (by rw [hw]; rfl)])
          | succ w =>
            refine j_iload4 (pc := 71) h dX8_named_71 ?_
            refine j_if_ne (pc := 73) (tgt := 79) h dX8_named_73 (by decide) (fun c73 => ?_) (fun c73 => absurd c73 (nI_ne0 (by omega) (by omega)))
            refine j_iinc4 (pc := 79) h dX8_named_79 rfl (dec_n w) ?_
            refine j_iinc5 (pc := 82) h dX8_named_82 rfl (inc_n _) ?_
            refine j_goto (pc := 85) (tgt := 38) h dX8_named_85 (by decide) ?_
            exact ih (k + 1) (by omega) (by rw [← hsc, scan_nx (by rw [hw]; intro q; exact absurd (nI_inj q (by omega) (by omega)) (by omega))]) w (by rw [cnt_t hp, hw]; congr 1; omega) (by rw [cnt_t hp]; omega)
        · refine j_goto (pc := 68) (tgt := 82) h dX8_named_68 (by decide) ?_
          exact nx (by have : ¬ σ.ni k = a := (fun q => c65 (by rw [q])); simp [namP, this])
  refine j_aload0 (pc := 0) h dX8_named_0 ?_
  refine j_iload1 (pc := 1) h dX8_named_1 ?_
  refine j_callVr (pc := 2) h dX8_named_2 (k_X8_isFolder m hI) mv_X8_80 (f20) rfl rfl (by decide) (Nat.le_of_ble_eq_true rfl) (Nat.le_of_ble_eq_true rfl) (Nat.le_of_ble_eq_true rfl) ?_
  refine j_if_eqB (pc := 5) (tgt := 30) h dX8_named_5 (by decide) (fun c5 => absurd c5 (by rw [inN_nI (by omega)]; simp; omega)) (fun c5 => ?_)
  refine j_iload2 (pc := 8) h dX8_named_8 ?_
  refine j_iconst (pc := 9) h dX8_named_9 ic_0 ?_
  refine j_iconst (pc := 10) h dX8_named_10 ic_5 ?_
  refine j_callSr (pc := 11) h dX8_named_11 (k_X8_in) ms_X8_73 rfl rfl (by decide) (Nat.le_of_ble_eq_true rfl) (Nat.le_of_ble_eq_true rfl) (Nat.le_of_ble_eq_true rfl) ?_
  refine j_if_eqB (pc := 14) (tgt := 30) h dX8_named_14 (by decide) (fun c14 => absurd c14 (by rw [rng_m (by decide), hy]; decide)) (fun c14 => ?_)
  refine j_aload0 (pc := 17) h dX8_named_17 ?_
  refine j_iload1 (pc := 18) h dX8_named_18 ?_
  refine j_iload2 (pc := 19) h dX8_named_19 ?_
  refine j_callVr (pc := 20) h dX8_named_20 (k_X8_isSeen m hI ha) mv_X8_140 (f20) rfl rfl (by decide) (Nat.le_of_ble_eq_true rfl) (Nat.le_of_ble_eq_true rfl) (Nat.le_of_ble_eq_true rfl) ?_
  refine j_if_eqB (pc := 23) (tgt := 30) h dX8_named_23 (by decide) (fun c23 => absurd c23 (by rw [hs]; decide)) (fun c23 => ?_)
  refine j_iload3 (pc := 26) h dX8_named_26 ?_
  refine j_if_ge (pc := 27) (tgt := 32) h dX8_named_27 (by decide) (fun c27 => ?_) (fun c27 => ?_)
  · have hz : ¬ z < 0 := by rw [Int32.lt_iff_toInt_lt]; rw [Int32.le_iff_toInt_le] at c27; omega
    obtain ⟨w, hw1, hw2⟩ := nI_of hz
    refine j_iload3 (pc := 32) h dX8_named_32 ?_
    refine j_istore4 (pc := 33) h dX8_named_33 rfl ?_
    refine j_iconst (pc := 35) h dX8_named_35 ic_0 ?_
    refine j_istore5 (pc := 36) h dX8_named_36 rfl ?_
    rw [show some (Value.int z) = some (Value.int z) from rfl]
    have q := lp hz σ.nn 0 (by omega) rfl w (by simpa [cnt] using hw2) (by simpa [cnt] using hw1)
    rw [← hw2] at q
    exact q
  · have hz : z < 0 := by rw [Int32.lt_iff_toInt_lt]; rw [Int32.le_iff_toInt_le] at c27; omega
    refine j_iconst (pc := 30) h dX8_named_30 ic_m1 ?_
    refine j_iretr (pc := 31) h dX8_named_31 ((scan_neg hz (by omega)).symm)
theorem k_X8_grew_no {x y z : Int32} (m : MW g ad σ τ C) (hI : Inv σ) (hx : inN x σ.nf = false ∨ inN y σ.nm = false ∨ (inN z σ.nm = false ∧ ¬ z = -1)) : Cr l g yX8_grew cX8_grew 4 (some .int) 4 [.ref (ad 20), .int x, .int y, .int z] ad C (.int (-2147483648)) := by
  obtain ⟨f20, f21, f22, f23, f24, f25, f26, f27, f28, f29, f30, f31, f32, f33, f34, f35, f36, f37, f38⟩ := id m
  obtain ⟨hf1, hf2, hfl, hnn, hnm, hno, hc1, hc2⟩ := id hI.le
  refine Ct_of [some (.ref (ad 20)), some (.int x), some (.int y), some (.int z)] (by decide) rfl rfl (Nat.le_of_ble_eq_true rfl) rfl rfl (fun X hX h => ?_)
  subst hX
  refine j_aload0 (pc := 0) h dX8_grew_0 ?_
  refine j_iload1 (pc := 1) h dX8_grew_1 ?_
  refine j_callVr (pc := 2) h dX8_grew_2 (k_X8_isFolder m hI) mv_X8_80 (f20) rfl rfl (by decide) (Nat.le_of_ble_eq_true rfl) (Nat.le_of_ble_eq_true rfl) (Nat.le_of_ble_eq_true rfl) ?_
  refine j_if_eqB (pc := 5) (tgt := 36) h dX8_grew_5 (by decide) (fun c5 => ?_) (fun c5 => ?_)
  · refine j_ldc (pc := 36) h dX8_grew_36 kc_X8_157 ?_
    refine j_iretr (pc := 38) h dX8_grew_38 (rfl)
  · refine j_iload2 (pc := 8) h dX8_grew_8 ?_
    refine j_iconst (pc := 9) h dX8_grew_9 ic_0 ?_
    refine j_aload0 (pc := 10) h dX8_grew_10 ?_
    refine j_getf (pc := 11) h dX8_grew_11 (f20) fl_X8_154 rfl ?_
    refine j_iconst (pc := 14) h dX8_grew_14 ic_1 ?_
    refine j_isub (pc := 15) h dX8_grew_15 ?_
    refine j_callSr (pc := 16) h dX8_grew_16 (k_X8_in) ms_X8_73 rfl rfl (by decide) (Nat.le_of_ble_eq_true rfl) (Nat.le_of_ble_eq_true rfl) (Nat.le_of_ble_eq_true rfl) ?_
    refine j_if_eqB (pc := 19) (tgt := 36) h dX8_grew_19 (by decide) (fun c19 => ?_) (fun c19 => ?_)
    · refine j_ldc (pc := 36) h dX8_grew_36 kc_X8_157 ?_
      refine j_iretr (pc := 38) h dX8_grew_38 (rfl)
    · rw [rng_n (by omega)] at c19
      rcases hx with hx | hx | hx
      · exact absurd (hx.symm.trans c5) (by decide)
      · exact absurd (hx.symm.trans c19) (by decide)
      · refine j_iload3 (pc := 22) h dX8_grew_22 ?_
        refine j_iconst (pc := 23) h dX8_grew_23 ic_m1 ?_
        refine j_aload0 (pc := 24) h dX8_grew_24 ?_
        refine j_getf (pc := 25) h dX8_grew_25 (f20) fl_X8_154 rfl ?_
        refine j_iconst (pc := 28) h dX8_grew_28 ic_1 ?_
        refine j_isub (pc := 29) h dX8_grew_29 ?_
        refine j_callSr (pc := 30) h dX8_grew_30 (k_X8_in) ms_X8_73 rfl rfl (by decide) (Nat.le_of_ble_eq_true rfl) (Nat.le_of_ble_eq_true rfl) (Nat.le_of_ble_eq_true rfl) ?_
        refine j_if_neB (pc := 33) (tgt := 39) h dX8_grew_33 (by decide) (fun c33 => absurd c33 (by rw [rng_m1 (by omega) hx.2, hx.1]; decide)) (fun c33 => ?_)
        refine j_ldc (pc := 36) h dX8_grew_36 kc_X8_157 ?_
        refine j_iretr (pc := 38) h dX8_grew_38 (rfl)
theorem k_X8_grew_now {a f : Nat} (m : MW g ad σ τ C) (hI : Inv σ) (ha : a < σ.nf) (hf : f < σ.nm) : Cr l g yX8_grew cX8_grew 4 (some .int) 4 [.ref (ad 20), .int (nI a), .int (nI f), .int (-1)] ad C (.int (nI (tkS σ a) - nI (σ.mt (30 * f + a)))) := by
  obtain ⟨f20, f21, f22, f23, f24, f25, f26, f27, f28, f29, f30, f31, f32, f33, f34, f35, f36, f37, f38⟩ := id m
  obtain ⟨hf1, hf2, hfl, hnn, hnm, hno, hc1, hc2⟩ := id hI.le
  refine Ct_of [some (.ref (ad 20)), some (.int (nI a)), some (.int (nI f)), some (.int (-1))] (by decide) rfl rfl (Nat.le_of_ble_eq_true rfl) rfl rfl (fun X hX h => ?_)
  subst hX
  refine j_aload0 (pc := 0) h dX8_grew_0 ?_
  refine j_iload1 (pc := 1) h dX8_grew_1 ?_
  refine j_callVr (pc := 2) h dX8_grew_2 (k_X8_isFolder m hI) mv_X8_80 (f20) rfl rfl (by decide) (Nat.le_of_ble_eq_true rfl) (Nat.le_of_ble_eq_true rfl) (Nat.le_of_ble_eq_true rfl) ?_
  refine j_if_eqB (pc := 5) (tgt := 36) h dX8_grew_5 (by decide) (fun c5 => absurd c5 (by rw [inN_nI (by omega)]; simp; omega)) (fun c5 => ?_)
  refine j_iload2 (pc := 8) h dX8_grew_8 ?_
  refine j_iconst (pc := 9) h dX8_grew_9 ic_0 ?_
  refine j_aload0 (pc := 10) h dX8_grew_10 ?_
  refine j_getf (pc := 11) h dX8_grew_11 (f20) fl_X8_154 rfl ?_
  refine j_iconst (pc := 14) h dX8_grew_14 ic_1 ?_
  refine j_isub (pc := 15) h dX8_grew_15 ?_
  refine j_callSr (pc := 16) h dX8_grew_16 (k_X8_in) ms_X8_73 rfl rfl (by decide) (Nat.le_of_ble_eq_true rfl) (Nat.le_of_ble_eq_true rfl) (Nat.le_of_ble_eq_true rfl) ?_
  refine j_if_eqB (pc := 19) (tgt := 36) h dX8_grew_19 (by decide) (fun c19 => absurd c19 (by rw [rng_n (by omega), inN_nI (by omega)]; simp; omega)) (fun c19 => ?_)
  refine j_iload3 (pc := 22) h dX8_grew_22 ?_
  refine j_iconst (pc := 23) h dX8_grew_23 ic_m1 ?_
  refine j_aload0 (pc := 24) h dX8_grew_24 ?_
  refine j_getf (pc := 25) h dX8_grew_25 (f20) fl_X8_154 rfl ?_
  refine j_iconst (pc := 28) h dX8_grew_28 ic_1 ?_
  refine j_isub (pc := 29) h dX8_grew_29 ?_
  refine j_callSr (pc := 30) h dX8_grew_30 (k_X8_in) ms_X8_73 rfl rfl (by decide) (Nat.le_of_ble_eq_true rfl) (Nat.le_of_ble_eq_true rfl) (Nat.le_of_ble_eq_true rfl) ?_
  refine j_if_neB (pc := 33) (tgt := 39) h dX8_grew_33 (by decide) (fun c33 => ?_) (fun c33 => absurd c33 (by rw [rng_mm (by omega)]; decide))
  refine j_iload3 (pc := 39) h dX8_grew_39 ?_
  refine j_iconst (pc := 40) h dX8_grew_40 ic_m1 ?_
  refine j_icmp_ne (pc := 41) (tgt := 52) h dX8_grew_41 (by decide) (fun c41 => absurd (rfl) c41) (fun c41 => ?_)
  refine j_aload0 (pc := 44) h dX8_grew_44 ?_
  refine j_iload1 (pc := 45) h dX8_grew_45 ?_
  refine j_callVr (pc := 46) h dX8_grew_46 (k_X8_taken m hI ha) mv_X8_143 (f20) rfl rfl (by decide) (Nat.le_of_ble_eq_true rfl) (Nat.le_of_ble_eq_true rfl) (Nat.le_of_ble_eq_true rfl) ?_
  refine j_goto (pc := 49) (tgt := 63) h dX8_grew_49 (by decide) ?_
  refine j_aload0 (pc := 63) h dX8_grew_63 ?_
  refine j_getf (pc := 64) h dX8_grew_64 (f20) fl_X8_58 rfl ?_
  refine j_bipush (pc := 67) h dX8_grew_67 bp_30 ?_
  refine j_iload2 (pc := 69) h dX8_grew_69 ?_
  refine j_imulN (pc := 70) h dX8_grew_70 ?_
  refine j_iload1 (pc := 71) h dX8_grew_71 ?_
  refine j_iaddN (pc := 72) h dX8_grew_72 ?_
  refine j_iald (pc := 73) h dX8_grew_73 (f35) (by omega) (by decide) ?_
  refine j_isub (pc := 74) h dX8_grew_74 ?_
  refine j_iretr (pc := 75) h dX8_grew_75 (rfl)
theorem k_X8_grew {a f t : Nat} (m : MW g ad σ τ C) (hI : Inv σ) (ha : a < σ.nf) (hf : f < σ.nm) (ht : t < σ.nm) : Cr l g yX8_grew cX8_grew 4 (some .int) 4 [.ref (ad 20), .int (nI a), .int (nI f), .int (nI t)] ad C (.int (nI (σ.mt (30 * t + a)) - nI (σ.mt (30 * f + a)))) := by
  obtain ⟨f20, f21, f22, f23, f24, f25, f26, f27, f28, f29, f30, f31, f32, f33, f34, f35, f36, f37, f38⟩ := id m
  obtain ⟨hf1, hf2, hfl, hnn, hnm, hno, hc1, hc2⟩ := id hI.le
  refine Ct_of [some (.ref (ad 20)), some (.int (nI a)), some (.int (nI f)), some (.int (nI t))] (by decide) rfl rfl (Nat.le_of_ble_eq_true rfl) rfl rfl (fun X hX h => ?_)
  subst hX
  refine j_aload0 (pc := 0) h dX8_grew_0 ?_
  refine j_iload1 (pc := 1) h dX8_grew_1 ?_
  refine j_callVr (pc := 2) h dX8_grew_2 (k_X8_isFolder m hI) mv_X8_80 (f20) rfl rfl (by decide) (Nat.le_of_ble_eq_true rfl) (Nat.le_of_ble_eq_true rfl) (Nat.le_of_ble_eq_true rfl) ?_
  refine j_if_eqB (pc := 5) (tgt := 36) h dX8_grew_5 (by decide) (fun c5 => absurd c5 (by rw [inN_nI (by omega)]; simp; omega)) (fun c5 => ?_)
  refine j_iload2 (pc := 8) h dX8_grew_8 ?_
  refine j_iconst (pc := 9) h dX8_grew_9 ic_0 ?_
  refine j_aload0 (pc := 10) h dX8_grew_10 ?_
  refine j_getf (pc := 11) h dX8_grew_11 (f20) fl_X8_154 rfl ?_
  refine j_iconst (pc := 14) h dX8_grew_14 ic_1 ?_
  refine j_isub (pc := 15) h dX8_grew_15 ?_
  refine j_callSr (pc := 16) h dX8_grew_16 (k_X8_in) ms_X8_73 rfl rfl (by decide) (Nat.le_of_ble_eq_true rfl) (Nat.le_of_ble_eq_true rfl) (Nat.le_of_ble_eq_true rfl) ?_
  refine j_if_eqB (pc := 19) (tgt := 36) h dX8_grew_19 (by decide) (fun c19 => absurd c19 (by rw [rng_n (by omega), inN_nI (by omega)]; simp; omega)) (fun c19 => ?_)
  refine j_iload3 (pc := 22) h dX8_grew_22 ?_
  refine j_iconst (pc := 23) h dX8_grew_23 ic_m1 ?_
  refine j_aload0 (pc := 24) h dX8_grew_24 ?_
  refine j_getf (pc := 25) h dX8_grew_25 (f20) fl_X8_154 rfl ?_
  refine j_iconst (pc := 28) h dX8_grew_28 ic_1 ?_
  refine j_isub (pc := 29) h dX8_grew_29 ?_
  refine j_callSr (pc := 30) h dX8_grew_30 (k_X8_in) ms_X8_73 rfl rfl (by decide) (Nat.le_of_ble_eq_true rfl) (Nat.le_of_ble_eq_true rfl) (Nat.le_of_ble_eq_true rfl) ?_
  refine j_if_neB (pc := 33) (tgt := 39) h dX8_grew_33 (by decide) (fun c33 => ?_) (fun c33 => absurd c33 (by rw [rng_m1 (by omega) (nI_m1 (by omega)), inN_nI (by omega)]; simp; omega))
  refine j_iload3 (pc := 39) h dX8_grew_39 ?_
  refine j_iconst (pc := 40) h dX8_grew_40 ic_m1 ?_
  refine j_icmp_ne (pc := 41) (tgt := 52) h dX8_grew_41 (by decide) (fun c41 => ?_) (fun c41 => absurd c41 (nI_m1 (by omega)))
  refine j_aload0 (pc := 52) h dX8_grew_52 ?_
  refine j_getf (pc := 53) h dX8_grew_53 (f20) fl_X8_58 rfl ?_
  refine j_bipush (pc := 56) h dX8_grew_56 bp_30 ?_
  refine j_iload3 (pc := 58) h dX8_grew_58 ?_
  refine j_imulN (pc := 59) h dX8_grew_59 ?_
  refine j_iload1 (pc := 60) h dX8_grew_60 ?_
  refine j_iaddN (pc := 61) h dX8_grew_61 ?_
  refine j_iald (pc := 62) h dX8_grew_62 (f35) (by omega) (by decide) ?_
  refine j_aload0 (pc := 63) h dX8_grew_63 ?_
  refine j_getf (pc := 64) h dX8_grew_64 (f20) fl_X8_58 rfl ?_
  refine j_bipush (pc := 67) h dX8_grew_67 bp_30 ?_
  refine j_iload2 (pc := 69) h dX8_grew_69 ?_
  refine j_imulN (pc := 70) h dX8_grew_70 ?_
  refine j_iload1 (pc := 71) h dX8_grew_71 ?_
  refine j_iaddN (pc := 72) h dX8_grew_72 ?_
  refine j_iald (pc := 73) h dX8_grew_73 (f35) (by omega) (by decide) ?_
  refine j_isub (pc := 74) h dX8_grew_74 ?_
  refine j_iretr (pc := 75) h dX8_grew_75 (rfl)
end MY

