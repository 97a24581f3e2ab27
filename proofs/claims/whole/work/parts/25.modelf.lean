/-! The reference: full -/
def dwn (a b : Int32) : Int32 := if a < 0 then -((-a + b - nI 1) / b) else a / b
theorem ndiv {n b : Nat} (hn : n < 2 ^ 30) (h0 : 0 < b) (hb : b < 2 ^ 30) : (-nI n) / nI b = -nI (n / b) := by
  apply Int32.toInt_inj.mp
  have hd : n / b ≤ n := Nat.div_le_self n b
  have e : ((n : Int) / (b : Int)) = ((n / b : Nat) : Int) := (Int.natCast_ediv _ _).symm
  rw [Int32.toInt_div, sb_negT (by omega), nI_toInt (by omega), Int.neg_tdiv, Int.tdiv_eq_ediv_of_nonneg (by omega), e]
  generalize n / b = c at hd
  rw [sb_negT (by omega), Int.bmod_eq_of_le (by omega) (by omega)]
theorem neg_lt0 (x : Int32) : x < 0 ↔ x.toBitVec.msb = true := by
  rw [Int32.lt_iff_toInt_lt]
  show x.toBitVec.toInt < (0 : Int32).toInt ↔ _
  rw [show (0 : Int32).toInt = 0 from by decide, BitVec.msb_eq_toInt]
  simp
theorem xor_lt0 (a b : Int32) : (a ^^^ b) < 0 ↔ ¬ (a < 0 ↔ b < 0) := by
  rw [neg_lt0, neg_lt0, neg_lt0, Int32.toBitVec_xor, BitVec.msb_xor]
  cases a.toBitVec.msb <;> cases b.toBitVec.msb <;> simp
theorem neg_of {a : Int32} (h : a < 0) (h2 : -1073741824 < a.toInt) : ∃ n, 0 < n ∧ n < 2 ^ 30 ∧ a = -nI n := by
  rw [Int32.lt_iff_toInt_lt, show (0 : Int32).toInt = 0 from by decide] at h
  refine ⟨(-a.toInt).toNat, by omega, by omega, ?_⟩
  apply Int32.toInt_inj.mp
  rw [sb_negT (by omega)]
  omega
theorem fb_subI' {x y : Int32} (h1 : -2147483648 ≤ x.toInt - y.toInt) (h2 : x.toInt - y.toInt < 2147483648) : (x - y).toInt = x.toInt - y.toInt := by
  rw [Int32.toInt_sub]
  exact Int.bmod_eq_of_le (by omega) (by omega)
theorem dwn_eq {a : Int32} {b : Nat} (ha : -1073741824 < a.toInt) (h0 : 0 < b) (hb : b < 2 ^ 29) : dwn a (nI b) = fdv a (nI b) := by
  have hbp : ¬ nI b < 0 := nI_pos (by omega)
  unfold dwn fdv
  by_cases h : a < 0
  · obtain ⟨n, hn0, hn, rfl⟩ := neg_of h ha
    have hx : (-nI n ^^^ nI b) < 0 := (xor_lt0 _ _).mpr (fun q => hbp (q.mp h))
    rw [if_pos h, ndiv hn h0 (by omega)]
    have hd : n / b ≤ n := Nat.div_le_self n b
    have e1 : - -nI n + nI b - nI 1 = nI (n + b - 1) := by
      rw [Int32.neg_neg, nI_add, pk_sub (by omega)]
    rw [e1, pk_div (by omega) h0 (by omega)]
    have hmod := Nat.div_add_mod n b
    have hlt := Nat.mod_lt n h0
    have e4 : (n + b - 1) / b = if n % b = 0 then n / b else n / b + 1 := by
      generalize n / b = c at hmod
      generalize n % b = r at hmod hlt
      subst hmod
      split
      · rw [show b * c + r + b - 1 = b * c + (b - 1) by omega, Nat.mul_add_div h0, Nat.div_eq_of_lt (a := b - 1) (by omega)]; rfl
      · rw [show b * c + r + b - 1 = b * (c + 1) + (r - 1) by rw [Nat.mul_add]; omega, Nat.mul_add_div h0, Nat.div_eq_of_lt (a := r - 1) (by omega)]
    rw [e4]
    clear e4
    have hb1 : b * (n / b) ≤ n := Nat.mul_div_le n b
    generalize n / b = c at hmod hd hb1
    generalize n % b = r at hmod hlt
    have e2 : (-nI c * nI b = -nI n) ↔ r = 0 := by
      rw [Int32.neg_mul, pk_mul, Nat.mul_comm]
      constructor
      · intro q
        have q2 := congrArg Int32.toInt q
        rw [sb_negT (by omega), sb_negT (by omega)] at q2
        omega
      · intro q; rw [show b * c = n by omega]
    by_cases hq : r = 0
    · rw [if_pos hq, if_neg (fun z => z.2 (e2.mpr hq))]
    · rw [if_neg hq, if_pos ⟨hx, fun z => hq (e2.mp z)⟩]
      apply Int32.toInt_inj.mp
      have h11 : (nI 1).toInt = 1 := by decide
      rw [fb_subI' (x := -nI c) (y := nI 1) (by rw [sb_negT (by omega), h11]; omega) (by rw [sb_negT (by omega), h11]; omega), sb_negT (by omega), sb_negT (by omega), h11]
      omega
  · have hx : ¬ (a ^^^ nI b) < 0 := fun z => (xor_lt0 _ _).mp z ⟨fun q => absurd q h, fun q => absurd q hbp⟩
    rw [if_neg h, if_neg (fun z => hx z.1)]
/-- the reference's greatest -/
def mG (md : Nat → Nat) (tk : Nat → Int32) : Nat → Int32
  | 0 => nI 0
  | k + 1 => if md k < md (k + 1) then (let z := -fdv (-(tk ((k + 1) * 30) - tk (k * 30))) (nI (md (k + 1)) - nI (md k)); if anyD md k = false ∨ mG md tk k < z then z else mG md tk k) else mG md tk k
theorem grG_mG (md : Nat → Nat) (tk : Nat → Int32) : ∀ k, grG md tk k = if anyD md k = true ∧ nI 0 < mG md tk k then mG md tk k else nI 0
  | 0 => by simp [grG, anyD]
  | k + 1 => by
    have ih := grG_mG md tk k
    rw [grG, mG]
    by_cases hd : md k < md (k + 1)
    · have ha : anyD md (k + 1) = true := by simp [anyD, hd]
      rw [if_pos hd, if_pos hd, ha]
      generalize -fdv (-(tk ((k + 1) * 30) - tk (k * 30))) (nI (md (k + 1)) - nI (md k)) = z
      simp only
      rw [ih]
      cases e : anyD md k with
      | false => simp
      | true =>
        simp only [true_and]
        have h0 : (nI 0).toInt = 0 := by decide
        by_cases h1 : nI 0 < mG md tk k <;> by_cases h2 : mG md tk k < z <;> by_cases h3 : nI 0 < z <;> simp only [h1, h2, h3, if_true, if_false, or_true, or_false, false_or, true_or, Bool.true_eq_false] <;> simp only [Int32.lt_iff_toInt_lt] at h1 h2 h3 <;> first | rfl | (exfalso; omega)
    · have ha : anyD md (k + 1) = anyD md k := by simp [anyD, hd]
      rw [if_neg hd, if_neg hd, ha, ih]
def fulS (σ : Sg) (r : Int32) : Int32 := if r ≤ 0 then -1 else nI σ.now + (nI σ.cap - nI (tkS σ 0) + r - nI 1) / r
def tkF (σ : Sg) : Nat → Int32 := fun q => nI (σ.mt q)
theorem anyD_no {md : Nat → Nat} {tk : Nat → Int32} : ∀ {k}, anyD md k = false → grL md tk k = nI 0
  | 0, _ => rfl
  | k + 1, h => by
    simp [anyD] at h
    rw [grL, if_neg (by omega)]
    exact anyD_no h.1
section MF
variable {l : Launch} {g : GG} {ad : AD} {C : CC} {σ : Sg} {τ : Tm}
theorem k_X8_down {a b : Int32} (hb : ¬ b = 0) : Cr l g yX8_down cX8_down 2 (some .int) 1 [.int a, .int b] ad C (.int (dwn a b)) := by
  refine Ct_of [some (.int a), some (.int b)] (by decide) rfl rfl (Nat.le_of_ble_eq_true rfl) rfl rfl (fun X hX h => ?_)
  subst hX
  refine j_iload0 (pc := 0) h dX8_down_0 ?_
  refine j_if_lt (pc := 1) (tgt := 10) h dX8_down_1 (by decide) (fun c1 => ?_) (fun c1 => ?_)
  · refine j_iload0 (pc := 10) h dX8_down_10 ?_
    refine j_ineg (pc := 11) h dX8_down_11 ?_
    refine j_iload1 (pc := 12) h dX8_down_12 ?_
    refine j_iadd (pc := 13) h dX8_down_13 ?_
    refine j_iconst (pc := 14) h dX8_down_14 ic_1 ?_
    refine j_isub (pc := 15) h dX8_down_15 ?_
    refine j_iload1 (pc := 16) h dX8_down_16 ?_
    refine j_idiv (pc := 17) h dX8_down_17 (hb) ?_
    refine j_ineg (pc := 18) h dX8_down_18 ?_
    refine j_iretr (pc := 19) h dX8_down_19 (by rw [dwn, if_pos c1])
  · refine j_iload0 (pc := 4) h dX8_down_4 ?_
    refine j_iload1 (pc := 5) h dX8_down_5 ?_
    refine j_idiv (pc := 6) h dX8_down_6 (hb) ?_
    refine j_goto (pc := 7) (tgt := 19) h dX8_down_7 (by decide) ?_
    refine j_iretr (pc := 19) h dX8_down_19 (by rw [dwn, if_neg c1])
theorem k_X8_down' {a : Int32} {x y : Nat} (ha : -1073741824 < a.toInt) (h : x < y) (hy : y ≤ 5000) : Cr l g yX8_down cX8_down 2 (some .int) 1 [.int a, .int (nI y - nI x)] ad C (.int (fdv a (nI y - nI x))) := by
  rw [pk_sub (by omega), ← dwn_eq ha (by omega) (by omega)]
  exact k_X8_down (nI_ne0 (by omega) (by omega))
theorem more_lo {a b : Nat} (ha : a ≤ 64) (hb : b ≤ 64) : -1073741824 < (nI a - nI b).toInt ∧ -1073741824 < (-(nI a - nI b)).toInt := by
  have e := pk_sub_toInt (a := a) (b := b) (by omega) (by omega)
  refine ⟨by omega, ?_⟩
  rw [Int32.toInt_neg, e, Int.bmod_eq_of_le (by omega) (by omega)]
  omega
theorem k_X8_full_no {x : Int32} (m : MW g ad σ τ C) (hx : inN x 2 = false) : Cr l g yX8_full cX8_full 8 (some .int) 4 [.ref (ad 20), .int x] ad C (.int (-1)) := by
  refine Ct_of [some (.ref (ad 20)), some (.int x), none, none, none, none, none, none] (by decide) rfl rfl (Nat.le_of_ble_eq_true rfl) rfl rfl (fun X hX h => ?_)
  subst hX
  refine j_iload1 (pc := 0) h dX8_full_0 ?_
  refine j_iconst (pc := 1) h dX8_full_1 ic_0 ?_
  refine j_iconst (pc := 2) h dX8_full_2 ic_1 ?_
  refine j_callSr (pc := 3) h dX8_full_3 (k_X8_in) ms_X8_73 rfl rfl (by decide) (Nat.le_of_ble_eq_true rfl) (Nat.le_of_ble_eq_true rfl) (Nat.le_of_ble_eq_true rfl) ?_
  refine j_if_neB (pc := 6) (tgt := 11) h dX8_full_6 (by decide) (fun c6 => absurd c6 (by rw [rng_m (by decide), hx]; decide)) (fun c6 => ?_)
  refine j_iconst (pc := 9) h dX8_full_9 ic_m1 ?_
  refine j_iretr (pc := 10) h dX8_full_10 (rfl)
theorem k_X8_full0 (m : MW g ad σ τ C) (hI : Inv σ) (hM : InvM σ) : Cr l g yX8_full cX8_full 8 (some .int) 4 [.ref (ad 20), .int (nI 0)] ad C (.int (fulS σ (grG σ.md (tkF σ) (σ.nm - 1)))) := by
  obtain ⟨f20, f21, f22, f23, f24, f25, f26, f27, f28, f29, f30, f31, f32, f33, f34, f35, f36, f37, f38⟩ := id m
  obtain ⟨hf1, hf2, hfl, hnn, hnm, hno, hc1, hc2⟩ := id hI.le
  obtain ⟨hm1, hm2, hm3, hm4⟩ := hM
  refine Ct_of [some (.ref (ad 20)), some (.int (nI 0)), none, none, none, none, none, none] (by decide) rfl rfl (Nat.le_of_ble_eq_true rfl) rfl rfl (fun X hX h => ?_)
  subst hX
  have lp : ∀ n k u1 u2 u3, k + 1 + n = σ.nm ∨ (n = 0 ∧ σ.nm = 0 ∧ k = 0) → J X g 8 (QR X g ad C (.int (fulS σ (grG σ.md (tkF σ) (σ.nm - 1))))) 0 0 ad C 18 [some (.ref (ad 20)), some (.int (nI 0)), some (.int (bI (anyD σ.md k))), some (.int (mG σ.md (tkF σ) k)), some (.int (nI k)), u1, u2, u3] [] := by
    intro n
    induction n with
    | zero =>
      intro k u1 u2 u3 hk
      have hk' : σ.nm - 1 = k := by omega
      have hg := grG_mG σ.md (tkF σ) k
      refine j_iload4 (pc := 18) h dX8_full_18 ?_
      refine j_iconst (pc := 20) h dX8_full_20 ic_1 ?_
      refine j_iaddN (pc := 21) h dX8_full_21 ?_
      refine j_aload0 (pc := 22) h dX8_full_22 ?_
      refine j_getf (pc := 23) h dX8_full_23 (f20) fl_X8_154 rfl ?_
      refine j_icmp_ge (pc := 26) (tgt := 140) h dX8_full_26 (by decide) (fun c26 => ?_) (fun c26 => absurd (nI_le (by omega) (by omega)) c26)
      refine j_iload2 (pc := 140) h dX8_full_140 ?_
      refine j_if_eqB (pc := 141) (tgt := 148) h dX8_full_141 (by decide) (fun c141 => ?_) (fun c141 => ?_)
      · have eg : grG σ.md (tkF σ) k = nI 0 := by rw [hg, if_neg (by rw [c141]; simp)]
        refine j_iconst (pc := 148) h dX8_full_148 ic_m1 ?_
        refine j_iretr (pc := 149) h dX8_full_149 (by rw [hk', fulS, eg]; rfl)
      · refine j_iload3 (pc := 144) h dX8_full_144 ?_
        refine j_if_gt (pc := 145) (tgt := 150) h dX8_full_145 (by decide) (fun c145 => ?_) (fun c145 => ?_)
        · have hp : nI 0 < mG σ.md (tkF σ) k := c145
          have e : grG σ.md (tkF σ) k = mG σ.md (tkF σ) k := by rw [hg, if_pos ⟨c141, hp⟩]
          have hne : ¬ mG σ.md (tkF σ) k = 0 := by intro q; rw [q] at hp; exact absurd hp (by decide)
          have hnl : ¬ mG σ.md (tkF σ) k ≤ 0 := by intro q; rw [Int32.le_iff_toInt_le] at q; rw [Int32.lt_iff_toInt_lt] at hp; have : (nI 0).toInt = (0 : Int32).toInt := (by decide); omega
          refine j_aload0 (pc := 150) h dX8_full_150 ?_
          refine j_getf (pc := 151) h dX8_full_151 (f20) fl_X8_77 rfl ?_
          refine j_aload0 (pc := 154) h dX8_full_154 ?_
          refine j_getf (pc := 155) h dX8_full_155 (f20) fl_X8_61 rfl ?_
          refine j_aload0 (pc := 158) h dX8_full_158 ?_
          refine j_iconst (pc := 159) h dX8_full_159 ic_0 ?_
          refine j_callVr (pc := 160) h dX8_full_160 (k_X8_taken m hI (by omega)) mv_X8_143 (f20) rfl rfl (by decide) (Nat.le_of_ble_eq_true rfl) (Nat.le_of_ble_eq_true rfl) (Nat.le_of_ble_eq_true rfl) ?_
          refine j_isub (pc := 163) h dX8_full_163 ?_
          refine j_iload3 (pc := 164) h dX8_full_164 ?_
          refine j_iadd (pc := 165) h dX8_full_165 ?_
          refine j_iconst (pc := 166) h dX8_full_166 ic_1 ?_
          refine j_isub (pc := 167) h dX8_full_167 ?_
          refine j_iload3 (pc := 168) h dX8_full_168 ?_
          refine j_idiv (pc := 169) h dX8_full_169 (hne) ?_
          refine j_iadd (pc := 170) h dX8_full_170 ?_
          refine j_iretr (pc := 171) h dX8_full_171 (by rw [hk', fulS, e, if_neg hnl])
        · have eg : grG σ.md (tkF σ) k = nI 0 := by rw [hg, if_neg (fun q => c145 q.2)]
          refine j_iconst (pc := 148) h dX8_full_148 ic_m1 ?_
          refine j_iretr (pc := 149) h dX8_full_149 (by rw [hk', fulS, eg]; rfl)
    | succ n ih =>
      intro k u1 u2 u3 hk
      have h1 := hm1 k (by omega)
      have h2 := hm1 (k + 1) (by omega)
      have h3 := hm2 k (by omega)
      obtain ⟨b1, b2⟩ := more_lo (hm4 (30 * (k + 1))) (hm4 (30 * k))
      by_cases hd : σ.md k < σ.md (k + 1)
      · have ha : anyD σ.md (k + 1) = true := by simp [anyD, hd]
        have es : mG σ.md (tkF σ) (k + 1) = if anyD σ.md k = false ∨ mG σ.md (tkF σ) k < -fdv (-(nI (σ.mt (30 * (k + 1))) - nI (σ.mt (30 * k)))) (nI (σ.md (k + 1)) - nI (σ.md k)) then -fdv (-(nI (σ.mt (30 * (k + 1))) - nI (σ.mt (30 * k)))) (nI (σ.md (k + 1)) - nI (σ.md k)) else mG σ.md (tkF σ) k := by
          rw [mG, if_pos hd, Nat.mul_comm (k + 1) 30, Nat.mul_comm k 30]; rfl
        have ih' := ih (k + 1)
        rw [ha, es] at ih'
        refine j_iload4 (pc := 18) h dX8_full_18 ?_
        refine j_iconst (pc := 20) h dX8_full_20 ic_1 ?_
        refine j_iaddN (pc := 21) h dX8_full_21 ?_
        refine j_aload0 (pc := 22) h dX8_full_22 ?_
        refine j_getf (pc := 23) h dX8_full_23 (f20) fl_X8_154 rfl ?_
        refine j_icmp_ge (pc := 26) (tgt := 140) h dX8_full_26 (by decide) (fun c26 => absurd c26 (nI_ge (by omega) (by omega))) (fun c26 => ?_)
        refine j_aload0 (pc := 29) h dX8_full_29 ?_
        refine j_getf (pc := 30) h dX8_full_30 (f20) fl_X8_55 rfl ?_
        refine j_iload4 (pc := 33) h dX8_full_33 ?_
        refine j_iconst (pc := 35) h dX8_full_35 ic_1 ?_
        refine j_iaddN (pc := 36) h dX8_full_36 ?_
        refine j_iald (pc := 37) h dX8_full_37 (f34) (by omega) (by decide) ?_
        refine j_aload0 (pc := 38) h dX8_full_38 ?_
        refine j_getf (pc := 39) h dX8_full_39 (f20) fl_X8_55 rfl ?_
        refine j_iload4 (pc := 42) h dX8_full_42 ?_
        refine j_iald (pc := 44) h dX8_full_44 (f34) (by omega) (by decide) ?_
        refine j_isub (pc := 45) h dX8_full_45 ?_
        refine j_istore5 (pc := 46) h dX8_full_46 rfl ?_
        refine j_iload5 (pc := 48) h dX8_full_48 ?_
        refine j_if_ne (pc := 50) (tgt := 56) h dX8_full_50 (by decide) (fun c50 => ?_) (fun c50 => absurd c50 (days_ne (by omega) (by omega) hd))
        refine j_aload0 (pc := 56) h dX8_full_56 ?_
        refine j_getf (pc := 57) h dX8_full_57 (f20) fl_X8_58 rfl ?_
        refine j_bipush (pc := 60) h dX8_full_60 bp_30 ?_
        refine j_iload4 (pc := 62) h dX8_full_62 ?_
        refine j_iconst (pc := 64) h dX8_full_64 ic_1 ?_
        refine j_iaddN (pc := 65) h dX8_full_65 ?_
        refine j_imulN (pc := 66) h dX8_full_66 ?_
        refine j_iald (pc := 67) h dX8_full_67 (f35) (by omega) (by decide) ?_
        refine j_aload0 (pc := 68) h dX8_full_68 ?_
        refine j_getf (pc := 69) h dX8_full_69 (f20) fl_X8_58 rfl ?_
        refine j_bipush (pc := 72) h dX8_full_72 bp_30 ?_
        refine j_iload4 (pc := 74) h dX8_full_74 ?_
        refine j_imulN (pc := 76) h dX8_full_76 ?_
        refine j_iald (pc := 77) h dX8_full_77 (f35) (by omega) (by decide) ?_
        refine j_isub (pc := 78) h dX8_full_78 ?_
        refine j_istore6 (pc := 79) h dX8_full_79 rfl ?_
        refine j_iload1 (pc := 81) h dX8_full_81 ?_
        refine j_if_ne (pc := 82) (tgt := 97) h dX8_full_82 (by decide) (fun c82 => absurd (rfl) c82) (fun c82 => ?_)
        refine j_iload6 (pc := 85) h dX8_full_85 ?_
        refine j_ineg (pc := 87) h dX8_full_87 ?_
        refine j_iload5 (pc := 88) h dX8_full_88 ?_
        refine j_callSr (pc := 90) h dX8_full_90 (k_X8_down' b2 hd (by omega)) ms_X8_174 rfl rfl (by decide) (Nat.le_of_ble_eq_true rfl) (Nat.le_of_ble_eq_true rfl) (Nat.le_of_ble_eq_true rfl) ?_
        refine j_ineg (pc := 93) h dX8_full_93 ?_
        refine j_goto (pc := 94) (tgt := 104) h dX8_full_94 (by decide) ?_
        refine j_istore7 (pc := 104) h dX8_full_104 rfl ?_
        refine j_iload2 (pc := 106) h dX8_full_106 ?_
        refine j_if_eqB (pc := 107) (tgt := 129) h dX8_full_107 (by decide) (fun c107 => ?_) (fun c107 => ?_)
        · rw [if_pos (Or.inl c107)] at ih'
          refine j_iload7 (pc := 129) h dX8_full_129 ?_
          refine j_istore3 (pc := 131) h dX8_full_131 rfl ?_
          refine j_iconst (pc := 132) h dX8_full_132 ic_1 ?_
          refine j_istore2 (pc := 133) h dX8_full_133 rfl ?_
          refine j_iinc4 (pc := 134) h dX8_full_134 rfl (inc_n _) ?_
          refine j_goto (pc := 137) (tgt := 18) h dX8_full_137 (by decide) ?_
          exact ih' _ _ _ (by omega)
        · refine j_iload1 (pc := 110) h dX8_full_110 ?_
          refine j_if_ne (pc := 111) (tgt := 123) h dX8_full_111 (by decide) (fun c111 => absurd (rfl) c111) (fun c111 => ?_)
          refine j_iload7 (pc := 114) h dX8_full_114 ?_
          refine j_iload3 (pc := 116) h dX8_full_116 ?_
          refine j_icmp_le (pc := 117) (tgt := 132) h dX8_full_117 (by decide) (fun c117 => ?_) (fun c117 => ?_)
          · have hq : ¬ (anyD σ.md k = false ∨ mG σ.md (tkF σ) k < -fdv (-(nI (σ.mt (30 * (k + 1))) - nI (σ.mt (30 * k)))) (nI (σ.md (k + 1)) - nI (σ.md k))) := by
              rintro (q | q)
              · rw [c107] at q; cases q
              · rw [Int32.lt_iff_toInt_lt] at q; rw [Int32.le_iff_toInt_le] at c117; omega
            rw [if_neg hq] at ih'
            refine j_iconst (pc := 132) h dX8_full_132 ic_1 ?_
            refine j_istore2 (pc := 133) h dX8_full_133 rfl ?_
            refine j_iinc4 (pc := 134) h dX8_full_134 rfl (inc_n _) ?_
            refine j_goto (pc := 137) (tgt := 18) h dX8_full_137 (by decide) ?_
            exact ih' _ _ _ (by omega)
          · have hq : mG σ.md (tkF σ) k < -fdv (-(nI (σ.mt (30 * (k + 1))) - nI (σ.mt (30 * k)))) (nI (σ.md (k + 1)) - nI (σ.md k)) := by
              rw [Int32.lt_iff_toInt_lt]; rw [Int32.le_iff_toInt_le] at c117; omega
            rw [if_pos (Or.inr hq)] at ih'
            refine j_goto (pc := 120) (tgt := 129) h dX8_full_120 (by decide) ?_
            refine j_iload7 (pc := 129) h dX8_full_129 ?_
            refine j_istore3 (pc := 131) h dX8_full_131 rfl ?_
            refine j_iconst (pc := 132) h dX8_full_132 ic_1 ?_
            refine j_istore2 (pc := 133) h dX8_full_133 rfl ?_
            refine j_iinc4 (pc := 134) h dX8_full_134 rfl (inc_n _) ?_
            refine j_goto (pc := 137) (tgt := 18) h dX8_full_137 (by decide) ?_
            exact ih' _ _ _ (by omega)
      · have he : σ.md (k + 1) = σ.md k := by omega
        have ha : anyD σ.md (k + 1) = anyD σ.md k := by simp [anyD, hd]
        have ih' := ih (k + 1)
        rw [ha, show mG σ.md (tkF σ) (k + 1) = mG σ.md (tkF σ) k from by rw [mG, if_neg hd]] at ih'
        refine j_iload4 (pc := 18) h dX8_full_18 ?_
        refine j_iconst (pc := 20) h dX8_full_20 ic_1 ?_
        refine j_iaddN (pc := 21) h dX8_full_21 ?_
        refine j_aload0 (pc := 22) h dX8_full_22 ?_
        refine j_getf (pc := 23) h dX8_full_23 (f20) fl_X8_154 rfl ?_
        refine j_icmp_ge (pc := 26) (tgt := 140) h dX8_full_26 (by decide) (fun c26 => absurd c26 (nI_ge (by omega) (by omega))) (fun c26 => ?_)
        refine j_aload0 (pc := 29) h dX8_full_29 ?_
        refine j_getf (pc := 30) h dX8_full_30 (f20) fl_X8_55 rfl ?_
        refine j_iload4 (pc := 33) h dX8_full_33 ?_
        refine j_iconst (pc := 35) h dX8_full_35 ic_1 ?_
        refine j_iaddN (pc := 36) h dX8_full_36 ?_
        refine j_iald (pc := 37) h dX8_full_37 (f34) (by omega) (by decide) ?_
        refine j_aload0 (pc := 38) h dX8_full_38 ?_
        refine j_getf (pc := 39) h dX8_full_39 (f20) fl_X8_55 rfl ?_
        refine j_iload4 (pc := 42) h dX8_full_42 ?_
        refine j_iald (pc := 44) h dX8_full_44 (f34) (by omega) (by decide) ?_
        refine j_isub (pc := 45) h dX8_full_45 ?_
        refine j_istore5 (pc := 46) h dX8_full_46 rfl ?_
        refine j_iload5 (pc := 48) h dX8_full_48 ?_
        refine j_if_ne (pc := 50) (tgt := 56) h dX8_full_50 (by decide) (fun c50 => absurd (by rw [he]; simp) c50) (fun c50 => ?_)
        refine j_goto (pc := 53) (tgt := 134) h dX8_full_53 (by decide) ?_
        refine j_iinc4 (pc := 134) h dX8_full_134 rfl (inc_n _) ?_
        refine j_goto (pc := 137) (tgt := 18) h dX8_full_137 (by decide) ?_
        exact ih' _ _ _ (by omega)
  refine j_iload1 (pc := 0) h dX8_full_0 ?_
  refine j_iconst (pc := 1) h dX8_full_1 ic_0 ?_
  refine j_iconst (pc := 2) h dX8_full_2 ic_1 ?_
  refine j_callSr (pc := 3) h dX8_full_3 (k_X8_in) ms_X8_73 rfl rfl (by decide) (Nat.le_of_ble_eq_true rfl) (Nat.le_of_ble_eq_true rfl) (Nat.le_of_ble_eq_true rfl) ?_
  refine j_if_neB (pc := 6) (tgt := 11) h dX8_full_6 (by decide) (fun c6 => ?_) (fun c6 => absurd c6 (by decide))
  refine j_iconst (pc := 11) h dX8_full_11 ic_0 ?_
  refine j_istore2 (pc := 12) h dX8_full_12 rfl ?_
  refine j_iconst (pc := 13) h dX8_full_13 ic_0 ?_
  refine j_istore3 (pc := 14) h dX8_full_14 rfl ?_
  refine j_iconst (pc := 15) h dX8_full_15 ic_0 ?_
  refine j_istore4 (pc := 16) h dX8_full_16 rfl ?_
  exact lp (σ.nm - 1) 0 none none none (by omega)
theorem k_X8_full1 (m : MW g ad σ τ C) (hI : Inv σ) (hM : InvM σ) : Cr l g yX8_full cX8_full 8 (some .int) 4 [.ref (ad 20), .int (nI 1)] ad C (.int (fulS σ (grL σ.md (tkF σ) (σ.nm - 1)))) := by
  obtain ⟨f20, f21, f22, f23, f24, f25, f26, f27, f28, f29, f30, f31, f32, f33, f34, f35, f36, f37, f38⟩ := id m
  obtain ⟨hf1, hf2, hfl, hnn, hnm, hno, hc1, hc2⟩ := id hI.le
  obtain ⟨hm1, hm2, hm3, hm4⟩ := hM
  refine Ct_of [some (.ref (ad 20)), some (.int (nI 1)), none, none, none, none, none, none] (by decide) rfl rfl (Nat.le_of_ble_eq_true rfl) rfl rfl (fun X hX h => ?_)
  subst hX
  have lp : ∀ n k u1 u2 u3, k + 1 + n = σ.nm ∨ (n = 0 ∧ σ.nm = 0 ∧ k = 0) → J X g 8 (QR X g ad C (.int (fulS σ (grL σ.md (tkF σ) (σ.nm - 1))))) 0 0 ad C 18 [some (.ref (ad 20)), some (.int (nI 1)), some (.int (bI (anyD σ.md k))), some (.int (grL σ.md (tkF σ) k)), some (.int (nI k)), u1, u2, u3] [] := by
    intro n
    induction n with
    | zero =>
      intro k u1 u2 u3 hk
      have hk' : σ.nm - 1 = k := by omega
      refine j_iload4 (pc := 18) h dX8_full_18 ?_
      refine j_iconst (pc := 20) h dX8_full_20 ic_1 ?_
      refine j_iaddN (pc := 21) h dX8_full_21 ?_
      refine j_aload0 (pc := 22) h dX8_full_22 ?_
      refine j_getf (pc := 23) h dX8_full_23 (f20) fl_X8_154 rfl ?_
      refine j_icmp_ge (pc := 26) (tgt := 140) h dX8_full_26 (by decide) (fun c26 => ?_) (fun c26 => absurd (nI_le (by omega) (by omega)) c26)
      refine j_iload2 (pc := 140) h dX8_full_140 ?_
      refine j_if_eqB (pc := 141) (tgt := 148) h dX8_full_141 (by decide) (fun c141 => ?_) (fun c141 => ?_)
      · refine j_iconst (pc := 148) h dX8_full_148 ic_m1 ?_
        refine j_iretr (pc := 149) h dX8_full_149 (by rw [hk', fulS, anyD_no c141]; rfl)
      · refine j_iload3 (pc := 144) h dX8_full_144 ?_
        refine j_if_gt (pc := 145) (tgt := 150) h dX8_full_145 (by decide) (fun c145 => ?_) (fun c145 => ?_)
        · have hp : nI 0 < grL σ.md (tkF σ) k := c145
          have hne : ¬ grL σ.md (tkF σ) k = 0 := by intro q; rw [q] at hp; exact absurd hp (by decide)
          have hnl : ¬ grL σ.md (tkF σ) k ≤ 0 := by intro q; rw [Int32.le_iff_toInt_le] at q; rw [Int32.lt_iff_toInt_lt] at hp; have : (nI 0).toInt = (0 : Int32).toInt := (by decide); omega
          refine j_aload0 (pc := 150) h dX8_full_150 ?_
          refine j_getf (pc := 151) h dX8_full_151 (f20) fl_X8_77 rfl ?_
          refine j_aload0 (pc := 154) h dX8_full_154 ?_
          refine j_getf (pc := 155) h dX8_full_155 (f20) fl_X8_61 rfl ?_
          refine j_aload0 (pc := 158) h dX8_full_158 ?_
          refine j_iconst (pc := 159) h dX8_full_159 ic_0 ?_
          refine j_callVr (pc := 160) h dX8_full_160 (k_X8_taken m hI (by omega)) mv_X8_143 (f20) rfl rfl (by decide) (Nat.le_of_ble_eq_true rfl) (Nat.le_of_ble_eq_true rfl) (Nat.le_of_ble_eq_true rfl) ?_
          refine j_isub (pc := 163) h dX8_full_163 ?_
          refine j_iload3 (pc := 164) h dX8_full_164 ?_
          refine j_iadd (pc := 165) h dX8_full_165 ?_
          refine j_iconst (pc := 166) h dX8_full_166 ic_1 ?_
          refine j_isub (pc := 167) h dX8_full_167 ?_
          refine j_iload3 (pc := 168) h dX8_full_168 ?_
          refine j_idiv (pc := 169) h dX8_full_169 (hne) ?_
          refine j_iadd (pc := 170) h dX8_full_170 ?_
          refine j_iretr (pc := 171) h dX8_full_171 (by rw [hk', fulS, if_neg hnl])
        · refine j_iconst (pc := 148) h dX8_full_148 ic_m1 ?_
          refine j_iretr (pc := 149) h dX8_full_149 (by rw [hk', fulS, if_pos]; rw [Int32.le_iff_toInt_le]; rw [Int32.lt_iff_toInt_lt] at c145; omega)
    | succ n ih =>
      intro k u1 u2 u3 hk
      have h1 := hm1 k (by omega)
      have h2 := hm1 (k + 1) (by omega)
      have h3 := hm2 k (by omega)
      obtain ⟨b1, b2⟩ := more_lo (hm4 (30 * (k + 1))) (hm4 (30 * k))
      by_cases hd : σ.md k < σ.md (k + 1)
      · have ha : anyD σ.md (k + 1) = true := by simp [anyD, hd]
        have es : grL σ.md (tkF σ) (k + 1) = if anyD σ.md k = true then (if fdv (nI (σ.mt (30 * (k + 1))) - nI (σ.mt (30 * k))) (nI (σ.md (k + 1)) - nI (σ.md k)) < grL σ.md (tkF σ) k then fdv (nI (σ.mt (30 * (k + 1))) - nI (σ.mt (30 * k))) (nI (σ.md (k + 1)) - nI (σ.md k)) else grL σ.md (tkF σ) k) else fdv (nI (σ.mt (30 * (k + 1))) - nI (σ.mt (30 * k))) (nI (σ.md (k + 1)) - nI (σ.md k)) := by
          rw [grL, if_pos hd, Nat.mul_comm (k + 1) 30, Nat.mul_comm k 30]; rfl
        have ih' := ih (k + 1)
        rw [ha, es] at ih'
        refine j_iload4 (pc := 18) h dX8_full_18 ?_
        refine j_iconst (pc := 20) h dX8_full_20 ic_1 ?_
        refine j_iaddN (pc := 21) h dX8_full_21 ?_
        refine j_aload0 (pc := 22) h dX8_full_22 ?_
        refine j_getf (pc := 23) h dX8_full_23 (f20) fl_X8_154 rfl ?_
        refine j_icmp_ge (pc := 26) (tgt := 140) h dX8_full_26 (by decide) (fun c26 => absurd c26 (nI_ge (by omega) (by omega))) (fun c26 => ?_)
        refine j_aload0 (pc := 29) h dX8_full_29 ?_
        refine j_getf (pc := 30) h dX8_full_30 (f20) fl_X8_55 rfl ?_
        refine j_iload4 (pc := 33) h dX8_full_33 ?_
        refine j_iconst (pc := 35) h dX8_full_35 ic_1 ?_
        refine j_iaddN (pc := 36) h dX8_full_36 ?_
        refine j_iald (pc := 37) h dX8_full_37 (f34) (by omega) (by decide) ?_
        refine j_aload0 (pc := 38) h dX8_full_38 ?_
        refine j_getf (pc := 39) h dX8_full_39 (f20) fl_X8_55 rfl ?_
        refine j_iload4 (pc := 42) h dX8_full_42 ?_
        refine j_iald (pc := 44) h dX8_full_44 (f34) (by omega) (by decide) ?_
        refine j_isub (pc := 45) h dX8_full_45 ?_
        refine j_istore5 (pc := 46) h dX8_full_46 rfl ?_
        refine j_iload5 (pc := 48) h dX8_full_48 ?_
        refine j_if_ne (pc := 50) (tgt := 56) h dX8_full_50 (by decide) (fun c50 => ?_) (fun c50 => absurd c50 (days_ne (by omega) (by omega) hd))
        refine j_aload0 (pc := 56) h dX8_full_56 ?_
        refine j_getf (pc := 57) h dX8_full_57 (f20) fl_X8_58 rfl ?_
        refine j_bipush (pc := 60) h dX8_full_60 bp_30 ?_
        refine j_iload4 (pc := 62) h dX8_full_62 ?_
        refine j_iconst (pc := 64) h dX8_full_64 ic_1 ?_
        refine j_iaddN (pc := 65) h dX8_full_65 ?_
        refine j_imulN (pc := 66) h dX8_full_66 ?_
        refine j_iald (pc := 67) h dX8_full_67 (f35) (by omega) (by decide) ?_
        refine j_aload0 (pc := 68) h dX8_full_68 ?_
        refine j_getf (pc := 69) h dX8_full_69 (f20) fl_X8_58 rfl ?_
        refine j_bipush (pc := 72) h dX8_full_72 bp_30 ?_
        refine j_iload4 (pc := 74) h dX8_full_74 ?_
        refine j_imulN (pc := 76) h dX8_full_76 ?_
        refine j_iald (pc := 77) h dX8_full_77 (f35) (by omega) (by decide) ?_
        refine j_isub (pc := 78) h dX8_full_78 ?_
        refine j_istore6 (pc := 79) h dX8_full_79 rfl ?_
        refine j_iload1 (pc := 81) h dX8_full_81 ?_
        refine j_if_ne (pc := 82) (tgt := 97) h dX8_full_82 (by decide) (fun c82 => ?_) (fun c82 => absurd c82 (by decide))
        refine j_iload6 (pc := 97) h dX8_full_97 ?_
        refine j_iload5 (pc := 99) h dX8_full_99 ?_
        refine j_callSr (pc := 101) h dX8_full_101 (k_X8_down' b1 hd (by omega)) ms_X8_174 rfl rfl (by decide) (Nat.le_of_ble_eq_true rfl) (Nat.le_of_ble_eq_true rfl) (Nat.le_of_ble_eq_true rfl) ?_
        refine j_istore7 (pc := 104) h dX8_full_104 rfl ?_
        refine j_iload2 (pc := 106) h dX8_full_106 ?_
        refine j_if_eqB (pc := 107) (tgt := 129) h dX8_full_107 (by decide) (fun c107 => ?_) (fun c107 => ?_)
        · rw [if_neg (by rw [c107]; decide)] at ih'
          refine j_iload7 (pc := 129) h dX8_full_129 ?_
          refine j_istore3 (pc := 131) h dX8_full_131 rfl ?_
          refine j_iconst (pc := 132) h dX8_full_132 ic_1 ?_
          refine j_istore2 (pc := 133) h dX8_full_133 rfl ?_
          refine j_iinc4 (pc := 134) h dX8_full_134 rfl (inc_n _) ?_
          refine j_goto (pc := 137) (tgt := 18) h dX8_full_137 (by decide) ?_
          exact ih' _ _ _ (by omega)
        · rw [if_pos c107] at ih'
          refine j_iload1 (pc := 110) h dX8_full_110 ?_
          refine j_if_ne (pc := 111) (tgt := 123) h dX8_full_111 (by decide) (fun c111 => ?_) (fun c111 => absurd c111 (by decide))
          refine j_iload7 (pc := 123) h dX8_full_123 ?_
          refine j_iload3 (pc := 125) h dX8_full_125 ?_
          refine j_icmp_ge (pc := 126) (tgt := 132) h dX8_full_126 (by decide) (fun c126 => ?_) (fun c126 => ?_)
          · rw [if_neg (by rw [Int32.lt_iff_toInt_lt]; rw [Int32.le_iff_toInt_le] at c126; omega)] at ih'
            refine j_iconst (pc := 132) h dX8_full_132 ic_1 ?_
            refine j_istore2 (pc := 133) h dX8_full_133 rfl ?_
            refine j_iinc4 (pc := 134) h dX8_full_134 rfl (inc_n _) ?_
            refine j_goto (pc := 137) (tgt := 18) h dX8_full_137 (by decide) ?_
            exact ih' _ _ _ (by omega)
          · rw [if_pos (by rw [Int32.lt_iff_toInt_lt]; rw [Int32.le_iff_toInt_le] at c126; omega)] at ih'
            refine j_iload7 (pc := 129) h dX8_full_129 ?_
            refine j_istore3 (pc := 131) h dX8_full_131 rfl ?_
            refine j_iconst (pc := 132) h dX8_full_132 ic_1 ?_
            refine j_istore2 (pc := 133) h dX8_full_133 rfl ?_
            refine j_iinc4 (pc := 134) h dX8_full_134 rfl (inc_n _) ?_
            refine j_goto (pc := 137) (tgt := 18) h dX8_full_137 (by decide) ?_
            exact ih' _ _ _ (by omega)
      · have he : σ.md (k + 1) = σ.md k := by omega
        have ha : anyD σ.md (k + 1) = anyD σ.md k := by simp [anyD, hd]
        have ih' := ih (k + 1)
        rw [ha, show grL σ.md (tkF σ) (k + 1) = grL σ.md (tkF σ) k from by rw [grL, if_neg hd]] at ih'
        refine j_iload4 (pc := 18) h dX8_full_18 ?_
        refine j_iconst (pc := 20) h dX8_full_20 ic_1 ?_
        refine j_iaddN (pc := 21) h dX8_full_21 ?_
        refine j_aload0 (pc := 22) h dX8_full_22 ?_
        refine j_getf (pc := 23) h dX8_full_23 (f20) fl_X8_154 rfl ?_
        refine j_icmp_ge (pc := 26) (tgt := 140) h dX8_full_26 (by decide) (fun c26 => absurd c26 (nI_ge (by omega) (by omega))) (fun c26 => ?_)
        refine j_aload0 (pc := 29) h dX8_full_29 ?_
        refine j_getf (pc := 30) h dX8_full_30 (f20) fl_X8_55 rfl ?_
        refine j_iload4 (pc := 33) h dX8_full_33 ?_
        refine j_iconst (pc := 35) h dX8_full_35 ic_1 ?_
        refine j_iaddN (pc := 36) h dX8_full_36 ?_
        refine j_iald (pc := 37) h dX8_full_37 (f34) (by omega) (by decide) ?_
        refine j_aload0 (pc := 38) h dX8_full_38 ?_
        refine j_getf (pc := 39) h dX8_full_39 (f20) fl_X8_55 rfl ?_
        refine j_iload4 (pc := 42) h dX8_full_42 ?_
        refine j_iald (pc := 44) h dX8_full_44 (f34) (by omega) (by decide) ?_
        refine j_isub (pc := 45) h dX8_full_45 ?_
        refine j_istore5 (pc := 46) h dX8_full_46 rfl ?_
        refine j_iload5 (pc := 48) h dX8_full_48 ?_
        refine j_if_ne (pc := 50) (tgt := 56) h dX8_full_50 (by decide) (fun c50 => absurd (by rw [he]; simp) c50) (fun c50 => ?_)
        refine j_goto (pc := 53) (tgt := 134) h dX8_full_53 (by decide) ?_
        refine j_iinc4 (pc := 134) h dX8_full_134 rfl (inc_n _) ?_
        refine j_goto (pc := 137) (tgt := 18) h dX8_full_137 (by decide) ?_
        exact ih' _ _ _ (by omega)
  refine j_iload1 (pc := 0) h dX8_full_0 ?_
  refine j_iconst (pc := 1) h dX8_full_1 ic_0 ?_
  refine j_iconst (pc := 2) h dX8_full_2 ic_1 ?_
  refine j_callSr (pc := 3) h dX8_full_3 (k_X8_in) ms_X8_73 rfl rfl (by decide) (Nat.le_of_ble_eq_true rfl) (Nat.le_of_ble_eq_true rfl) (Nat.le_of_ble_eq_true rfl) ?_
  refine j_if_neB (pc := 6) (tgt := 11) h dX8_full_6 (by decide) (fun c6 => ?_) (fun c6 => absurd c6 (by decide))
  refine j_iconst (pc := 11) h dX8_full_11 ic_0 ?_
  refine j_istore2 (pc := 12) h dX8_full_12 rfl ?_
  refine j_iconst (pc := 13) h dX8_full_13 ic_0 ?_
  refine j_istore3 (pc := 14) h dX8_full_14 rfl ?_
  refine j_iconst (pc := 15) h dX8_full_15 ic_0 ?_
  refine j_istore4 (pc := 16) h dX8_full_16 rfl ?_
  exact lp (σ.nm - 1) 0 none none none (by omega)
end MF

