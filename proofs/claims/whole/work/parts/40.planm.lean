/-! The reference: plans, plan, planned -/
theorem sm32 : ∀ k, k < 32 → ((nI k &&& 31).toBitVec.smod 32).toNat = k := by decide +kernel
theorem and1N (a : Nat) : nI a &&& nI 1 = nI (a % 2) := by
  apply Int32.toBitVec_inj.mp
  rw [Int32.toBitVec_and]
  show BitVec.ofNat 32 a &&& BitVec.ofNat 32 1 = BitVec.ofNat 32 (a % 2)
  rw [← BitVec.ofNat_and, Nat.and_one_is_mod]
theorem shI {s k : Nat} (hs : s < 2 ^ 31) (hk : k < 32) : (nI s >>> (nI k &&& 31)) &&& nI 1 = nI (if s.testBit k = true then 1 else 0) := by
  rw [pk_shrN hs _ k (sm32 k hk), and1N, Nat.testBit_eq_decide_div_mod_eq]
  have := Nat.mod_two_eq_zero_or_one (s / 2 ^ k)
  rcases this with h | h <;> simp [h]
theorem shI_t {s k : Nat} (hs : s < 2 ^ 31) (hk : k < 32) (h : s.testBit k = true) : (nI s >>> (nI k &&& 31)) &&& nI 1 = nI 1 := by rw [shI hs hk, h]; rfl
theorem shI_f {s k : Nat} (hs : s < 2 ^ 31) (hk : k < 32) (h : s.testBit k = false) : (nI s >>> (nI k &&& 31)) &&& nI 1 = nI 0 := by rw [shI hs hk, h]; rfl
theorem two12 {m : Nat} (h : m ≤ 12) : 2 ^ m ≤ 4096 := Nat.pow_le_pow_right (n := 2) (by decide) h
/-- the end of the search -/
def PPn (g : GG) (ad : AD) (C : CC) (σ : Sg) (t n : Nat) : Option Value → AD → CC → Prop := fun r ad' C' => r = some (.int (if (plBt σ t n).isSome = true then nI (filS σ t) else -1)) ∧ ad' = ad ∧ frM C C' ∧ ∃ τ', MW g ad σ τ' C' ∧ ∀ b, plBt σ t n = some b → τ'.2.2.2.1 = nI (plWt σ t b 0) ∧ τ'.2.2.2.2 = nI b ∧ b < 4096 ∧ filS σ t ≤ 12 ∧ ∀ k, k < filS σ t → τ'.2.1 k = nI (plF σ t k)
theorem plN_t {σ : Sg} {t n s : Nat} (hc : n ≤ pcn (plFr σ t s 0)) (hl : ∀ b, plN σ t n s = some b → plWt σ t s 0 < plWt σ t b 0) : plN σ t n (s + 1) = some s := by
  unfold plN at hl ⊢
  rw [bst]
  cases e : bst (fun s => plFr σ t s 0) (fun s => plWt σ t s 0) n s with
  | none => rw [stp, if_pos hc]
  | some b => rw [stp, if_pos ⟨hc, hl b e⟩]
theorem plN_f {σ : Sg} {t n s : Nat} (h : ¬ n ≤ pcn (plFr σ t s 0) ∨ ∃ b, plN σ t n s = some b ∧ plWt σ t b 0 ≤ plWt σ t s 0) : plN σ t n (s + 1) = plN σ t n s := by
  unfold plN at h ⊢
  rw [bst]
  cases e : bst (fun s => plFr σ t s 0) (fun s => plWt σ t s 0) n s with
  | none =>
    rw [e] at h
    rcases h with h | ⟨b, hb, _⟩
    · rw [stp, if_neg h]
    · cases hb
  | some b =>
    rw [e] at h
    rw [stp, if_neg]
    rintro ⟨h1, h2⟩
    rcases h with h | ⟨b', hb, h⟩
    · exact h h1
    · cases hb; exact absurd h2 (Nat.not_lt.mpr h)
section PM
variable {l : Launch} {g : GG} {ad : AD} {C : CC} {σ : Sg} {τ : Tm}
theorem k_X8_plans_no {x y : Int32} (m : MW g ad σ τ C) (hI : Inv σ) (hx : inN x σ.nf = false ∨ rng y (nI 1) (nI 60) = false) : Cr l g yX8_plans cX8_plans 13 (some .int) 3 [.ref (ad 20), .int x, .int y] ad C (.int (-1)) := by
  obtain ⟨f20, f21, f22, f23, f24, f25, f26, f27, f28, f29, f30, f31, f32, f33, f34, f35, f36, f37, f38⟩ := id m
  obtain ⟨hf1, hf2, hfl, hnn, hnm, hno, hc1, hc2⟩ := id hI.le
  refine Ct_of [some (.ref (ad 20)), some (.int x), some (.int y), none, none, none, none, none, none, none, none, none, none] (by decide) rfl rfl (Nat.le_of_ble_eq_true rfl) rfl rfl (fun X hX h => ?_)
  subst hX
  refine j_aload0 (pc := 0) h dX8_plans_0 ?_
  refine j_iload1 (pc := 1) h dX8_plans_1 ?_
  refine j_callVr (pc := 2) h dX8_plans_2 (k_X8_isFolder m hI) mv_X8_80 (f20) rfl rfl (by decide) (Nat.le_of_ble_eq_true rfl) (Nat.le_of_ble_eq_true rfl) (Nat.le_of_ble_eq_true rfl) ?_
  refine j_if_eqB (pc := 5) (tgt := 18) h dX8_plans_5 (by decide) (fun c5 => ?_) (fun c5 => ?_)
  · refine j_iconst (pc := 18) h dX8_plans_18 ic_m1 ?_
    refine j_iretr (pc := 19) h dX8_plans_19 (rfl)
  · refine j_iload2 (pc := 8) h dX8_plans_8 ?_
    refine j_iconst (pc := 9) h dX8_plans_9 ic_1 ?_
    refine j_bipush (pc := 10) h dX8_plans_10 bp_60 ?_
    refine j_callSr (pc := 12) h dX8_plans_12 (k_X8_in) ms_X8_73 rfl rfl (by decide) (Nat.le_of_ble_eq_true rfl) (Nat.le_of_ble_eq_true rfl) (Nat.le_of_ble_eq_true rfl) ?_
    refine j_if_neB (pc := 15) (tgt := 20) h dX8_plans_15 (by decide) (fun c15 => absurd c15 (by rcases hx with hx|hx; exact absurd (hx.symm.trans c5) (by decide); rw [hx]; decide)) (fun c15 => ?_)
    refine j_iconst (pc := 18) h dX8_plans_18 ic_m1 ?_
    refine j_iretr (pc := 19) h dX8_plans_19 (rfl)
/-- the third loop: every set -/
theorem k_X8_plans {t n : Nat} (m : MW g ad σ τ C) (hI : Inv σ) (ht : t < σ.nf) (h1 : 1 ≤ n) (hn : n ≤ 60) : Ct l g yX8_plans cX8_plans 13 (some .int) 3 0 0 [.ref (ad 20), .int (nI t), .int (nI n)] ad C (PPn g ad C σ t n) := by
  obtain ⟨f20, f21, f22, f23, f24, f25, f26, f27, f28, f29, f30, f31, f32, f33, f34, f35, f36, f37, f38⟩ := id m
  obtain ⟨hf1, hf2, hfl, hnn, hnm, hno, hc1, hc2⟩ := id hI.le
  refine Ct_of [some (.ref (ad 20)), some (.int (nI t)), some (.int (nI n)), none, none, none, none, none, none, none, none, none, none] (by decide) rfl rfl (Nat.le_of_ble_eq_true rfl) rfl rfl (fun X hX h => ?_)
  subst hX
  have sets : ∀ few bl, filS σ t ≤ 12 → (∀ k, k < filS σ t → few k = nI (plF σ t k)) → (∀ j, j < σ.nfl → bl j = bk σ j) → ∀ r s D bw bs u7 u8 u9 u10 u11 u12, s + r = 2 ^ filS σ t → MW g ad σ (τ.1, few, bl, bw, bs) D → frM C D → bw = wtO σ t (plN σ t n s) → (∀ b, plN σ t n s = some b → bs = nI b ∧ b < s) → J X g 13 (QX X g 0 0 (PPn g ad C σ t n)) 0 0 ad D 140 [some (.ref (ad 20)), some (.int (nI t)), some (.int (nI n)), some (.int (nI (filS σ t))), some (.long (otS σ t)), none, some (.int (nI s)), u7, u8, u9, u10, u11, u12] [] := by
    intro few bl hm hfew hbl r
    have h4096 := two12 hm
    have hbt : plBt σ t n = plN σ t n (2 ^ filS σ t) := by rw [plBt, if_pos hm]
    induction r with
    | zero =>
      intro s D bw bs u7 u8 u9 u10 u11 u12 hs mD hfr hbw hbs
      obtain rfl : s = 2 ^ filS σ t := by omega
      cases hb : plN σ t n (2 ^ filS σ t) with
      | none =>
        rw [hb] at hbw
        refine j_iload6 (pc := 140) h dX8_plans_140 ?_
        refine j_iconst (pc := 142) h dX8_plans_142 ic_1 ?_
        refine j_iload3 (pc := 143) h dX8_plans_143 ?_
        refine j_ishl (pc := 144) h dX8_plans_144 ?_
        refine j_topi (sh32 (filS σ t) (by omega)) ?_
        refine j_icmp_ge (pc := 145) (tgt := 292) h dX8_plans_145 (by decide) (fun c145 => ?_) (fun c145 => absurd (nI_le (by omega) (by omega)) c145)
        refine j_aload0 (pc := 292) h dX8_plans_292 ?_
        refine j_getf (pc := 293) h dX8_plans_293 (mD.1) fl_X8_165 rfl ?_
        refine j_iconst (pc := 296) h dX8_plans_296 ic_m1 ?_
        refine j_icmp_ne (pc := 297) (tgt := 304) h dX8_plans_297 (by decide) (fun c297 => absurd (hbw) c297) (fun c297 => ?_)
        refine j_iconst (pc := 300) h dX8_plans_300 ic_m1 ?_
        refine j_goto (pc := 301) (tgt := 305) h dX8_plans_301 (by decide) ?_
        refine j_iret (pc := 305) h dX8_plans_305 (⟨by rw [hbt, hb]; rfl, rfl, hfr, _, mD, fun b q => by rw [hbt, hb] at q; cases q⟩)
      | some b =>
        rw [hb] at hbw
        have hb2 := hbs b hb
        have hw := plWt_le hI hm b 0
        refine j_iload6 (pc := 140) h dX8_plans_140 ?_
        refine j_iconst (pc := 142) h dX8_plans_142 ic_1 ?_
        refine j_iload3 (pc := 143) h dX8_plans_143 ?_
        refine j_ishl (pc := 144) h dX8_plans_144 ?_
        refine j_topi (sh32 (filS σ t) (by omega)) ?_
        refine j_icmp_ge (pc := 145) (tgt := 292) h dX8_plans_145 (by decide) (fun c145 => ?_) (fun c145 => absurd (nI_le (by omega) (by omega)) c145)
        refine j_aload0 (pc := 292) h dX8_plans_292 ?_
        refine j_getf (pc := 293) h dX8_plans_293 (mD.1) fl_X8_165 rfl ?_
        refine j_iconst (pc := 296) h dX8_plans_296 ic_m1 ?_
        refine j_icmp_ne (pc := 297) (tgt := 304) h dX8_plans_297 (by decide) (fun c297 => ?_) (fun c297 => absurd c297 (by rw [hbw]; exact nI_m1 (by omega)))
        refine j_iload3 (pc := 304) h dX8_plans_304 ?_
        refine j_iret (pc := 305) h dX8_plans_305 (⟨by rw [hbt, hb]; rfl, rfl, hfr, _, mD, fun b' q => by rw [hbt, hb] at q; cases q; exact ⟨hbw, hb2.1, by omega, hm, hfew⟩⟩)
    | succ r ih =>
      intro s D bw bs u7 u8 u9 u10 u11 u12 hs mD hfr hbw hbs
      have hw := plWt_le hI hm s 0
      have hpc := pcn_64 (plFr σ t s 0)
      have nxt : ∀ D bw bs u7 u8 u9 u10 u11 u12, MW g ad σ (τ.1, few, bl, bw, bs) D → frM C D → bw = wtO σ t (plN σ t n (s + 1)) → (∀ b, plN σ t n (s + 1) = some b → bs = nI b ∧ b < s + 1) → J X g 13 (QX X g 0 0 (PPn g ad C σ t n)) 0 0 ad D 286 [some (.ref (ad 20)), some (.int (nI t)), some (.int (nI n)), some (.int (nI (filS σ t))), some (.long (otS σ t)), none, some (.int (nI s)), u7, u8, u9, u10, u11, u12] [] := by
        intro D bw bs u7 u8 u9 u10 u11 u12 mD hfr hbw hbs
        refine j_iinc6 (pc := 286) h dX8_plans_286 rfl (inc_n _) ?_
        refine j_goto (pc := 289) (tgt := 140) h dX8_plans_289 (by decide) ?_
        exact ih (s + 1) D bw bs _ _ _ _ _ _ (by omega) mD hfr hbw hbs
      obtain ⟨f20, f21, f22, f23, f24, f25, f26, f27, f28, f29, f30, f31, f32, f33, f34, f35, f36, f37, f38⟩ := id mD
      have hlo : lo60 (plFr σ t s 0) := by
        rw [← rfF_eq]
        exact lo60_and (lo60_orr (fun k _ => by unfold rfG; split; exact lo60_bk hI _; exact lo60_0))
      have tst : (∀ b, plN σ t n s = some b → plWt σ t s 0 < plWt σ t b 0) → J X g 13 (QX X g 0 0 (PPn g ad C σ t n)) 0 0 ad D 255 [some (.ref (ad 20)), some (.int (nI t)), some (.int (nI n)), some (.int (nI (filS σ t))), some (.long (otS σ t)), none, some (.int (nI s)), some (.long (orr (rfG σ t s) (filS σ t))), none, some (.long (otS σ t ||| orr (rfK σ t s) (filS σ t))), none, some (.int (nI (plWt σ t s 0))), some (.int (nI (filS σ t)))] [] := by
        intro hl
        refine j_lload7 (pc := 255) h dX8_plans_255 ?_
        refine j_lload9 (pc := 257) h dX8_plans_257 ?_
        refine j_ldc2 (pc := 259) h dX8_plans_259 kc_X8_149 ?_
        refine j_lxor (pc := 262) h dX8_plans_262 ?_
        refine j_land (pc := 263) h dX8_plans_263 ?_
        refine j_topl (show orr (rfG σ t s) (filS σ t) &&& ((otS σ t ||| orr (rfK σ t s) (filS σ t)) ^^^ (-1)) = plFr σ t s 0 from rfF_eq) ?_
        refine j_callSr (pc := 264) h dX8_plans_264 (k_X8_bits' hlo) ms_X8_126 rfl rfl (by decide) (Nat.le_of_ble_eq_true rfl) (Nat.le_of_ble_eq_true rfl) (Nat.le_of_ble_eq_true rfl) ?_
        refine j_iload2 (pc := 267) h dX8_plans_267 ?_
        refine j_icmp_ge (pc := 268) (tgt := 274) h dX8_plans_268 (by decide) (fun c268 => ?_) (fun c268 => ?_)
        · have hc := nI_le_of c268 (by omega) (by omega)
          have en := plN_t hc hl
          refine j_aload0 (pc := 274) h dX8_plans_274 ?_
          refine j_iload11 (pc := 275) h dX8_plans_275 ?_
          refine j_putv (pc := 277) h dX8_plans_277 (f20) pl_X8_165 rfl rfl (Nat.le_of_ble_eq_true rfl) ?_
          refine j_aload0 (pc := 280) h dX8_plans_280 ?_
          refine j_iload6 (pc := 281) h dX8_plans_281 ?_
          refine j_putv (pc := 283) h dX8_plans_283 (rfl) pl_X8_168 rfl rfl (Nat.le_of_ble_eq_true rfl) ?_
          exact nxt _ (nI (plWt σ t s 0)) (nI s) _ _ _ _ _ _ ⟨rfl, f21, f22, f23, f24, f25, f26, f27, f28, f29, f30, f31, f32, f33, f34, f35, f36, f37, f38⟩ (frM_up (frM_up hfr (by decide) (by decide)) (by decide) (by decide)) (by rw [en]; rfl) (fun b q => by rw [en] at q; cases q; exact ⟨rfl, by omega⟩)
        · have hc : ¬ n ≤ pcn (plFr σ t s 0) := fun q => c268 (nI_le q (by omega))
          have en := plN_f (Or.inl hc)
          refine j_goto (pc := 271) (tgt := 286) h dX8_plans_271 (by decide) ?_
          exact nxt D bw bs _ _ _ _ _ _ mD hfr (by rw [en]; exact hbw) (fun b q => by rw [en] at q; have := hbs b q; exact ⟨this.1, by omega⟩)
      have two : J X g 13 (QX X g 0 0 (PPn g ad C σ t n)) 0 0 ad D 238 [some (.ref (ad 20)), some (.int (nI t)), some (.int (nI n)), some (.int (nI (filS σ t))), some (.long (otS σ t)), none, some (.int (nI s)), some (.long (orr (rfG σ t s) (filS σ t))), none, some (.long (otS σ t ||| orr (rfK σ t s) (filS σ t))), none, some (.int (nI (plWt σ t s 0))), some (.int (nI (filS σ t)))] [] := by
        cases hb : plN σ t n s with
        | none =>
          rw [hb] at hbw
          refine j_aload0 (pc := 238) h dX8_plans_238 ?_
          refine j_getf (pc := 239) h dX8_plans_239 (f20) fl_X8_165 rfl ?_
          refine j_iconst (pc := 242) h dX8_plans_242 ic_m1 ?_
          refine j_icmp_eq (pc := 243) (tgt := 255) h dX8_plans_243 (by decide) (fun c243 => ?_) (fun c243 => absurd (hbw) c243)
          exact tst (fun b q => by rw [hb] at q; cases q)
        | some b =>
          rw [hb] at hbw
          have hwb := plWt_le hI hm b 0
          refine j_aload0 (pc := 238) h dX8_plans_238 ?_
          refine j_getf (pc := 239) h dX8_plans_239 (f20) fl_X8_165 rfl ?_
          refine j_iconst (pc := 242) h dX8_plans_242 ic_m1 ?_
          refine j_icmp_eq (pc := 243) (tgt := 255) h dX8_plans_243 (by decide) (fun c243 => absurd c243 (by rw [hbw]; exact nI_m1 (by omega))) (fun c243 => ?_)
          refine j_iload11 (pc := 246) h dX8_plans_246 ?_
          refine j_aload0 (pc := 248) h dX8_plans_248 ?_
          refine j_getf (pc := 249) h dX8_plans_249 (f20) fl_X8_165 rfl ?_
          refine j_topi (hbw) ?_
          refine j_icmp_ge (pc := 252) (tgt := 286) h dX8_plans_252 (by decide) (fun c252 => ?_) (fun c252 => ?_)
          · have en := plN_f (σ := σ) (t := t) (n := n) (s := s) (Or.inr ⟨b, hb, nI_le_of c252 (by omega) (by omega)⟩)
            exact nxt D bw bs _ _ _ _ _ _ mD hfr (by rw [en, hb]; exact hbw) (fun b' q => by rw [en] at q; have := hbs b' q; exact ⟨this.1, by omega⟩)
          · exact tst (fun b' q => by rw [hb] at q; cases q; exact nI_lt' c252 (by omega))
      have inn : ∀ q k, k + q = filS σ t → J X g 13 (QX X g 0 0 (PPn g ad C σ t n)) 0 0 ad D 161 [some (.ref (ad 20)), some (.int (nI t)), some (.int (nI n)), some (.int (nI (filS σ t))), some (.long (otS σ t)), none, some (.int (nI s)), some (.long (orr (rfG σ t s) k)), none, some (.long (otS σ t ||| orr (rfK σ t s) k)), none, some (.int (nI (sumN (rfW σ t s) k))), some (.int (nI k))] [] := by
        intro q
        induction q with
        | zero =>
          intro k hk
          obtain rfl : k = filS σ t := by omega
          rw [rfW_eq]
          refine j_iload12 (pc := 161) h dX8_plans_161 ?_
          refine j_iload3 (pc := 163) h dX8_plans_163 ?_
          refine j_icmp_ge (pc := 164) (tgt := 238) h dX8_plans_164 (by decide) (fun c164 => ?_) (fun c164 => absurd (nI_le (by omega) (by omega)) c164)
          exact two
        | succ q ihq =>
          intro k hk
          have hkm : k < filS σ t := by omega
          have hF := (plF_sp hkm).1
          have hB : bl (plF σ t k) = plB σ t k := hbl _ hF
          cases hb : s.testBit k with
          | true =>
            refine j_iload12 (pc := 161) h dX8_plans_161 ?_
            refine j_iload3 (pc := 163) h dX8_plans_163 ?_
            refine j_icmp_ge (pc := 164) (tgt := 238) h dX8_plans_164 (by decide) (fun c164 => absurd c164 (nI_ge (by omega) (by omega))) (fun c164 => ?_)
            refine j_iload6 (pc := 167) h dX8_plans_167 ?_
            refine j_iload12 (pc := 169) h dX8_plans_169 ?_
            refine j_ishr (pc := 171) h dX8_plans_171 ?_
            refine j_iconst (pc := 172) h dX8_plans_172 ic_1 ?_
            refine j_iand (pc := 173) h dX8_plans_173 ?_
            refine j_topi (shI_t (by omega) (by omega) hb) ?_
            refine j_iconst (pc := 174) h dX8_plans_174 ic_1 ?_
            refine j_icmp_ne (pc := 175) (tgt := 215) h dX8_plans_175 (by decide) (fun c175 => absurd (rfl) c175) (fun c175 => ?_)
            refine j_lload7 (pc := 178) h dX8_plans_178 ?_
            refine j_aload0 (pc := 180) h dX8_plans_180 ?_
            refine j_getf (pc := 181) h dX8_plans_181 (f20) fl_X8_70 rfl ?_
            refine j_aload0 (pc := 184) h dX8_plans_184 ?_
            refine j_getf (pc := 185) h dX8_plans_185 (f20) fl_X8_67 rfl ?_
            refine j_iload12 (pc := 188) h dX8_plans_188 ?_
            refine j_iald (pc := 190) h dX8_plans_190 (f37) (by omega) (by decide) ?_
            refine j_topi (hfew k hkm) ?_
            refine j_lald (pc := 191) h dX8_plans_191 (f38) (by omega) (by decide) ?_
            refine j_lor (pc := 192) h dX8_plans_192 ?_
            refine j_topl (show orr (rfG σ t s) k ||| bl (plF σ t k) = orr (rfG σ t s) (k + 1) from by rw [orr, hB, rfG, if_pos hb]) ?_
            refine j_lstore7 (pc := 193) h dX8_plans_193 rfl ?_
            refine j_iload11 (pc := 195) h dX8_plans_195 ?_
            refine j_aload0 (pc := 197) h dX8_plans_197 ?_
            refine j_getf (pc := 198) h dX8_plans_198 (f20) fl_X8_33 rfl ?_
            refine j_aload0 (pc := 201) h dX8_plans_201 ?_
            refine j_getf (pc := 202) h dX8_plans_202 (f20) fl_X8_67 rfl ?_
            refine j_iload12 (pc := 205) h dX8_plans_205 ?_
            refine j_iald (pc := 207) h dX8_plans_207 (f37) (by omega) (by decide) ?_
            refine j_topi (hfew k hkm) ?_
            refine j_iald (pc := 208) h dX8_plans_208 (f27) (by omega) (by decide) ?_
            refine j_iadd (pc := 209) h dX8_plans_209 ?_
            refine j_topi (show nI (sumN (rfW σ t s) k) + nI (σ.wo (plF σ t k)) = nI (sumN (rfW σ t s) (k + 1)) from by rw [nI_add, sumN, rfW, if_pos hb]; rfl) ?_
            refine j_istore11 (pc := 210) h dX8_plans_210 rfl ?_
            refine j_goto (pc := 212) (tgt := 232) h dX8_plans_212 (by decide) ?_
            refine j_iinc12 (pc := 232) h dX8_plans_232 rfl (inc_n _) ?_
            refine j_goto (pc := 235) (tgt := 161) h dX8_plans_235 (by decide) ?_
            rw [show orr (rfK σ t s) k = orr (rfK σ t s) (k + 1) from orr_no (by simp [rfK, hb])]
            exact ihq (k + 1) (by omega)
          | false =>
            refine j_iload12 (pc := 161) h dX8_plans_161 ?_
            refine j_iload3 (pc := 163) h dX8_plans_163 ?_
            refine j_icmp_ge (pc := 164) (tgt := 238) h dX8_plans_164 (by decide) (fun c164 => absurd c164 (nI_ge (by omega) (by omega))) (fun c164 => ?_)
            refine j_iload6 (pc := 167) h dX8_plans_167 ?_
            refine j_iload12 (pc := 169) h dX8_plans_169 ?_
            refine j_ishr (pc := 171) h dX8_plans_171 ?_
            refine j_iconst (pc := 172) h dX8_plans_172 ic_1 ?_
            refine j_iand (pc := 173) h dX8_plans_173 ?_
            refine j_topi (shI_f (by omega) (by omega) hb) ?_
            refine j_iconst (pc := 174) h dX8_plans_174 ic_1 ?_
            refine j_icmp_ne (pc := 175) (tgt := 215) h dX8_plans_175 (by decide) (fun c175 => ?_) (fun c175 => absurd c175 (by decide))
            refine j_lload9 (pc := 215) h dX8_plans_215 ?_
            refine j_aload0 (pc := 217) h dX8_plans_217 ?_
            refine j_getf (pc := 218) h dX8_plans_218 (f20) fl_X8_70 rfl ?_
            refine j_aload0 (pc := 221) h dX8_plans_221 ?_
            refine j_getf (pc := 222) h dX8_plans_222 (f20) fl_X8_67 rfl ?_
            refine j_iload12 (pc := 225) h dX8_plans_225 ?_
            refine j_iald (pc := 227) h dX8_plans_227 (f37) (by omega) (by decide) ?_
            refine j_topi (hfew k hkm) ?_
            refine j_lald (pc := 228) h dX8_plans_228 (f38) (by omega) (by decide) ?_
            refine j_lor (pc := 229) h dX8_plans_229 ?_
            refine j_topl (show otS σ t ||| orr (rfK σ t s) k ||| bl (plF σ t k) = otS σ t ||| orr (rfK σ t s) (k + 1) from by rw [orr, hB, rfK, hb, Int64.or_assoc]; rfl) ?_
            refine j_lstore9 (pc := 230) h dX8_plans_230 rfl ?_
            refine j_iinc12 (pc := 232) h dX8_plans_232 rfl (inc_n _) ?_
            refine j_goto (pc := 235) (tgt := 161) h dX8_plans_235 (by decide) ?_
            rw [show orr (rfG σ t s) k = orr (rfG σ t s) (k + 1) from orr_no (by simp [rfG, hb]), show sumN (rfW σ t s) k = sumN (rfW σ t s) (k + 1) from by rw [sumN, rfW, hb]; rfl]
            exact ihq (k + 1) (by omega)
      refine j_iload6 (pc := 140) h dX8_plans_140 ?_
      refine j_iconst (pc := 142) h dX8_plans_142 ic_1 ?_
      refine j_iload3 (pc := 143) h dX8_plans_143 ?_
      refine j_ishl (pc := 144) h dX8_plans_144 ?_
      refine j_topi (sh32 (filS σ t) (by omega)) ?_
      refine j_icmp_ge (pc := 145) (tgt := 292) h dX8_plans_145 (by decide) (fun c145 => absurd c145 (nI_ge (by omega) (by omega))) (fun c145 => ?_)
      refine j_lconst (pc := 148) h dX8_plans_148 lc_0 ?_
      refine j_lstore7 (pc := 149) h dX8_plans_149 rfl ?_
      refine j_lload4 (pc := 151) h dX8_plans_151 ?_
      refine j_lstore9 (pc := 153) h dX8_plans_153 rfl ?_
      refine j_iconst (pc := 155) h dX8_plans_155 ic_0 ?_
      refine j_istore11 (pc := 156) h dX8_plans_156 rfl ?_
      refine j_iconst (pc := 158) h dX8_plans_158 ic_0 ?_
      refine j_istore12 (pc := 159) h dX8_plans_159 rfl ?_
      refine j_L ?_ (inn (filS σ t) 0 (by omega))
      rw [show otS σ t ||| orr (rfK σ t s) 0 = otS σ t from by simp [orr]]
      rfl
  -- what the others have
  have oth : ∀ few bl D, filS σ t ≤ 12 → (∀ k, k < filS σ t → few k = nI (plF σ t k)) → (∀ j, j < σ.nfl → bl j = bk σ j) → MW g ad σ (τ.1, few, bl, τ.2.2.2) D → frM C D → ∀ u4, J X g 13 (QX X g 0 0 (PPn g ad C σ t n)) 0 0 ad D 85 [some (.ref (ad 20)), some (.int (nI t)), some (.int (nI n)), some (.int (nI (filS σ t))), some (.int u4), none, none, none, none, none, none, none, none] [] := by
    intro few bl D hm hfew hbl mD hfr u4
    obtain ⟨f20, f21, f22, f23, f24, f25, f26, f27, f28, f29, f30, f31, f32, f33, f34, f35, f36, f37, f38⟩ := id mD
    have lp : ∀ r i, i + r = σ.nfl → J X g 13 (QX X g 0 0 (PPn g ad C σ t n)) 0 0 ad D 95 [some (.ref (ad 20)), some (.int (nI t)), some (.int (nI n)), some (.int (nI (filS σ t))), some (.long (shS σ (-1) ||| orr (kep σ (fun i => isn σ i t)) i)), none, some (.int (nI i)), none, none, none, none, none, none] [] := by
      intro r
      induction r with
      | zero =>
        intro i hi
        obtain rfl : i = σ.nfl := by omega
        refine j_iload6 (pc := 95) h dX8_plans_95 ?_
        refine j_aload0 (pc := 97) h dX8_plans_97 ?_
        refine j_getf (pc := 98) h dX8_plans_98 (f20) fl_X8_91 rfl ?_
        refine j_icmp_ge (pc := 101) (tgt := 132) h dX8_plans_101 (by decide) (fun c101 => ?_) (fun c101 => absurd (nI_le (by omega) (by omega)) c101)
        refine j_aload0 (pc := 132) h dX8_plans_132 ?_
        refine j_iconst (pc := 133) h dX8_plans_133 ic_m1 ?_
        refine j_putv (pc := 134) h dX8_plans_134 (f20) pl_X8_165 rfl rfl (Nat.le_of_ble_eq_true rfl) ?_
        refine j_iconst (pc := 137) h dX8_plans_137 ic_0 ?_
        refine j_istore6 (pc := 138) h dX8_plans_138 rfl ?_
        exact sets few bl hm hfew hbl (2 ^ filS σ t) 0 _ (-1) τ.2.2.2.2 none none none none none none (by omega) ⟨rfl, f21, f22, f23, f24, f25, f26, f27, f28, f29, f30, f31, f32, f33, f34, f35, f36, f37, f38⟩ (frM_up hfr (by decide) (by decide)) rfl (fun b q => by cases q)
      | succ r ih =>
        intro i hi
        have hlt : i < σ.nfl := by omega
        refine j_iload6 (pc := 95) h dX8_plans_95 ?_
        refine j_aload0 (pc := 97) h dX8_plans_97 ?_
        refine j_getf (pc := 98) h dX8_plans_98 (f20) fl_X8_91 rfl ?_
        refine j_icmp_ge (pc := 101) (tgt := 132) h dX8_plans_101 (by decide) (fun c101 => absurd c101 (nI_ge (by omega) (by omega))) (fun c101 => ?_)
        refine j_aload0 (pc := 104) h dX8_plans_104 ?_
        refine j_iload6 (pc := 105) h dX8_plans_105 ?_
        refine j_iload1 (pc := 107) h dX8_plans_107 ?_
        refine j_callVr (pc := 108) h dX8_plans_108 (k_X8_isIn mD hI hlt ht) mv_X8_137 (f20) rfl rfl (by decide) (Nat.le_of_ble_eq_true rfl) (Nat.le_of_ble_eq_true rfl) (Nat.le_of_ble_eq_true rfl) ?_
        refine j_if_neB (pc := 111) (tgt := 126) h dX8_plans_111 (by decide) (fun c111 => ?_) (fun c111 => ?_)
        · refine j_iinc6 (pc := 126) h dX8_plans_126 rfl (inc_n _) ?_
          refine j_goto (pc := 129) (tgt := 95) h dX8_plans_129 (by decide) ?_
          rw [show orr (kep σ (fun i => isn σ i t)) i = orr (kep σ (fun i => isn σ i t)) (i + 1) from orr_no (by simp [kep, c111])]
          exact ih (i + 1) (by omega)
        · refine j_lload4 (pc := 114) h dX8_plans_114 ?_
          refine j_aload0 (pc := 116) h dX8_plans_116 ?_
          refine j_getf (pc := 117) h dX8_plans_117 (f20) fl_X8_70 rfl ?_
          refine j_iload6 (pc := 120) h dX8_plans_120 ?_
          refine j_lald (pc := 122) h dX8_plans_122 (f38) (by omega) (by decide) ?_
          refine j_lor (pc := 123) h dX8_plans_123 ?_
          refine j_topl (show shS σ (-1) ||| orr (kep σ (fun i => isn σ i t)) i ||| bl i = shS σ (-1) ||| orr (kep σ (fun i => isn σ i t)) (i + 1) from by rw [orr, hbl i hlt, kep, c111, Int64.or_assoc]; rfl) ?_
          refine j_lstore4 (pc := 124) h dX8_plans_124 rfl ?_
          refine j_iinc6 (pc := 126) h dX8_plans_126 rfl (inc_n _) ?_
          refine j_goto (pc := 129) (tgt := 95) h dX8_plans_129 (by decide) ?_
          exact ih (i + 1) (by omega)
    refine j_aload0 (pc := 85) h dX8_plans_85 ?_
    refine j_iconst (pc := 86) h dX8_plans_86 ic_m1 ?_
    refine j_callVr (pc := 87) h dX8_plans_87 (k_X8_shots mD hI) mv_X8_123 (f20) rfl rfl (by decide) (Nat.le_of_ble_eq_true rfl) (Nat.le_of_ble_eq_true rfl) (Nat.le_of_ble_eq_true rfl) ?_
    refine j_lstore4 (pc := 90) h dX8_plans_90 rfl ?_
    refine j_iconst (pc := 92) h dX8_plans_92 ic_0 ?_
    refine j_istore6 (pc := 93) h dX8_plans_93 rfl ?_
    refine j_L ?_ (lp σ.nfl 0 (by omega))
    rw [show shS σ (-1) ||| orr (kep σ (fun i => isn σ i t)) 0 = shS σ (-1) from by simp [orr]]
  -- the files of the tree
  have gat : ∀ r i D few bl, i + r = σ.nfl → MW g ad σ (τ.1, few, bl, τ.2.2.2) D → frM C D → cnt (fun j => isn σ j t) i ≤ 12 → (∀ k, k < cnt (fun j => isn σ j t) i → few k = nI (fw (fun j => isn σ j t) i k)) → (∀ j, j < i → bl j = bk σ j) → J X g 13 (QX X g 0 0 (PPn g ad C σ t n)) 0 0 ad D 25 [some (.ref (ad 20)), some (.int (nI t)), some (.int (nI n)), some (.int (nI (cnt (fun j => isn σ j t) i))), some (.int (nI i)), none, none, none, none, none, none, none, none] [] := by
    intro r
    induction r with
    | zero =>
      intro i D few bl hi mD hfr hc hfew hbl
      obtain rfl : i = σ.nfl := by omega
      refine j_iload4 (pc := 25) h dX8_plans_25 ?_
      refine j_aload0 (pc := 27) h dX8_plans_27 ?_
      refine j_getf (pc := 28) h dX8_plans_28 (mD.1) fl_X8_91 rfl ?_
      refine j_icmp_ge (pc := 31) (tgt := 85) h dX8_plans_31 (by decide) (fun c31 => ?_) (fun c31 => absurd (nI_le (by omega) (by omega)) c31)
      exact oth few bl D hc hfew hbl mD hfr _
    | succ r ih =>
      intro i D few bl hi mD hfr hc hfew hbl
      have hlt : i < σ.nfl := by omega
      obtain ⟨f20, f21, f22, f23, f24, f25, f26, f27, f28, f29, f30, f31, f32, f33, f34, f35, f36, f37, f38⟩ := id mD
      have hbl' : ∀ j, j < i + 1 → vp_updL bl i (bk σ i) j = bk σ j := fun j hj => by
        by_cases e : j = i
        · subst e; simp [vp_updL]
        · simp [vp_updL, e]; exact hbl j (by omega)
      have nx : ∀ D, MW g ad σ (τ.1, few, vp_updL bl i (bk σ i), τ.2.2.2) D → frM C D → J X g 13 (QX X g 0 0 (PPn g ad C σ t n)) 0 0 ad D 47 [some (.ref (ad 20)), some (.int (nI t)), some (.int (nI n)), some (.int (nI (cnt (fun j => isn σ j t) i))), some (.int (nI i)), none, none, none, none, none, none, none, none] [] := by
        intro D mD hfr
        obtain ⟨f20, f21, f22, f23, f24, f25, f26, f27, f28, f29, f30, f31, f32, f33, f34, f35, f36, f37, f38⟩ := id mD
        refine j_aload0 (pc := 47) h dX8_plans_47 ?_
        refine j_iload4 (pc := 48) h dX8_plans_48 ?_
        refine j_iload1 (pc := 50) h dX8_plans_50 ?_
        refine j_callVr (pc := 51) h dX8_plans_51 (k_X8_isIn mD hI hlt ht) mv_X8_137 (f20) rfl rfl (by decide) (Nat.le_of_ble_eq_true rfl) (Nat.le_of_ble_eq_true rfl) (Nat.le_of_ble_eq_true rfl) ?_
        refine j_if_neB (pc := 54) (tgt := 60) h dX8_plans_54 (by decide) (fun c54 => ?_) (fun c54 => ?_)
        · have hp : isn σ i t = true := c54
          have ec : cnt (fun j => isn σ j t) (i + 1) = cnt (fun j => isn σ j t) i + 1 := cnt_t (p := fun j => isn σ j t) hp
          have hmo := cnt_mono (p := fun j => isn σ j t) (n := σ.nfl) (j := i + 1) (by omega)
          refine j_iload3 (pc := 60) h dX8_plans_60 ?_
          refine j_bipush (pc := 61) h dX8_plans_61 bp_12 ?_
          refine j_icmp_ne (pc := 63) (tgt := 68) h dX8_plans_63 (by decide) (fun c63 => ?_) (fun c63 => ?_)
          · have hc2 : ¬ cnt (fun j => isn σ j t) i = 12 := fun q => c63 (by rw [q])
            refine j_aload0 (pc := 68) h dX8_plans_68 ?_
            refine j_getf (pc := 69) h dX8_plans_69 (f20) fl_X8_67 rfl ?_
            refine j_iload3 (pc := 72) h dX8_plans_72 ?_
            refine j_iload4 (pc := 73) h dX8_plans_73 ?_
            refine j_iast (pc := 75) h dX8_plans_75 (f37) (by omega) (by decide) ?_
            refine j_iinc3 (pc := 76) h dX8_plans_76 rfl (inc_n _) ?_
            refine j_iinc4 (pc := 79) h dX8_plans_79 rfl (inc_n _) ?_
            refine j_goto (pc := 82) (tgt := 25) h dX8_plans_82 (by decide) ?_
            have ih' := ih (i + 1) (va_up D 37 (some (eI g 12 (upd few (cnt (fun j => isn σ j t) i) (nI i))))) (upd few (cnt (fun j => isn σ j t) i) (nI i)) (vp_updL bl i (bk σ i)) (by omega) ⟨f20, f21, f22, f23, f24, f25, f26, f27, f28, f29, f30, f31, f32, f33, f34, f35, f36, rfl, f38⟩ (frM_up hfr (by decide) (by decide)) (by omega) (fun k hk' => by
              by_cases e : k = cnt (fun j => isn σ j t) i
              · subst e
                rw [fw_new (p := fun j => isn σ j t) hp]
                simp [upd]
              · have hk2 : k < cnt (fun j => isn σ j t) i := by omega
                rw [fw_old hk2]
                simp [upd, e]
                exact hfew k hk2) hbl'
            rw [ec] at ih'
            exact ih'
          · have hc2 := nI_inj c63 (by omega) (by decide)
            have hb : plBt σ t n = none := by
              rw [plBt, if_neg]
              show ¬ cnt (fun j => isn σ j t) σ.nfl ≤ 12
              omega
            refine j_iconst (pc := 66) h dX8_plans_66 ic_m1 ?_
            refine j_iret (pc := 67) h dX8_plans_67 (⟨by rw [hb]; rfl, rfl, hfr, _, mD, fun b q => by rw [hb] at q; cases q⟩)
        · have ec : cnt (fun j => isn σ j t) (i + 1) = cnt (fun j => isn σ j t) i := cnt_f (p := fun j => isn σ j t) c54
          refine j_goto (pc := 57) (tgt := 79) h dX8_plans_57 (by decide) ?_
          refine j_iinc4 (pc := 79) h dX8_plans_79 rfl (inc_n _) ?_
          refine j_goto (pc := 82) (tgt := 25) h dX8_plans_82 (by decide) ?_
          have ih' := ih (i + 1) D few (vp_updL bl i (bk σ i)) (by omega) mD hfr (by omega) (fun k hk' => by
            rw [ec] at hk'
            rw [fw_old hk']
            exact hfew k hk') hbl'
          rw [ec] at ih'
          exact ih'
      refine j_iload4 (pc := 25) h dX8_plans_25 ?_
      refine j_aload0 (pc := 27) h dX8_plans_27 ?_
      refine j_getf (pc := 28) h dX8_plans_28 (f20) fl_X8_91 rfl ?_
      refine j_icmp_ge (pc := 31) (tgt := 85) h dX8_plans_31 (by decide) (fun c31 => absurd c31 (nI_ge (by omega) (by omega))) (fun c31 => ?_)
      refine j_aload0 (pc := 34) h dX8_plans_34 ?_
      refine j_getf (pc := 35) h dX8_plans_35 (f20) fl_X8_70 rfl ?_
      refine j_iload4 (pc := 38) h dX8_plans_38 ?_
      refine j_aload0 (pc := 40) h dX8_plans_40 ?_
      refine j_iload4 (pc := 41) h dX8_plans_41 ?_
      refine j_callVr (pc := 43) h dX8_plans_43 (k_X8_blocksOf mD hI hlt) mv_X8_112 (f20) rfl rfl (by decide) (Nat.le_of_ble_eq_true rfl) (Nat.le_of_ble_eq_true rfl) (Nat.le_of_ble_eq_true rfl) ?_
      refine j_last (pc := 46) h dX8_plans_46 (f38) (by omega) (by decide) ?_
      exact nx _ ⟨f20, f21, f22, f23, f24, f25, f26, f27, f28, f29, f30, f31, f32, f33, f34, f35, f36, f37, rfl⟩ (frM_up hfr (by decide) (by decide))
  refine j_aload0 (pc := 0) h dX8_plans_0 ?_
  refine j_iload1 (pc := 1) h dX8_plans_1 ?_
  refine j_callVr (pc := 2) h dX8_plans_2 (k_X8_isFolder m hI) mv_X8_80 (f20) rfl rfl (by decide) (Nat.le_of_ble_eq_true rfl) (Nat.le_of_ble_eq_true rfl) (Nat.le_of_ble_eq_true rfl) ?_
  refine j_if_eqB (pc := 5) (tgt := 18) h dX8_plans_5 (by decide) (fun c5 => absurd c5 (by rw [inN_nI (by omega)]; simp; omega)) (fun c5 => ?_)
  refine j_iload2 (pc := 8) h dX8_plans_8 ?_
  refine j_iconst (pc := 9) h dX8_plans_9 ic_1 ?_
  refine j_bipush (pc := 10) h dX8_plans_10 bp_60 ?_
  refine j_callSr (pc := 12) h dX8_plans_12 (k_X8_in) ms_X8_73 rfl rfl (by decide) (Nat.le_of_ble_eq_true rfl) (Nat.le_of_ble_eq_true rfl) (Nat.le_of_ble_eq_true rfl) ?_
  refine j_if_neB (pc := 15) (tgt := 20) h dX8_plans_15 (by decide) (fun c15 => ?_) (fun c15 => absurd c15 (by rw [rng, decide_eq_true (nI_le h1 (by omega)), decide_eq_true (nI_le hn (by decide))]; decide))
  refine j_iconst (pc := 20) h dX8_plans_20 ic_0 ?_
  refine j_istore3 (pc := 21) h dX8_plans_21 rfl ?_
  refine j_iconst (pc := 22) h dX8_plans_22 ic_0 ?_
  refine j_istore4 (pc := 23) h dX8_plans_23 rfl ?_
  exact gat σ.nfl 0 C τ.2.1 τ.2.2.1 (by omega) m (frM_rf C) (Nat.zero_le _) (fun k hk => absurd hk (Nat.not_lt_zero k)) (fun j hj => absurd hj (Nat.not_lt_zero j))
theorem k_X8_plan_no {x y : Int32} (m : MW g ad σ τ C) (hI : Inv σ) (hx : inN x σ.nf = false ∨ rng y (nI 1) (nI 60) = false) : Cr l g yX8_plan cX8_plan 3 (some .int) 4 [.ref (ad 20), .int x, .int y] ad C (.int (-1)) := by
  obtain ⟨f20, f21, f22, f23, f24, f25, f26, f27, f28, f29, f30, f31, f32, f33, f34, f35, f36, f37, f38⟩ := id m
  obtain ⟨hf1, hf2, hfl, hnn, hnm, hno, hc1, hc2⟩ := id hI.le
  refine Ct_of [some (.ref (ad 20)), some (.int x), some (.int y)] (by decide) rfl rfl (Nat.le_of_ble_eq_true rfl) rfl rfl (fun X hX h => ?_)
  subst hX
  refine j_aload0 (pc := 0) h dX8_plan_0 ?_
  refine j_iload1 (pc := 1) h dX8_plan_1 ?_
  refine j_iload2 (pc := 2) h dX8_plan_2 ?_
  refine j_callVr (pc := 3) h dX8_plan_3 (k_X8_plans_no m hI hx) mv_X8_171 (f20) rfl rfl (by decide) (Nat.le_of_ble_eq_true rfl) (Nat.le_of_ble_eq_true rfl) (Nat.le_of_ble_eq_true rfl) ?_
  refine j_iconst (pc := 6) h dX8_plan_6 ic_m1 ?_
  refine j_icmp_ne (pc := 7) (tgt := 14) h dX8_plan_7 (by decide) (fun c7 => absurd (rfl) c7) (fun c7 => ?_)
  refine j_iconst (pc := 10) h dX8_plan_10 ic_m1 ?_
  refine j_goto (pc := 11) (tgt := 18) h dX8_plan_11 (by decide) ?_
  refine j_iretr (pc := 18) h dX8_plan_18 (rfl)
theorem k_X8_plan {t n : Nat} (m : MW g ad σ τ C) (hI : Inv σ) (ht : t < σ.nf) (h1 : 1 ≤ n) (hn : n ≤ 60) : Ct l g yX8_plan cX8_plan 3 (some .int) 4 0 0 [.ref (ad 20), .int (nI t), .int (nI n)] ad C (PMo g ad C (.int (plS σ t n)) (σ)) := by
  obtain ⟨f20, f21, f22, f23, f24, f25, f26, f27, f28, f29, f30, f31, f32, f33, f34, f35, f36, f37, f38⟩ := id m
  obtain ⟨hf1, hf2, hfl, hnn, hnm, hno, hc1, hc2⟩ := id hI.le
  refine Ct_of [some (.ref (ad 20)), some (.int (nI t)), some (.int (nI n))] (by decide) rfl rfl (Nat.le_of_ble_eq_true rfl) rfl rfl (fun X hX h => ?_)
  subst hX
  refine j_aload0 (pc := 0) h dX8_plan_0 ?_
  refine j_iload1 (pc := 1) h dX8_plan_1 ?_
  refine j_iload2 (pc := 2) h dX8_plan_2 ?_
  refine j_callV (pc := 3) h dX8_plan_3 (k_X8_plans m hI ht h1 hn) mv_X8_171 (f20) rfl rfl (by decide) (Nat.le_of_ble_eq_true rfl) (Nat.le_of_ble_eq_true rfl) (Nat.le_of_ble_eq_true rfl) (fun v3 ad3 C3 hp3 => ?_)
  obtain ⟨rfl, rfl, fr, τ', m', hp⟩ := hp3
  unfold plS
  cases hb : plBt σ t n with
  | none =>
    refine j_iconst (pc := 6) h dX8_plan_6 ic_m1 ?_
    refine j_icmp_ne (pc := 7) (tgt := 14) h dX8_plan_7 (by decide) (fun c7 => absurd (rfl) c7) (fun c7 => ?_)
    refine j_iconst (pc := 10) h dX8_plan_10 ic_m1 ?_
    refine j_goto (pc := 11) (tgt := 18) h dX8_plan_11 (by decide) ?_
    refine j_iret (pc := 18) h dX8_plan_18 (⟨rfl, rfl, ⟨_, m'⟩, fr⟩)
  | some b =>
    obtain ⟨p1, p2, p3, p4, p5⟩ := hp b hb
    refine j_iconst (pc := 6) h dX8_plan_6 ic_m1 ?_
    refine j_icmp_ne (pc := 7) (tgt := 14) h dX8_plan_7 (by decide) (fun c7 => ?_) (fun c7 => absurd c7 (nI_m1 (a := filS σ t) (by omega)))
    refine j_aload0 (pc := 14) h dX8_plan_14 ?_
    refine j_getf (pc := 15) h dX8_plan_15 (m'.1) fl_X8_165 rfl ?_
    refine j_iret (pc := 18) h dX8_plan_18 (⟨by rw [p1]; rfl, rfl, ⟨_, m'⟩, fr⟩)
theorem k_X8_planned_no {x y z : Int32} (m : MW g ad σ τ C) (hI : Inv σ) (hx : inN x σ.nf = false ∨ rng y (nI 1) (nI 60) = false) : Cr l g yX8_planned cX8_planned 7 (some .int) 4 [.ref (ad 20), .int x, .int y, .int z] ad C (.int (-1)) := by
  obtain ⟨f20, f21, f22, f23, f24, f25, f26, f27, f28, f29, f30, f31, f32, f33, f34, f35, f36, f37, f38⟩ := id m
  obtain ⟨hf1, hf2, hfl, hnn, hnm, hno, hc1, hc2⟩ := id hI.le
  refine Ct_of [some (.ref (ad 20)), some (.int x), some (.int y), some (.int z), none, none, none] (by decide) rfl rfl (Nat.le_of_ble_eq_true rfl) rfl rfl (fun X hX h => ?_)
  subst hX
  refine j_aload0 (pc := 0) h dX8_planned_0 ?_
  refine j_iload1 (pc := 1) h dX8_planned_1 ?_
  refine j_iload2 (pc := 2) h dX8_planned_2 ?_
  refine j_callVr (pc := 3) h dX8_planned_3 (k_X8_plans_no m hI hx) mv_X8_171 (f20) rfl rfl (by decide) (Nat.le_of_ble_eq_true rfl) (Nat.le_of_ble_eq_true rfl) (Nat.le_of_ble_eq_true rfl) ?_
  refine j_istore4 (pc := 6) h dX8_planned_6 rfl ?_
  refine j_iload3 (pc := 8) h dX8_planned_8 ?_
  refine j_istore5 (pc := 9) h dX8_planned_9 rfl ?_
  refine j_iconst (pc := 11) h dX8_planned_11 ic_0 ?_
  refine j_istore6 (pc := 12) h dX8_planned_12 rfl ?_
  refine j_iload6 (pc := 14) h dX8_planned_14 ?_
  refine j_iload4 (pc := 16) h dX8_planned_16 ?_
  refine j_icmp_ge (pc := 18) (tgt := 62) h dX8_planned_18 (by decide) (fun c18 => ?_) (fun c18 => absurd (by decide) c18)
  refine j_iconst (pc := 62) h dX8_planned_62 ic_m1 ?_
  refine j_iretr (pc := 63) h dX8_planned_63 (rfl)
theorem scm_no {p : Nat → Bool} {F : Nat → Nat} {x : Int32} {i m : Nat} (h : p i = false) : scm p F x i (m + 1) = scm p F x (i + 1) m := by
  rw [scm, if_neg]; intro q; exact absurd (h.symm.trans q.1) (by decide)
theorem scm_nx {p : Nat → Bool} {F : Nat → Nat} {x : Int32} {i m : Nat} (h : ¬ nI (cnt p i) = x) : scm p F x i (m + 1) = scm p F x (i + 1) m := by
  rw [scm, if_neg]; intro q; exact h q.2
theorem scm_hit {p : Nat → Bool} {F : Nat → Nat} {x : Int32} {i m : Nat} (h : p i = true) (h2 : nI (cnt p i) = x) : scm p F x i (m + 1) = nI (F i) := by
  rw [scm, if_pos ⟨h, h2⟩]
theorem scm_neg {p : Nat → Bool} {F : Nat → Nat} {x : Int32} (h : x < 0) : ∀ {m i : Nat}, i + m < 2 ^ 31 → scm p F x i m = -1
  | 0, _, _ => rfl
  | m + 1, i, hi => by
    rw [scm_nx, scm_neg h (by omega)]
    intro q
    rw [← q] at h
    exact nI_pos (by have := cnt_le p i; omega) h
theorem k_X8_planned {t n : Nat} {z : Int32} (m : MW g ad σ τ C) (hI : Inv σ) (ht : t < σ.nf) (h1 : 1 ≤ n) (hn : n ≤ 60) : Ct l g yX8_planned cX8_planned 7 (some .int) 4 0 0 [.ref (ad 20), .int (nI t), .int (nI n), .int z] ad C (PMo g ad C (.int (pdS σ t n z)) (σ)) := by
  obtain ⟨f20, f21, f22, f23, f24, f25, f26, f27, f28, f29, f30, f31, f32, f33, f34, f35, f36, f37, f38⟩ := id m
  obtain ⟨hf1, hf2, hfl, hnn, hnm, hno, hc1, hc2⟩ := id hI.le
  refine Ct_of [some (.ref (ad 20)), some (.int (nI t)), some (.int (nI n)), some (.int z), none, none, none] (by decide) rfl rfl (Nat.le_of_ble_eq_true rfl) rfl rfl (fun X hX h => ?_)
  subst hX
  refine j_aload0 (pc := 0) h dX8_planned_0 ?_
  refine j_iload1 (pc := 1) h dX8_planned_1 ?_
  refine j_iload2 (pc := 2) h dX8_planned_2 ?_
  refine j_callV (pc := 3) h dX8_planned_3 (k_X8_plans m hI ht h1 hn) mv_X8_171 (f20) rfl rfl (by decide) (Nat.le_of_ble_eq_true rfl) (Nat.le_of_ble_eq_true rfl) (Nat.le_of_ble_eq_true rfl) (fun v3 ad3 C3 hp3 => ?_)
  obtain ⟨rfl, e, fr, τ', m', hp⟩ := hp3; subst ad3
  cases hb : plBt σ t n with
  | none =>
    have hv : pdS σ t n z = -1 := by unfold pdS; rw [hb]
    rw [hv]
    refine j_istore4 (pc := 6) h dX8_planned_6 rfl ?_
    refine j_iload3 (pc := 8) h dX8_planned_8 ?_
    refine j_istore5 (pc := 9) h dX8_planned_9 rfl ?_
    refine j_iconst (pc := 11) h dX8_planned_11 ic_0 ?_
    refine j_istore6 (pc := 12) h dX8_planned_12 rfl ?_
    refine j_iload6 (pc := 14) h dX8_planned_14 ?_
    refine j_iload4 (pc := 16) h dX8_planned_16 ?_
    refine j_icmp_ge (pc := 18) (tgt := 62) h dX8_planned_18 (by decide) (fun c18 => ?_) (fun c18 => absurd (show (-1 : Int32) ≤ nI 0 from by decide) c18)
    refine j_iconst (pc := 62) h dX8_planned_62 ic_m1 ?_
    refine j_iret (pc := 63) h dX8_planned_63 (⟨rfl, rfl, ⟨_, m'⟩, fr⟩)
  | some b =>
    obtain ⟨p1, p2, p3, p4, p5⟩ := hp b hb
    have hv : pdS σ t n z = scm (fun k => b.testBit k) (plF σ t) z 0 (filS σ t) := by unfold pdS; rw [hb]; exact pd_eq hI
    obtain ⟨f20, f21, f22, f23, f24, f25, f26, f27, f28, f29, f30, f31, f32, f33, f34, f35, f36, f37, f38⟩ := id m'
    have lp : ¬ z < 0 → ∀ r k, k + r = filS σ t → scm (fun k => b.testBit k) (plF σ t) z k r = pdS σ t n z → ∀ w : Nat, z = nI (cnt (fun k => b.testBit k) k + w) → cnt (fun k => b.testBit k) k + w < 2 ^ 31 → J X g 7 (QX X g 0 0 (PMo g ad C (.int (pdS σ t n z)) σ)) 0 0 ad C3 14 [some (.ref (ad 20)), some (.int (nI t)), some (.int (nI n)), some (.int z), some (.int (nI (filS σ t))), some (.int (nI w)), some (.int (nI k))] [] := by
      intro hz r
      induction r with
      | zero =>
        intro k hk hsc w hw hwl
        refine j_iload6 (pc := 14) h dX8_planned_14 ?_
        refine j_iload4 (pc := 16) h dX8_planned_16 ?_
        refine j_icmp_ge (pc := 18) (tgt := 62) h dX8_planned_18 (by decide) (fun c18 => ?_) (fun c18 => absurd (nI_le (by omega) (by omega)) c18)
        refine j_iconst (pc := 62) h dX8_planned_62 ic_m1 ?_
        refine j_iret (pc := 63) h dX8_planned_63 (⟨by rw [← hsc]; rfl, rfl, ⟨_, m'⟩, fr⟩)
      | succ r ih =>
        intro k hk hsc w hw hwl
        have hck := cnt_le (fun k => b.testBit k) k
        cases hbk : b.testBit k with
        | false =>
          refine j_iload6 (pc := 14) h dX8_planned_14 ?_
          refine j_iload4 (pc := 16) h dX8_planned_16 ?_
          refine j_icmp_ge (pc := 18) (tgt := 62) h dX8_planned_18 (by decide) (fun c18 => absurd c18 (nI_ge (by omega) (by omega))) (fun c18 => ?_)
          refine j_iload3 (pc := 21) h dX8_planned_21 ?_
          refine j_if_lt (pc := 22) (tgt := 62) h dX8_planned_22 (by decide) (fun c22 => absurd c22 (hz)) (fun c22 => ?_)
          refine j_aload0 (pc := 25) h dX8_planned_25 ?_
          refine j_getf (pc := 26) h dX8_planned_26 (f20) fl_X8_168 rfl ?_
          refine j_iload6 (pc := 29) h dX8_planned_29 ?_
          refine j_st (st' := [.int (nI k), .int (nI b)]) (by rw [p2]) ?_
          refine j_ishr (pc := 31) h dX8_planned_31 ?_
          refine j_iconst (pc := 32) h dX8_planned_32 ic_1 ?_
          refine j_iand (pc := 33) h dX8_planned_33 ?_
          refine j_topi (shI_f (by omega) (by omega) hbk) ?_
          refine j_if_ne (pc := 34) (tgt := 40) h dX8_planned_34 (by decide) (fun c34 => absurd (rfl) c34) (fun c34 => ?_)
          refine j_goto (pc := 37) (tgt := 56) h dX8_planned_37 (by decide) ?_
          refine j_iinc6 (pc := 56) h dX8_planned_56 rfl (inc_n _) ?_
          refine j_goto (pc := 59) (tgt := 14) h dX8_planned_59 (by decide) ?_
          exact ih (k + 1) (by omega) (by rw [← hsc, scm_no hbk]) w (by rw [cnt_f (p := fun k => b.testBit k) hbk]; exact hw) (by rw [cnt_f (p := fun k => b.testBit k) hbk]; exact hwl)
        | true =>
          cases w with
          | zero =>
            refine j_iload6 (pc := 14) h dX8_planned_14 ?_
            refine j_iload4 (pc := 16) h dX8_planned_16 ?_
            refine j_icmp_ge (pc := 18) (tgt := 62) h dX8_planned_18 (by decide) (fun c18 => absurd c18 (nI_ge (by omega) (by omega))) (fun c18 => ?_)
            refine j_iload3 (pc := 21) h dX8_planned_21 ?_
            refine j_if_lt (pc := 22) (tgt := 62) h dX8_planned_22 (by decide) (fun c22 => absurd c22 (hz)) (fun c22 => ?_)
            refine j_aload0 (pc := 25) h dX8_planned_25 ?_
            refine j_getf (pc := 26) h dX8_planned_26 (f20) fl_X8_168 rfl ?_
            refine j_iload6 (pc := 29) h dX8_planned_29 ?_
            refine j_st (st' := [.int (nI k), .int (nI b)]) (by rw [p2]) ?_
            refine j_ishr (pc := 31) h dX8_planned_31 ?_
            refine j_iconst (pc := 32) h dX8_planned_32 ic_1 ?_
            refine j_iand (pc := 33) h dX8_planned_33 ?_
            refine j_topi (shI_t (by omega) (by omega) hbk) ?_
            refine j_if_ne (pc := 34) (tgt := 40) h dX8_planned_34 (by decide) (fun c34 => ?_) (fun c34 => absurd c34 (by decide))
            refine j_iload5 (pc := 40) h dX8_planned_40 ?_
            refine j_if_ne (pc := 42) (tgt := 53) h dX8_planned_42 (by decide) (fun c42 => absurd (rfl) c42) (fun c42 => ?_)
            refine j_aload0 (pc := 45) h dX8_planned_45 ?_
            refine j_getf (pc := 46) h dX8_planned_46 (f20) fl_X8_67 rfl ?_
            refine j_iload6 (pc := 49) h dX8_planned_49 ?_
            refine j_iald (pc := 51) h dX8_planned_51 (f37) (by omega) (by decide) ?_
            refine j_iret (pc := 52) h dX8_planned_52 (⟨by rw [← hsc, scm_hit (p := fun k => b.testBit k) hbk (by rw [hw]; rfl), p5 k (by omega)], rfl, ⟨_, m'⟩, fr⟩)
          | succ w =>
            refine j_iload6 (pc := 14) h dX8_planned_14 ?_
            refine j_iload4 (pc := 16) h dX8_planned_16 ?_
            refine j_icmp_ge (pc := 18) (tgt := 62) h dX8_planned_18 (by decide) (fun c18 => absurd c18 (nI_ge (by omega) (by omega))) (fun c18 => ?_)
            refine j_iload3 (pc := 21) h dX8_planned_21 ?_
            refine j_if_lt (pc := 22) (tgt := 62) h dX8_planned_22 (by decide) (fun c22 => absurd c22 (hz)) (fun c22 => ?_)
            refine j_aload0 (pc := 25) h dX8_planned_25 ?_
            refine j_getf (pc := 26) h dX8_planned_26 (f20) fl_X8_168 rfl ?_
            refine j_iload6 (pc := 29) h dX8_planned_29 ?_
            refine j_st (st' := [.int (nI k), .int (nI b)]) (by rw [p2]) ?_
            refine j_ishr (pc := 31) h dX8_planned_31 ?_
            refine j_iconst (pc := 32) h dX8_planned_32 ic_1 ?_
            refine j_iand (pc := 33) h dX8_planned_33 ?_
            refine j_topi (shI_t (by omega) (by omega) hbk) ?_
            refine j_if_ne (pc := 34) (tgt := 40) h dX8_planned_34 (by decide) (fun c34 => ?_) (fun c34 => absurd c34 (by decide))
            refine j_iload5 (pc := 40) h dX8_planned_40 ?_
            refine j_if_ne (pc := 42) (tgt := 53) h dX8_planned_42 (by decide) (fun c42 => ?_) (fun c42 => absurd c42 (nI_ne0 (by omega) (by omega)))
            refine j_iinc5 (pc := 53) h dX8_planned_53 rfl (dec_n w) ?_
            refine j_iinc6 (pc := 56) h dX8_planned_56 rfl (inc_n _) ?_
            refine j_goto (pc := 59) (tgt := 14) h dX8_planned_59 (by decide) ?_
            exact ih (k + 1) (by omega) (by rw [← hsc, scm_nx (by rw [hw]; intro q; exact absurd (nI_inj q (by omega) (by omega)) (by omega))]) w (by rw [cnt_t (p := fun k => b.testBit k) hbk, hw]; congr 1; omega) (by rw [cnt_t (p := fun k => b.testBit k) hbk]; omega)
    by_cases hz : z < 0
    · have hv2 : pdS σ t n z = -1 := by rw [hv]; exact scm_neg hz (by omega)
      rcases Nat.eq_zero_or_pos (filS σ t) with h0 | h0
      · refine j_istore4 (pc := 6) h dX8_planned_6 rfl ?_
        refine j_iload3 (pc := 8) h dX8_planned_8 ?_
        refine j_istore5 (pc := 9) h dX8_planned_9 rfl ?_
        refine j_iconst (pc := 11) h dX8_planned_11 ic_0 ?_
        refine j_istore6 (pc := 12) h dX8_planned_12 rfl ?_
        refine j_iload6 (pc := 14) h dX8_planned_14 ?_
        refine j_iload4 (pc := 16) h dX8_planned_16 ?_
        refine j_icmp_ge (pc := 18) (tgt := 62) h dX8_planned_18 (by decide) (fun c18 => ?_) (fun c18 => absurd (nI_le (a := filS σ t) (b := 0) (by omega) (by omega)) c18)
        refine j_iconst (pc := 62) h dX8_planned_62 ic_m1 ?_
        refine j_iret (pc := 63) h dX8_planned_63 (⟨by rw [hv2], rfl, ⟨_, m'⟩, fr⟩)
      · refine j_istore4 (pc := 6) h dX8_planned_6 rfl ?_
        refine j_iload3 (pc := 8) h dX8_planned_8 ?_
        refine j_istore5 (pc := 9) h dX8_planned_9 rfl ?_
        refine j_iconst (pc := 11) h dX8_planned_11 ic_0 ?_
        refine j_istore6 (pc := 12) h dX8_planned_12 rfl ?_
        refine j_iload6 (pc := 14) h dX8_planned_14 ?_
        refine j_iload4 (pc := 16) h dX8_planned_16 ?_
        refine j_icmp_ge (pc := 18) (tgt := 62) h dX8_planned_18 (by decide) (fun c18 => absurd c18 (nI_ge (a := 0) (b := filS σ t) (by omega) (by omega))) (fun c18 => ?_)
        refine j_iload3 (pc := 21) h dX8_planned_21 ?_
        refine j_if_lt (pc := 22) (tgt := 62) h dX8_planned_22 (by decide) (fun c22 => ?_) (fun c22 => absurd (hz) c22)
        refine j_iconst (pc := 62) h dX8_planned_62 ic_m1 ?_
        refine j_iret (pc := 63) h dX8_planned_63 (⟨by rw [hv2], rfl, ⟨_, m'⟩, fr⟩)
    · obtain ⟨w, hw1, hw2⟩ := nI_of hz
      refine j_istore4 (pc := 6) h dX8_planned_6 rfl ?_
      refine j_iload3 (pc := 8) h dX8_planned_8 ?_
      refine j_istore5 (pc := 9) h dX8_planned_9 rfl ?_
      refine j_iconst (pc := 11) h dX8_planned_11 ic_0 ?_
      refine j_istore6 (pc := 12) h dX8_planned_12 rfl ?_
      have q := lp hz (filS σ t) 0 (by omega) hv.symm w (by simpa [cnt] using hw2) (by simpa [cnt] using hw1)
      rw [← hw2] at q
      exact q
end PM

