/-! The law: its script, its steps -/
def Sc (X : CX) (g : GG) (b N : Nat) (xv : Nat → Int32) : Prop := va_X b N xv (xs X) (xs X).heap ∧ g.1 = (xs X).heap.size ∧ b < (xs X).heap.size ∧ N ≤ 2560
section LR
variable {X : CX} {g : GG} {own nm : String} {cc : ByteArray} {nL d RC RS : Nat} {ret : Option FieldType} {Q : State → Prop} {k n : Nat} {ad : AD} {C : CC} {L : List (Option Value)} {st : List Value} {b N : Nat} {xv : Nat → Int32}
theorem j_sld {pc i : Nat} (h : Cx X g own nm cc nL d RC RS ret) (hs : Sc X g b N xv) (hd : decode cc pc = .ok (.iaload, 1)) (hi : i < N) (kk : J X g nL Q k n ad C (pc + 1) L (.int (xv i) :: st)) : J X g nL Q k n ad C pc L (.int (nI i) :: .ref b :: st) := by
  intro H locs ls hM hS hl hL
  obtain ⟨s1, s2, s3, s4⟩ := hs
  refine va_sld h.1 h.2.1 s1 s3 (show ¬ gA g b from by unfold gA; omega) hS (nI_in hi (by omega)) hd ?_
  rw [nI_cl (by omega)]
  exact kk H locs ls hM hS hl hL
theorem j_slen {pc : Nat} (h : Cx X g own nm cc nL d RC RS ret) (hs : Sc X g b N xv) (hd : decode cc pc = .ok (.arraylength, 1)) (kk : J X g nL Q k n ad C (pc + 1) L (.int (nI N) :: st)) : J X g nL Q k n ad C pc L (.ref b :: st) := by
  intro H locs ls hM hS hl hL
  obtain ⟨s1, s2, s3, s4⟩ := hs
  exact va_slen h.1 h.2.1 s1 s3 (show ¬ gA g b from by unfold gA; omega) hS hd (kk H locs ls hM hS hl hL)
end LR
theorem ne_no {C : CC} {j : Nat} {e : va_E} (h : C j = some e) : C j ≠ none := by rw [h]; exact Option.some_ne_none _
theorem MW_mv {g : GG} {ad ad' : AD} {σ : Sg} {τ : Tm} {C C' : CC} (m : MW g ad σ τ C) (hC : ∀ j, 20 ≤ j → j < 39 → C' j = C j) (ha : ∀ j, C j ≠ none → ad' j = ad j) : MW g ad' σ τ C' := by
  obtain ⟨f20, f21, f22, f23, f24, f25, f26, f27, f28, f29, f30, f31, f32, f33, f34, f35, f36, f37, f38⟩ := m
  refine ⟨(hC 20 (by decide) (by decide)).trans (f20.trans ?_), (hC 21 (by decide) (by decide)).trans f21, (hC 22 (by decide) (by decide)).trans f22, (hC 23 (by decide) (by decide)).trans f23, (hC 24 (by decide) (by decide)).trans f24, (hC 25 (by decide) (by decide)).trans f25, (hC 26 (by decide) (by decide)).trans f26, (hC 27 (by decide) (by decide)).trans f27, (hC 28 (by decide) (by decide)).trans f28, (hC 29 (by decide) (by decide)).trans f29, (hC 30 (by decide) (by decide)).trans f30, (hC 31 (by decide) (by decide)).trans f31, (hC 32 (by decide) (by decide)).trans f32, (hC 33 (by decide) (by decide)).trans f33, (hC 34 (by decide) (by decide)).trans f34, (hC 35 (by decide) (by decide)).trans f35, (hC 36 (by decide) (by decide)).trans f36, (hC 37 (by decide) (by decide)).trans f37, (hC 38 (by decide) (by decide)).trans f38⟩
  unfold oMo
  rw [ha 21 (ne_no f21), ha 22 (ne_no f22), ha 23 (ne_no f23), ha 24 (ne_no f24), ha 25 (ne_no f25), ha 26 (ne_no f26), ha 27 (ne_no f27), ha 28 (ne_no f28), ha 29 (ne_no f29), ha 30 (ne_no f30), ha 31 (ne_no f31), ha 32 (ne_no f32), ha 33 (ne_no f33), ha 34 (ne_no f34), ha 35 (ne_no f35), ha 36 (ne_no f36), ha 37 (ne_no f37), ha 38 (ne_no f38)]
theorem CW_mv {g : GG} {ad ad' : AD} {σ : Sg} {ρ : Rm} {C C' : CC} (w : CW g ad σ ρ C) (h : ∀ j, j < 20 ∨ 39 ≤ j → ad' j = ad j ∧ C' j = C j) : CW g ad' σ ρ C' := by
  have c : ∀ j, j < 20 ∨ 39 ≤ j → C' j = C j := fun j hj => (h j hj).2
  have a : ∀ j, j < 20 ∨ 39 ≤ j → ad' j = ad j := fun j hj => (h j hj).1
  obtain ⟨f0, f1, f2, f3, f4, f5, f6, f7, f8, f9, f10, f11, f12, f13, f14, f15, f16, f17, f18, f19, hal, hfn, fp, fq, ffr⟩ := w
  refine ⟨(c 0 (by decide)).trans (f0.trans ?_), (c 1 (by decide)).trans (f1.trans ?_), (c 2 (by decide)).trans f2, (c 3 (by decide)).trans f3, (c 4 (by decide)).trans f4, (c 5 (by decide)).trans (f5.trans ?_), (c 6 (by decide)).trans f6, (c 7 (by decide)).trans (f7.trans ?_), (c 8 (by decide)).trans f8, (c 9 (by decide)).trans f9, (c 10 (by decide)).trans (f10.trans ?_), (c 11 (by decide)).trans f11, (c 12 (by decide)).trans f12, (c 13 (by decide)).trans (f13.trans ?_), (c 14 (by decide)).trans f14, (c 15 (by decide)).trans f15, (c 16 (by decide)).trans (f16.trans ?_), (c 17 (by decide)).trans f17, (c 18 (by decide)).trans f18, (c 19 (by decide)).trans f19, fun i hi => ?_, hfn, fun i hi => ?_, fun i hi => (fq i hi).imp (fun pl q => ⟨(c _ (by omega)).trans q.1, q.2⟩), fun j hj => (c j (by omega)).trans (ffr j hj)⟩
  · unfold oRg; rw [a 1 (by decide), a 5 (by decide), a 7 (by decide), a 10 (by decide), a 13 (by decide), a 16 (by decide)]
  · unfold oFo; rw [a 2 (by decide), a 3 (by decide), a 4 (by decide)]
  · unfold oFi; rw [a 6 (by decide)]
  · unfold oNa; rw [a 8 (by decide), a 9 (by decide)]
  · unfold oSn; rw [a 11 (by decide), a 12 (by decide)]
  · unfold oMa; rw [a 14 (by decide), a 15 (by decide)]
  · unfold oPl; rw [a 17 (by decide), a 18 (by decide), a 19 (by decide)]
  · rw [hal i hi, a (39 + 2 * i) (by omega)]
  · rw [c (39 + 2 * i) (by omega), fp i hi]; unfold oSt; rw [a (39 + 2 * i + 1) (by omega)]
/-- the law goes on -/
def Nx (X : CX) (g : GG) (Q : State → Prop) (b i k n : Nat) : Prop := ∀ (ad : AD) (C : CC) (σ : Sg) (ρ : Rm) (τ : Tm), CW g ad σ ρ C → MW g ad σ τ C → Inv σ → InvM σ → J X g 4 Q (k + 2) (n + 66) ad C 1087 [some (.ref b), some (.ref (ad 0)), some (.ref (ad 20)), some (.int (nI i))] []
section LS
variable {X : CX} {g : GG} {nm : String} {ret : Option FieldType} {Q : State → Prop} {k n b N i : Nat} {xv : Nat → Int32} {ad : AD} {C : CC} {σ : Sg} {ρ : Rm} {τ : Tm}
theorem s_go (h : Cx X g RL nm cL_law 4 24 600000 7302249 ret) (hs : Sc X g b N xv) (hi : i + 5 ≤ N) (w : CW g ad σ ρ C) (m : MW g ad σ τ C) (hI : Inv σ) (hM : InvM σ) (hk : k + 2 ≤ 600000) (hn : n + 66 ≤ 7302249) (nx : Nx X g Q b i k n) : J X g 4 Q k n ad C 164 [some (.ref b), some (.ref (ad 0)), some (.ref (ad 20)), some (.int (nI i))] [] := by
  obtain ⟨v, σ', mc, ms, hmc, hms, hI', hM', hc, hr⟩ := p_go (l := xl X) (g := g) (x := xv (i + 1)) hI hM
  refine j_aload1 (pc := 164) h dL_law_164 ?_
  refine j_aload0 (pc := 165) h dL_law_165 ?_
  refine j_iload3 (pc := 166) h dL_law_166 ?_
  refine j_iconst (pc := 167) h dL_law_167 ic_1 ?_
  refine j_iaddN (pc := 168) h dL_law_168 ?_
  refine j_sld (pc := 169) h hs dL_law_169 (by omega) ?_
  refine j_callV (pc := 170) h dL_law_170 (hc w) mv_L_13 (w.1) rfl rfl (by decide) (Nat.le_of_ble_eq_true rfl) (by omega) (by omega) (fun v170 ad170 C170 hp170 => ?_)
  obtain ⟨rfl, ⟨ρ', w'⟩, hfr, had⟩ := hp170
  have e0 : ad170 0 = ad 0 := had 0 (ne_no w.1)
  have e20 : ad170 20 = ad 20 := had 20 (ne_no m.1)
  have m' := MW_mv m hfr had
  refine j_L (L' := [some (.ref b), some (.ref (ad170 0)), some (.ref (ad170 20)), some (.int (nI i))]) (by rw [e0, e20]) ?_
  refine j_aload2 (pc := 173) h dL_law_173 ?_
  refine j_aload0 (pc := 174) h dL_law_174 ?_
  refine j_iload3 (pc := 175) h dL_law_175 ?_
  refine j_iconst (pc := 176) h dL_law_176 ic_1 ?_
  refine j_iaddN (pc := 177) h dL_law_177 ?_
  refine j_sld (pc := 178) h hs dL_law_178 (by omega) ?_
  refine j_callV (pc := 179) h dL_law_179 (hr m') mv_L_17 (m'.1) rfl rfl (by decide) (Nat.le_of_ble_eq_true rfl) (by omega) (by omega) (fun v179 ad179 C179 hp179 => ?_)
  obtain ⟨rfl, e, ⟨τ', m''⟩, hfr2⟩ := hp179; subst e
  refine j_icmp_eq (pc := 182) (tgt := 1087) h dL_law_182 (by decide) (fun c182 => ?_) (fun c182 => absurd (rfl) c182)
  exact j_widen (by omega) (by omega) (nx _ _ σ' ρ' τ' (CW_mv w' (fun j hj => ⟨rfl, hfr2 j hj⟩)) m'' hI' hM')
theorem s_folder (h : Cx X g RL nm cL_law 4 24 600000 7302249 ret) (hs : Sc X g b N xv) (hi : i + 5 ≤ N) (w : CW g ad σ ρ C) (m : MW g ad σ τ C) (hI : Inv σ) (hM : InvM σ) (hk : k + 2 ≤ 600000) (hn : n + 66 ≤ 7302249) (nx : Nx X g Q b i k n) : J X g 4 Q k n ad C 187 [some (.ref b), some (.ref (ad 0)), some (.ref (ad 20)), some (.int (nI i))] [] := by
  by_cases h3 : xv (i + 3) = 0
  · skip
    obtain ⟨v, σ', mc, ms, hmc, hms, hI', hM', hc, hr⟩ := p_folder (l := xl X) (g := g) (x := xv (i + 1)) (y := xv (i + 2)) (b := false) hI hM
    refine j_aload1 (pc := 187) h dL_law_187 ?_
    refine j_aload0 (pc := 188) h dL_law_188 ?_
    refine j_iload3 (pc := 189) h dL_law_189 ?_
    refine j_iconst (pc := 190) h dL_law_190 ic_1 ?_
    refine j_iaddN (pc := 191) h dL_law_191 ?_
    refine j_sld (pc := 192) h hs dL_law_192 (by omega) ?_
    refine j_aload0 (pc := 193) h dL_law_193 ?_
    refine j_iload3 (pc := 194) h dL_law_194 ?_
    refine j_iconst (pc := 195) h dL_law_195 ic_2 ?_
    refine j_iaddN (pc := 196) h dL_law_196 ?_
    refine j_sld (pc := 197) h hs dL_law_197 (by omega) ?_
    refine j_aload0 (pc := 198) h dL_law_198 ?_
    refine j_iload3 (pc := 199) h dL_law_199 ?_
    refine j_iconst (pc := 200) h dL_law_200 ic_3 ?_
    refine j_iaddN (pc := 201) h dL_law_201 ?_
    refine j_sld (pc := 202) h hs dL_law_202 (by omega) ?_
    refine j_if_eq (pc := 203) (tgt := 210) h dL_law_203 (by decide) (fun c203 => ?_) (fun c203 => absurd (h3) c203)
    refine j_iconst (pc := 210) h dL_law_210 ic_0 ?_
    refine j_callV (pc := 211) h dL_law_211 (hc w) mv_L_18 (w.1) rfl rfl (by decide) (Nat.le_of_ble_eq_true rfl) (by omega) (by omega) (fun v211 ad211 C211 hp211 => ?_)
    obtain ⟨rfl, ⟨ρ', w'⟩, hfr, had⟩ := hp211
    have e0 : ad211 0 = ad 0 := had 0 (ne_no w.1)
    have e20 : ad211 20 = ad 20 := had 20 (ne_no m.1)
    have m' := MW_mv m hfr had
    refine j_L (L' := [some (.ref b), some (.ref (ad211 0)), some (.ref (ad211 20)), some (.int (nI i))]) (by rw [e0, e20]) ?_
    refine j_aload2 (pc := 214) h dL_law_214 ?_
    refine j_aload0 (pc := 215) h dL_law_215 ?_
    refine j_iload3 (pc := 216) h dL_law_216 ?_
    refine j_iconst (pc := 217) h dL_law_217 ic_1 ?_
    refine j_iaddN (pc := 218) h dL_law_218 ?_
    refine j_sld (pc := 219) h hs dL_law_219 (by omega) ?_
    refine j_aload0 (pc := 220) h dL_law_220 ?_
    refine j_iload3 (pc := 221) h dL_law_221 ?_
    refine j_iconst (pc := 222) h dL_law_222 ic_2 ?_
    refine j_iaddN (pc := 223) h dL_law_223 ?_
    refine j_sld (pc := 224) h hs dL_law_224 (by omega) ?_
    refine j_aload0 (pc := 225) h dL_law_225 ?_
    refine j_iload3 (pc := 226) h dL_law_226 ?_
    refine j_iconst (pc := 227) h dL_law_227 ic_3 ?_
    refine j_iaddN (pc := 228) h dL_law_228 ?_
    refine j_sld (pc := 229) h hs dL_law_229 (by omega) ?_
    refine j_if_eq (pc := 230) (tgt := 237) h dL_law_230 (by decide) (fun c230 => ?_) (fun c230 => absurd (h3) c230)
    refine j_iconst (pc := 237) h dL_law_237 ic_0 ?_
    refine j_callV (pc := 238) h dL_law_238 (hr m') mv_L_22 (m'.1) rfl rfl (by decide) (Nat.le_of_ble_eq_true rfl) (by omega) (by omega) (fun v238 ad238 C238 hp238 => ?_)
    obtain ⟨rfl, e, ⟨τ', m''⟩, hfr2⟩ := hp238; subst e
    refine j_icmp_eq (pc := 241) (tgt := 1087) h dL_law_241 (by decide) (fun c241 => ?_) (fun c241 => absurd (rfl) c241)
    exact j_widen (by omega) (by omega) (nx _ _ σ' ρ' τ' (CW_mv w' (fun j hj => ⟨rfl, hfr2 j hj⟩)) m'' hI' hM')
  · skip
    obtain ⟨v, σ', mc, ms, hmc, hms, hI', hM', hc, hr⟩ := p_folder (l := xl X) (g := g) (x := xv (i + 1)) (y := xv (i + 2)) (b := true) hI hM
    refine j_aload1 (pc := 187) h dL_law_187 ?_
    refine j_aload0 (pc := 188) h dL_law_188 ?_
    refine j_iload3 (pc := 189) h dL_law_189 ?_
    refine j_iconst (pc := 190) h dL_law_190 ic_1 ?_
    refine j_iaddN (pc := 191) h dL_law_191 ?_
    refine j_sld (pc := 192) h hs dL_law_192 (by omega) ?_
    refine j_aload0 (pc := 193) h dL_law_193 ?_
    refine j_iload3 (pc := 194) h dL_law_194 ?_
    refine j_iconst (pc := 195) h dL_law_195 ic_2 ?_
    refine j_iaddN (pc := 196) h dL_law_196 ?_
    refine j_sld (pc := 197) h hs dL_law_197 (by omega) ?_
    refine j_aload0 (pc := 198) h dL_law_198 ?_
    refine j_iload3 (pc := 199) h dL_law_199 ?_
    refine j_iconst (pc := 200) h dL_law_200 ic_3 ?_
    refine j_iaddN (pc := 201) h dL_law_201 ?_
    refine j_sld (pc := 202) h hs dL_law_202 (by omega) ?_
    refine j_if_eq (pc := 203) (tgt := 210) h dL_law_203 (by decide) (fun c203 => absurd c203 (h3)) (fun c203 => ?_)
    refine j_iconst (pc := 206) h dL_law_206 ic_1 ?_
    refine j_goto (pc := 207) (tgt := 211) h dL_law_207 (by decide) ?_
    refine j_callV (pc := 211) h dL_law_211 (hc w) mv_L_18 (w.1) rfl rfl (by decide) (Nat.le_of_ble_eq_true rfl) (by omega) (by omega) (fun v211 ad211 C211 hp211 => ?_)
    obtain ⟨rfl, ⟨ρ', w'⟩, hfr, had⟩ := hp211
    have e0 : ad211 0 = ad 0 := had 0 (ne_no w.1)
    have e20 : ad211 20 = ad 20 := had 20 (ne_no m.1)
    have m' := MW_mv m hfr had
    refine j_L (L' := [some (.ref b), some (.ref (ad211 0)), some (.ref (ad211 20)), some (.int (nI i))]) (by rw [e0, e20]) ?_
    refine j_aload2 (pc := 214) h dL_law_214 ?_
    refine j_aload0 (pc := 215) h dL_law_215 ?_
    refine j_iload3 (pc := 216) h dL_law_216 ?_
    refine j_iconst (pc := 217) h dL_law_217 ic_1 ?_
    refine j_iaddN (pc := 218) h dL_law_218 ?_
    refine j_sld (pc := 219) h hs dL_law_219 (by omega) ?_
    refine j_aload0 (pc := 220) h dL_law_220 ?_
    refine j_iload3 (pc := 221) h dL_law_221 ?_
    refine j_iconst (pc := 222) h dL_law_222 ic_2 ?_
    refine j_iaddN (pc := 223) h dL_law_223 ?_
    refine j_sld (pc := 224) h hs dL_law_224 (by omega) ?_
    refine j_aload0 (pc := 225) h dL_law_225 ?_
    refine j_iload3 (pc := 226) h dL_law_226 ?_
    refine j_iconst (pc := 227) h dL_law_227 ic_3 ?_
    refine j_iaddN (pc := 228) h dL_law_228 ?_
    refine j_sld (pc := 229) h hs dL_law_229 (by omega) ?_
    refine j_if_eq (pc := 230) (tgt := 237) h dL_law_230 (by decide) (fun c230 => absurd c230 (h3)) (fun c230 => ?_)
    refine j_iconst (pc := 233) h dL_law_233 ic_1 ?_
    refine j_goto (pc := 234) (tgt := 238) h dL_law_234 (by decide) ?_
    refine j_callV (pc := 238) h dL_law_238 (hr m') mv_L_22 (m'.1) rfl rfl (by decide) (Nat.le_of_ble_eq_true rfl) (by omega) (by omega) (fun v238 ad238 C238 hp238 => ?_)
    obtain ⟨rfl, e, ⟨τ', m''⟩, hfr2⟩ := hp238; subst e
    refine j_icmp_eq (pc := 241) (tgt := 1087) h dL_law_241 (by decide) (fun c241 => ?_) (fun c241 => absurd (rfl) c241)
    exact j_widen (by omega) (by omega) (nx _ _ σ' ρ' τ' (CW_mv w' (fun j hj => ⟨rfl, hfr2 j hj⟩)) m'' hI' hM')
theorem s_move (h : Cx X g RL nm cL_law 4 24 600000 7302249 ret) (hs : Sc X g b N xv) (hi : i + 5 ≤ N) (w : CW g ad σ ρ C) (m : MW g ad σ τ C) (hI : Inv σ) (hM : InvM σ) (hk : k + 2 ≤ 600000) (hn : n + 66 ≤ 7302249) (nx : Nx X g Q b i k n) : J X g 4 Q k n ad C 246 [some (.ref b), some (.ref (ad 0)), some (.ref (ad 20)), some (.int (nI i))] [] := by
  obtain ⟨v, σ', mc, ms, hmc, hms, hI', hM', hc, hr⟩ := p_move (l := xl X) (g := g) (x := xv (i + 1)) (y := xv (i + 2)) hI hM
  refine j_aload1 (pc := 246) h dL_law_246 ?_
  refine j_aload0 (pc := 247) h dL_law_247 ?_
  refine j_iload3 (pc := 248) h dL_law_248 ?_
  refine j_iconst (pc := 249) h dL_law_249 ic_1 ?_
  refine j_iaddN (pc := 250) h dL_law_250 ?_
  refine j_sld (pc := 251) h hs dL_law_251 (by omega) ?_
  refine j_aload0 (pc := 252) h dL_law_252 ?_
  refine j_iload3 (pc := 253) h dL_law_253 ?_
  refine j_iconst (pc := 254) h dL_law_254 ic_2 ?_
  refine j_iaddN (pc := 255) h dL_law_255 ?_
  refine j_sld (pc := 256) h hs dL_law_256 (by omega) ?_
  refine j_callV (pc := 257) h dL_law_257 (hc w) mv_L_23 (w.1) rfl rfl (by decide) (Nat.le_of_ble_eq_true rfl) (by omega) (by omega) (fun v257 ad257 C257 hp257 => ?_)
  obtain ⟨rfl, ⟨ρ', w'⟩, hfr, had⟩ := hp257
  have e0 : ad257 0 = ad 0 := had 0 (ne_no w.1)
  have e20 : ad257 20 = ad 20 := had 20 (ne_no m.1)
  have m' := MW_mv m hfr had
  refine j_L (L' := [some (.ref b), some (.ref (ad257 0)), some (.ref (ad257 20)), some (.int (nI i))]) (by rw [e0, e20]) ?_
  refine j_aload2 (pc := 260) h dL_law_260 ?_
  refine j_aload0 (pc := 261) h dL_law_261 ?_
  refine j_iload3 (pc := 262) h dL_law_262 ?_
  refine j_iconst (pc := 263) h dL_law_263 ic_1 ?_
  refine j_iaddN (pc := 264) h dL_law_264 ?_
  refine j_sld (pc := 265) h hs dL_law_265 (by omega) ?_
  refine j_aload0 (pc := 266) h dL_law_266 ?_
  refine j_iload3 (pc := 267) h dL_law_267 ?_
  refine j_iconst (pc := 268) h dL_law_268 ic_2 ?_
  refine j_iaddN (pc := 269) h dL_law_269 ?_
  refine j_sld (pc := 270) h hs dL_law_270 (by omega) ?_
  refine j_callV (pc := 271) h dL_law_271 (hr m') mv_L_27 (m'.1) rfl rfl (by decide) (Nat.le_of_ble_eq_true rfl) (by omega) (by omega) (fun v271 ad271 C271 hp271 => ?_)
  obtain ⟨rfl, e, ⟨τ', m''⟩, hfr2⟩ := hp271; subst e
  refine j_icmp_eq (pc := 274) (tgt := 1087) h dL_law_274 (by decide) (fun c274 => ?_) (fun c274 => absurd (rfl) c274)
  exact j_widen (by omega) (by omega) (nx _ _ σ' ρ' τ' (CW_mv w' (fun j hj => ⟨rfl, hfr2 j hj⟩)) m'' hI' hM')
theorem s_file (h : Cx X g RL nm cL_law 4 24 600000 7302249 ret) (hs : Sc X g b N xv) (hi : i + 5 ≤ N) (w : CW g ad σ ρ C) (m : MW g ad σ τ C) (hI : Inv σ) (hM : InvM σ) (hk : k + 2 ≤ 600000) (hn : n + 66 ≤ 7302249) (nx : Nx X g Q b i k n) : J X g 4 Q k n ad C 279 [some (.ref b), some (.ref (ad 0)), some (.ref (ad 20)), some (.int (nI i))] [] := by
  obtain ⟨v, σ', mc, ms, hmc, hms, hI', hM', hc, hr⟩ := p_file (l := xl X) (g := g) (x := xv (i + 1)) (y := xv (i + 2)) (z := xv (i + 3)) hI hM
  refine j_aload1 (pc := 279) h dL_law_279 ?_
  refine j_aload0 (pc := 280) h dL_law_280 ?_
  refine j_iload3 (pc := 281) h dL_law_281 ?_
  refine j_iconst (pc := 282) h dL_law_282 ic_1 ?_
  refine j_iaddN (pc := 283) h dL_law_283 ?_
  refine j_sld (pc := 284) h hs dL_law_284 (by omega) ?_
  refine j_aload0 (pc := 285) h dL_law_285 ?_
  refine j_iload3 (pc := 286) h dL_law_286 ?_
  refine j_iconst (pc := 287) h dL_law_287 ic_2 ?_
  refine j_iaddN (pc := 288) h dL_law_288 ?_
  refine j_sld (pc := 289) h hs dL_law_289 (by omega) ?_
  refine j_aload0 (pc := 290) h dL_law_290 ?_
  refine j_iload3 (pc := 291) h dL_law_291 ?_
  refine j_iconst (pc := 292) h dL_law_292 ic_3 ?_
  refine j_iaddN (pc := 293) h dL_law_293 ?_
  refine j_sld (pc := 294) h hs dL_law_294 (by omega) ?_
  refine j_callV (pc := 295) h dL_law_295 (hc w) mv_L_28 (w.1) rfl rfl (by decide) (Nat.le_of_ble_eq_true rfl) (by omega) (by omega) (fun v295 ad295 C295 hp295 => ?_)
  obtain ⟨rfl, ⟨ρ', w'⟩, hfr, had⟩ := hp295
  have e0 : ad295 0 = ad 0 := had 0 (ne_no w.1)
  have e20 : ad295 20 = ad 20 := had 20 (ne_no m.1)
  have m' := MW_mv m hfr had
  refine j_L (L' := [some (.ref b), some (.ref (ad295 0)), some (.ref (ad295 20)), some (.int (nI i))]) (by rw [e0, e20]) ?_
  refine j_aload2 (pc := 298) h dL_law_298 ?_
  refine j_aload0 (pc := 299) h dL_law_299 ?_
  refine j_iload3 (pc := 300) h dL_law_300 ?_
  refine j_iconst (pc := 301) h dL_law_301 ic_1 ?_
  refine j_iaddN (pc := 302) h dL_law_302 ?_
  refine j_sld (pc := 303) h hs dL_law_303 (by omega) ?_
  refine j_aload0 (pc := 304) h dL_law_304 ?_
  refine j_iload3 (pc := 305) h dL_law_305 ?_
  refine j_iconst (pc := 306) h dL_law_306 ic_2 ?_
  refine j_iaddN (pc := 307) h dL_law_307 ?_
  refine j_sld (pc := 308) h hs dL_law_308 (by omega) ?_
  refine j_aload0 (pc := 309) h dL_law_309 ?_
  refine j_iload3 (pc := 310) h dL_law_310 ?_
  refine j_iconst (pc := 311) h dL_law_311 ic_3 ?_
  refine j_iaddN (pc := 312) h dL_law_312 ?_
  refine j_sld (pc := 313) h hs dL_law_313 (by omega) ?_
  refine j_callV (pc := 314) h dL_law_314 (hr m') mv_L_32 (m'.1) rfl rfl (by decide) (Nat.le_of_ble_eq_true rfl) (by omega) (by omega) (fun v314 ad314 C314 hp314 => ?_)
  obtain ⟨rfl, e, ⟨τ', m''⟩, hfr2⟩ := hp314; subst e
  refine j_icmp_eq (pc := 317) (tgt := 1087) h dL_law_317 (by decide) (fun c317 => ?_) (fun c317 => absurd (rfl) c317)
  exact j_widen (by omega) (by omega) (nx _ _ σ' ρ' τ' (CW_mv w' (fun j hj => ⟨rfl, hfr2 j hj⟩)) m'' hI' hM')
theorem s_copy (h : Cx X g RL nm cL_law 4 24 600000 7302249 ret) (hs : Sc X g b N xv) (hi : i + 5 ≤ N) (w : CW g ad σ ρ C) (m : MW g ad σ τ C) (hI : Inv σ) (hM : InvM σ) (hk : k + 2 ≤ 600000) (hn : n + 66 ≤ 7302249) (nx : Nx X g Q b i k n) : J X g 4 Q k n ad C 322 [some (.ref b), some (.ref (ad 0)), some (.ref (ad 20)), some (.int (nI i))] [] := by
  obtain ⟨v, σ', mc, ms, hmc, hms, hI', hM', hc, hr⟩ := p_copy (l := xl X) (g := g) (x := xv (i + 1)) (y := xv (i + 2)) hI hM
  refine j_aload1 (pc := 322) h dL_law_322 ?_
  refine j_aload0 (pc := 323) h dL_law_323 ?_
  refine j_iload3 (pc := 324) h dL_law_324 ?_
  refine j_iconst (pc := 325) h dL_law_325 ic_1 ?_
  refine j_iaddN (pc := 326) h dL_law_326 ?_
  refine j_sld (pc := 327) h hs dL_law_327 (by omega) ?_
  refine j_aload0 (pc := 328) h dL_law_328 ?_
  refine j_iload3 (pc := 329) h dL_law_329 ?_
  refine j_iconst (pc := 330) h dL_law_330 ic_2 ?_
  refine j_iaddN (pc := 331) h dL_law_331 ?_
  refine j_sld (pc := 332) h hs dL_law_332 (by omega) ?_
  refine j_callV (pc := 333) h dL_law_333 (hc w) mv_L_33 (w.1) rfl rfl (by decide) (Nat.le_of_ble_eq_true rfl) (by omega) (by omega) (fun v333 ad333 C333 hp333 => ?_)
  obtain ⟨rfl, ⟨ρ', w'⟩, hfr, had⟩ := hp333
  have e0 : ad333 0 = ad 0 := had 0 (ne_no w.1)
  have e20 : ad333 20 = ad 20 := had 20 (ne_no m.1)
  have m' := MW_mv m hfr had
  refine j_L (L' := [some (.ref b), some (.ref (ad333 0)), some (.ref (ad333 20)), some (.int (nI i))]) (by rw [e0, e20]) ?_
  refine j_aload2 (pc := 336) h dL_law_336 ?_
  refine j_aload0 (pc := 337) h dL_law_337 ?_
  refine j_iload3 (pc := 338) h dL_law_338 ?_
  refine j_iconst (pc := 339) h dL_law_339 ic_1 ?_
  refine j_iaddN (pc := 340) h dL_law_340 ?_
  refine j_sld (pc := 341) h hs dL_law_341 (by omega) ?_
  refine j_aload0 (pc := 342) h dL_law_342 ?_
  refine j_iload3 (pc := 343) h dL_law_343 ?_
  refine j_iconst (pc := 344) h dL_law_344 ic_2 ?_
  refine j_iaddN (pc := 345) h dL_law_345 ?_
  refine j_sld (pc := 346) h hs dL_law_346 (by omega) ?_
  refine j_callV (pc := 347) h dL_law_347 (hr m') mv_L_37 (m'.1) rfl rfl (by decide) (Nat.le_of_ble_eq_true rfl) (by omega) (by omega) (fun v347 ad347 C347 hp347 => ?_)
  obtain ⟨rfl, e, ⟨τ', m''⟩, hfr2⟩ := hp347; subst e
  refine j_icmp_eq (pc := 350) (tgt := 1087) h dL_law_350 (by decide) (fun c350 => ?_) (fun c350 => absurd (rfl) c350)
  exact j_widen (by omega) (by omega) (nx _ _ σ' ρ' τ' (CW_mv w' (fun j hj => ⟨rfl, hfr2 j hj⟩)) m'' hI' hM')
theorem s_link (h : Cx X g RL nm cL_law 4 24 600000 7302249 ret) (hs : Sc X g b N xv) (hi : i + 5 ≤ N) (w : CW g ad σ ρ C) (m : MW g ad σ τ C) (hI : Inv σ) (hM : InvM σ) (hk : k + 2 ≤ 600000) (hn : n + 66 ≤ 7302249) (nx : Nx X g Q b i k n) : J X g 4 Q k n ad C 355 [some (.ref b), some (.ref (ad 0)), some (.ref (ad 20)), some (.int (nI i))] [] := by
  obtain ⟨v, σ', mc, ms, hmc, hms, hI', hM', hc, hr⟩ := p_link (l := xl X) (g := g) (x := xv (i + 1)) (y := xv (i + 2)) hI hM
  refine j_aload1 (pc := 355) h dL_law_355 ?_
  refine j_aload0 (pc := 356) h dL_law_356 ?_
  refine j_iload3 (pc := 357) h dL_law_357 ?_
  refine j_iconst (pc := 358) h dL_law_358 ic_1 ?_
  refine j_iaddN (pc := 359) h dL_law_359 ?_
  refine j_sld (pc := 360) h hs dL_law_360 (by omega) ?_
  refine j_aload0 (pc := 361) h dL_law_361 ?_
  refine j_iload3 (pc := 362) h dL_law_362 ?_
  refine j_iconst (pc := 363) h dL_law_363 ic_2 ?_
  refine j_iaddN (pc := 364) h dL_law_364 ?_
  refine j_sld (pc := 365) h hs dL_law_365 (by omega) ?_
  refine j_callV (pc := 366) h dL_law_366 (hc w) mv_L_38 (w.1) rfl rfl (by decide) (Nat.le_of_ble_eq_true rfl) (by omega) (by omega) (fun v366 ad366 C366 hp366 => ?_)
  obtain ⟨rfl, ⟨ρ', w'⟩, hfr, had⟩ := hp366
  have e0 : ad366 0 = ad 0 := had 0 (ne_no w.1)
  have e20 : ad366 20 = ad 20 := had 20 (ne_no m.1)
  have m' := MW_mv m hfr had
  refine j_L (L' := [some (.ref b), some (.ref (ad366 0)), some (.ref (ad366 20)), some (.int (nI i))]) (by rw [e0, e20]) ?_
  refine j_aload2 (pc := 369) h dL_law_369 ?_
  refine j_aload0 (pc := 370) h dL_law_370 ?_
  refine j_iload3 (pc := 371) h dL_law_371 ?_
  refine j_iconst (pc := 372) h dL_law_372 ic_1 ?_
  refine j_iaddN (pc := 373) h dL_law_373 ?_
  refine j_sld (pc := 374) h hs dL_law_374 (by omega) ?_
  refine j_aload0 (pc := 375) h dL_law_375 ?_
  refine j_iload3 (pc := 376) h dL_law_376 ?_
  refine j_iconst (pc := 377) h dL_law_377 ic_2 ?_
  refine j_iaddN (pc := 378) h dL_law_378 ?_
  refine j_sld (pc := 379) h hs dL_law_379 (by omega) ?_
  refine j_callV (pc := 380) h dL_law_380 (hr m') mv_L_41 (m'.1) rfl rfl (by decide) (Nat.le_of_ble_eq_true rfl) (by omega) (by omega) (fun v380 ad380 C380 hp380 => ?_)
  obtain ⟨rfl, e, ⟨τ', m''⟩, hfr2⟩ := hp380; subst e
  refine j_icmp_eq (pc := 383) (tgt := 1087) h dL_law_383 (by decide) (fun c383 => ?_) (fun c383 => absurd (rfl) c383)
  exact j_widen (by omega) (by omega) (nx _ _ σ' ρ' τ' (CW_mv w' (fun j hj => ⟨rfl, hfr2 j hj⟩)) m'' hI' hM')
theorem s_unlink (h : Cx X g RL nm cL_law 4 24 600000 7302249 ret) (hs : Sc X g b N xv) (hi : i + 5 ≤ N) (w : CW g ad σ ρ C) (m : MW g ad σ τ C) (hI : Inv σ) (hM : InvM σ) (hk : k + 2 ≤ 600000) (hn : n + 66 ≤ 7302249) (nx : Nx X g Q b i k n) : J X g 4 Q k n ad C 388 [some (.ref b), some (.ref (ad 0)), some (.ref (ad 20)), some (.int (nI i))] [] := by
  obtain ⟨v, σ', mc, ms, hmc, hms, hI', hM', hc, hr⟩ := p_unlink (l := xl X) (g := g) (x := xv (i + 1)) hI hM
  refine j_aload1 (pc := 388) h dL_law_388 ?_
  refine j_aload0 (pc := 389) h dL_law_389 ?_
  refine j_iload3 (pc := 390) h dL_law_390 ?_
  refine j_iconst (pc := 391) h dL_law_391 ic_1 ?_
  refine j_iaddN (pc := 392) h dL_law_392 ?_
  refine j_sld (pc := 393) h hs dL_law_393 (by omega) ?_
  refine j_callV (pc := 394) h dL_law_394 (hc w) mv_L_42 (w.1) rfl rfl (by decide) (Nat.le_of_ble_eq_true rfl) (by omega) (by omega) (fun v394 ad394 C394 hp394 => ?_)
  obtain ⟨rfl, ⟨ρ', w'⟩, hfr, had⟩ := hp394
  have e0 : ad394 0 = ad 0 := had 0 (ne_no w.1)
  have e20 : ad394 20 = ad 20 := had 20 (ne_no m.1)
  have m' := MW_mv m hfr had
  refine j_L (L' := [some (.ref b), some (.ref (ad394 0)), some (.ref (ad394 20)), some (.int (nI i))]) (by rw [e0, e20]) ?_
  refine j_aload2 (pc := 397) h dL_law_397 ?_
  refine j_aload0 (pc := 398) h dL_law_398 ?_
  refine j_iload3 (pc := 399) h dL_law_399 ?_
  refine j_iconst (pc := 400) h dL_law_400 ic_1 ?_
  refine j_iaddN (pc := 401) h dL_law_401 ?_
  refine j_sld (pc := 402) h hs dL_law_402 (by omega) ?_
  refine j_callV (pc := 403) h dL_law_403 (hr m') mv_L_46 (m'.1) rfl rfl (by decide) (Nat.le_of_ble_eq_true rfl) (by omega) (by omega) (fun v403 ad403 C403 hp403 => ?_)
  obtain ⟨rfl, e, ⟨τ', m''⟩, hfr2⟩ := hp403; subst e
  refine j_icmp_eq (pc := 406) (tgt := 1087) h dL_law_406 (by decide) (fun c406 => ?_) (fun c406 => absurd (rfl) c406)
  exact j_widen (by omega) (by omega) (nx _ _ σ' ρ' τ' (CW_mv w' (fun j hj => ⟨rfl, hfr2 j hj⟩)) m'' hI' hM')
theorem s_of (h : Cx X g RL nm cL_law 4 24 600000 7302249 ret) (hs : Sc X g b N xv) (hi : i + 5 ≤ N) (w : CW g ad σ ρ C) (m : MW g ad σ τ C) (hI : Inv σ) (hM : InvM σ) (hk : k + 2 ≤ 600000) (hn : n + 66 ≤ 7302249) (nx : Nx X g Q b i k n) : J X g 4 Q k n ad C 411 [some (.ref b), some (.ref (ad 0)), some (.ref (ad 20)), some (.int (nI i))] [] := by
  obtain ⟨v, σ', mc, ms, hmc, hms, hI', hM', hc, hr⟩ := p_of (l := xl X) (g := g) (x := xv (i + 1)) hI hM
  refine j_aload1 (pc := 411) h dL_law_411 ?_
  refine j_aload0 (pc := 412) h dL_law_412 ?_
  refine j_iload3 (pc := 413) h dL_law_413 ?_
  refine j_iconst (pc := 414) h dL_law_414 ic_1 ?_
  refine j_iaddN (pc := 415) h dL_law_415 ?_
  refine j_sld (pc := 416) h hs dL_law_416 (by omega) ?_
  refine j_callV (pc := 417) h dL_law_417 (hc w) mv_L_47 (w.1) rfl rfl (by decide) (Nat.le_of_ble_eq_true rfl) (by omega) (by omega) (fun v417 ad417 C417 hp417 => ?_)
  obtain ⟨rfl, ⟨ρ', w'⟩, hfr, had⟩ := hp417
  have e0 : ad417 0 = ad 0 := had 0 (ne_no w.1)
  have e20 : ad417 20 = ad 20 := had 20 (ne_no m.1)
  have m' := MW_mv m hfr had
  refine j_L (L' := [some (.ref b), some (.ref (ad417 0)), some (.ref (ad417 20)), some (.int (nI i))]) (by rw [e0, e20]) ?_
  refine j_aload2 (pc := 420) h dL_law_420 ?_
  refine j_aload0 (pc := 421) h dL_law_421 ?_
  refine j_iload3 (pc := 422) h dL_law_422 ?_
  refine j_iconst (pc := 423) h dL_law_423 ic_1 ?_
  refine j_iaddN (pc := 424) h dL_law_424 ?_
  refine j_sld (pc := 425) h hs dL_law_425 (by omega) ?_
  refine j_callV (pc := 426) h dL_law_426 (hr m') mv_L_50 (m'.1) rfl rfl (by decide) (Nat.le_of_ble_eq_true rfl) (by omega) (by omega) (fun v426 ad426 C426 hp426 => ?_)
  obtain ⟨rfl, e, ⟨τ', m''⟩, hfr2⟩ := hp426; subst e
  refine j_icmp_eq (pc := 429) (tgt := 1087) h dL_law_429 (by decide) (fun c429 => ?_) (fun c429 => absurd (rfl) c429)
  exact j_widen (by omega) (by omega) (nx _ _ σ' ρ' τ' (CW_mv w' (fun j hj => ⟨rfl, hfr2 j hj⟩)) m'' hI' hM')
theorem s_write (h : Cx X g RL nm cL_law 4 24 600000 7302249 ret) (hs : Sc X g b N xv) (hi : i + 5 ≤ N) (w : CW g ad σ ρ C) (m : MW g ad σ τ C) (hI : Inv σ) (hM : InvM σ) (hk : k + 2 ≤ 600000) (hn : n + 66 ≤ 7302249) (nx : Nx X g Q b i k n) : J X g 4 Q k n ad C 434 [some (.ref b), some (.ref (ad 0)), some (.ref (ad 20)), some (.int (nI i))] [] := by
  obtain ⟨v, σ', mc, ms, hmc, hms, hI', hM', hc, hr⟩ := p_write (l := xl X) (g := g) (x := xv (i + 1)) (y := xv (i + 2)) hI hM
  refine j_aload1 (pc := 434) h dL_law_434 ?_
  refine j_aload0 (pc := 435) h dL_law_435 ?_
  refine j_iload3 (pc := 436) h dL_law_436 ?_
  refine j_iconst (pc := 437) h dL_law_437 ic_1 ?_
  refine j_iaddN (pc := 438) h dL_law_438 ?_
  refine j_sld (pc := 439) h hs dL_law_439 (by omega) ?_
  refine j_aload0 (pc := 440) h dL_law_440 ?_
  refine j_iload3 (pc := 441) h dL_law_441 ?_
  refine j_iconst (pc := 442) h dL_law_442 ic_2 ?_
  refine j_iaddN (pc := 443) h dL_law_443 ?_
  refine j_sld (pc := 444) h hs dL_law_444 (by omega) ?_
  refine j_callV (pc := 445) h dL_law_445 (hc w) mv_L_51 (w.1) rfl rfl (by decide) (Nat.le_of_ble_eq_true rfl) (by omega) (by omega) (fun v445 ad445 C445 hp445 => ?_)
  obtain ⟨rfl, ⟨ρ', w'⟩, hfr, had⟩ := hp445
  have e0 : ad445 0 = ad 0 := had 0 (ne_no w.1)
  have e20 : ad445 20 = ad 20 := had 20 (ne_no m.1)
  have m' := MW_mv m hfr had
  refine j_L (L' := [some (.ref b), some (.ref (ad445 0)), some (.ref (ad445 20)), some (.int (nI i))]) (by rw [e0, e20]) ?_
  refine j_aload2 (pc := 448) h dL_law_448 ?_
  refine j_aload0 (pc := 449) h dL_law_449 ?_
  refine j_iload3 (pc := 450) h dL_law_450 ?_
  refine j_iconst (pc := 451) h dL_law_451 ic_1 ?_
  refine j_iaddN (pc := 452) h dL_law_452 ?_
  refine j_sld (pc := 453) h hs dL_law_453 (by omega) ?_
  refine j_aload0 (pc := 454) h dL_law_454 ?_
  refine j_iload3 (pc := 455) h dL_law_455 ?_
  refine j_iconst (pc := 456) h dL_law_456 ic_2 ?_
  refine j_iaddN (pc := 457) h dL_law_457 ?_
  refine j_sld (pc := 458) h hs dL_law_458 (by omega) ?_
  refine j_callV (pc := 459) h dL_law_459 (hr m') mv_L_54 (m'.1) rfl rfl (by decide) (Nat.le_of_ble_eq_true rfl) (by omega) (by omega) (fun v459 ad459 C459 hp459 => ?_)
  obtain ⟨rfl, e, ⟨τ', m''⟩, hfr2⟩ := hp459; subst e
  refine j_icmp_eq (pc := 462) (tgt := 1087) h dL_law_462 (by decide) (fun c462 => ?_) (fun c462 => absurd (rfl) c462)
  exact j_widen (by omega) (by omega) (nx _ _ σ' ρ' τ' (CW_mv w' (fun j hj => ⟨rfl, hfr2 j hj⟩)) m'' hI' hM')
theorem s_hole (h : Cx X g RL nm cL_law 4 24 600000 7302249 ret) (hs : Sc X g b N xv) (hi : i + 5 ≤ N) (w : CW g ad σ ρ C) (m : MW g ad σ τ C) (hI : Inv σ) (hM : InvM σ) (hk : k + 2 ≤ 600000) (hn : n + 66 ≤ 7302249) (nx : Nx X g Q b i k n) : J X g 4 Q k n ad C 467 [some (.ref b), some (.ref (ad 0)), some (.ref (ad 20)), some (.int (nI i))] [] := by
  obtain ⟨v, σ', mc, ms, hmc, hms, hI', hM', hc, hr⟩ := p_hole (l := xl X) (g := g) (x := xv (i + 1)) (y := xv (i + 2)) hI hM
  refine j_aload1 (pc := 467) h dL_law_467 ?_
  refine j_aload0 (pc := 468) h dL_law_468 ?_
  refine j_iload3 (pc := 469) h dL_law_469 ?_
  refine j_iconst (pc := 470) h dL_law_470 ic_1 ?_
  refine j_iaddN (pc := 471) h dL_law_471 ?_
  refine j_sld (pc := 472) h hs dL_law_472 (by omega) ?_
  refine j_aload0 (pc := 473) h dL_law_473 ?_
  refine j_iload3 (pc := 474) h dL_law_474 ?_
  refine j_iconst (pc := 475) h dL_law_475 ic_2 ?_
  refine j_iaddN (pc := 476) h dL_law_476 ?_
  refine j_sld (pc := 477) h hs dL_law_477 (by omega) ?_
  refine j_callV (pc := 478) h dL_law_478 (hc w) mv_L_55 (w.1) rfl rfl (by decide) (Nat.le_of_ble_eq_true rfl) (by omega) (by omega) (fun v478 ad478 C478 hp478 => ?_)
  obtain ⟨rfl, ⟨ρ', w'⟩, hfr, had⟩ := hp478
  have e0 : ad478 0 = ad 0 := had 0 (ne_no w.1)
  have e20 : ad478 20 = ad 20 := had 20 (ne_no m.1)
  have m' := MW_mv m hfr had
  refine j_L (L' := [some (.ref b), some (.ref (ad478 0)), some (.ref (ad478 20)), some (.int (nI i))]) (by rw [e0, e20]) ?_
  refine j_aload2 (pc := 481) h dL_law_481 ?_
  refine j_aload0 (pc := 482) h dL_law_482 ?_
  refine j_iload3 (pc := 483) h dL_law_483 ?_
  refine j_iconst (pc := 484) h dL_law_484 ic_1 ?_
  refine j_iaddN (pc := 485) h dL_law_485 ?_
  refine j_sld (pc := 486) h hs dL_law_486 (by omega) ?_
  refine j_aload0 (pc := 487) h dL_law_487 ?_
  refine j_iload3 (pc := 488) h dL_law_488 ?_
  refine j_iconst (pc := 489) h dL_law_489 ic_2 ?_
  refine j_iaddN (pc := 490) h dL_law_490 ?_
  refine j_sld (pc := 491) h hs dL_law_491 (by omega) ?_
  refine j_callV (pc := 492) h dL_law_492 (hr m') mv_L_58 (m'.1) rfl rfl (by decide) (Nat.le_of_ble_eq_true rfl) (by omega) (by omega) (fun v492 ad492 C492 hp492 => ?_)
  obtain ⟨rfl, e, ⟨τ', m''⟩, hfr2⟩ := hp492; subst e
  refine j_icmp_eq (pc := 495) (tgt := 1087) h dL_law_495 (by decide) (fun c495 => ?_) (fun c495 => absurd (rfl) c495)
  exact j_widen (by omega) (by omega) (nx _ _ σ' ρ' τ' (CW_mv w' (fun j hj => ⟨rfl, hfr2 j hj⟩)) m'' hI' hM')
theorem s_share (h : Cx X g RL nm cL_law 4 24 600000 7302249 ret) (hs : Sc X g b N xv) (hi : i + 5 ≤ N) (w : CW g ad σ ρ C) (m : MW g ad σ τ C) (hI : Inv σ) (hM : InvM σ) (hk : k + 2 ≤ 600000) (hn : n + 66 ≤ 7302249) (nx : Nx X g Q b i k n) : J X g 4 Q k n ad C 500 [some (.ref b), some (.ref (ad 0)), some (.ref (ad 20)), some (.int (nI i))] [] := by
  obtain ⟨v, σ', mc, ms, hmc, hms, hI', hM', hc, hr⟩ := p_share (l := xl X) (g := g) (x := xv (i + 1)) (y := xv (i + 2)) (z := xv (i + 3)) (u := xv (i + 4)) hI hM
  refine j_aload1 (pc := 500) h dL_law_500 ?_
  refine j_aload0 (pc := 501) h dL_law_501 ?_
  refine j_iload3 (pc := 502) h dL_law_502 ?_
  refine j_iconst (pc := 503) h dL_law_503 ic_1 ?_
  refine j_iaddN (pc := 504) h dL_law_504 ?_
  refine j_sld (pc := 505) h hs dL_law_505 (by omega) ?_
  refine j_aload0 (pc := 506) h dL_law_506 ?_
  refine j_iload3 (pc := 507) h dL_law_507 ?_
  refine j_iconst (pc := 508) h dL_law_508 ic_2 ?_
  refine j_iaddN (pc := 509) h dL_law_509 ?_
  refine j_sld (pc := 510) h hs dL_law_510 (by omega) ?_
  refine j_aload0 (pc := 511) h dL_law_511 ?_
  refine j_iload3 (pc := 512) h dL_law_512 ?_
  refine j_iconst (pc := 513) h dL_law_513 ic_3 ?_
  refine j_iaddN (pc := 514) h dL_law_514 ?_
  refine j_sld (pc := 515) h hs dL_law_515 (by omega) ?_
  refine j_aload0 (pc := 516) h dL_law_516 ?_
  refine j_iload3 (pc := 517) h dL_law_517 ?_
  refine j_iconst (pc := 518) h dL_law_518 ic_4 ?_
  refine j_iaddN (pc := 519) h dL_law_519 ?_
  refine j_sld (pc := 520) h hs dL_law_520 (by omega) ?_
  refine j_callV (pc := 521) h dL_law_521 (hc w) mv_L_59 (w.1) rfl rfl (by decide) (Nat.le_of_ble_eq_true rfl) (by omega) (by omega) (fun v521 ad521 C521 hp521 => ?_)
  obtain ⟨rfl, ⟨ρ', w'⟩, hfr, had⟩ := hp521
  have e0 : ad521 0 = ad 0 := had 0 (ne_no w.1)
  have e20 : ad521 20 = ad 20 := had 20 (ne_no m.1)
  have m' := MW_mv m hfr had
  refine j_L (L' := [some (.ref b), some (.ref (ad521 0)), some (.ref (ad521 20)), some (.int (nI i))]) (by rw [e0, e20]) ?_
  refine j_aload2 (pc := 524) h dL_law_524 ?_
  refine j_aload0 (pc := 525) h dL_law_525 ?_
  refine j_iload3 (pc := 526) h dL_law_526 ?_
  refine j_iconst (pc := 527) h dL_law_527 ic_1 ?_
  refine j_iaddN (pc := 528) h dL_law_528 ?_
  refine j_sld (pc := 529) h hs dL_law_529 (by omega) ?_
  refine j_aload0 (pc := 530) h dL_law_530 ?_
  refine j_iload3 (pc := 531) h dL_law_531 ?_
  refine j_iconst (pc := 532) h dL_law_532 ic_2 ?_
  refine j_iaddN (pc := 533) h dL_law_533 ?_
  refine j_sld (pc := 534) h hs dL_law_534 (by omega) ?_
  refine j_aload0 (pc := 535) h dL_law_535 ?_
  refine j_iload3 (pc := 536) h dL_law_536 ?_
  refine j_iconst (pc := 537) h dL_law_537 ic_3 ?_
  refine j_iaddN (pc := 538) h dL_law_538 ?_
  refine j_sld (pc := 539) h hs dL_law_539 (by omega) ?_
  refine j_aload0 (pc := 540) h dL_law_540 ?_
  refine j_iload3 (pc := 541) h dL_law_541 ?_
  refine j_iconst (pc := 542) h dL_law_542 ic_4 ?_
  refine j_iaddN (pc := 543) h dL_law_543 ?_
  refine j_sld (pc := 544) h hs dL_law_544 (by omega) ?_
  refine j_callV (pc := 545) h dL_law_545 (hr m') mv_L_63 (m'.1) rfl rfl (by decide) (Nat.le_of_ble_eq_true rfl) (by omega) (by omega) (fun v545 ad545 C545 hp545 => ?_)
  obtain ⟨rfl, e, ⟨τ', m''⟩, hfr2⟩ := hp545; subst e
  refine j_icmp_eq (pc := 548) (tgt := 1087) h dL_law_548 (by decide) (fun c548 => ?_) (fun c548 => absurd (rfl) c548)
  exact j_widen (by omega) (by omega) (nx _ _ σ' ρ' τ' (CW_mv w' (fun j hj => ⟨rfl, hfr2 j hj⟩)) m'' hI' hM')
theorem s_cut (h : Cx X g RL nm cL_law 4 24 600000 7302249 ret) (hs : Sc X g b N xv) (hi : i + 5 ≤ N) (w : CW g ad σ ρ C) (m : MW g ad σ τ C) (hI : Inv σ) (hM : InvM σ) (hk : k + 2 ≤ 600000) (hn : n + 66 ≤ 7302249) (nx : Nx X g Q b i k n) : J X g 4 Q k n ad C 553 [some (.ref b), some (.ref (ad 0)), some (.ref (ad 20)), some (.int (nI i))] [] := by
  obtain ⟨v, σ', mc, ms, hmc, hms, hI', hM', hc, hr⟩ := p_cut (l := xl X) (g := g) (x := xv (i + 1)) (y := xv (i + 2)) hI hM
  refine j_aload1 (pc := 553) h dL_law_553 ?_
  refine j_aload0 (pc := 554) h dL_law_554 ?_
  refine j_iload3 (pc := 555) h dL_law_555 ?_
  refine j_iconst (pc := 556) h dL_law_556 ic_1 ?_
  refine j_iaddN (pc := 557) h dL_law_557 ?_
  refine j_sld (pc := 558) h hs dL_law_558 (by omega) ?_
  refine j_aload0 (pc := 559) h dL_law_559 ?_
  refine j_iload3 (pc := 560) h dL_law_560 ?_
  refine j_iconst (pc := 561) h dL_law_561 ic_2 ?_
  refine j_iaddN (pc := 562) h dL_law_562 ?_
  refine j_sld (pc := 563) h hs dL_law_563 (by omega) ?_
  refine j_callV (pc := 564) h dL_law_564 (hc w) mv_L_64 (w.1) rfl rfl (by decide) (Nat.le_of_ble_eq_true rfl) (by omega) (by omega) (fun v564 ad564 C564 hp564 => ?_)
  obtain ⟨rfl, ⟨ρ', w'⟩, hfr, had⟩ := hp564
  have e0 : ad564 0 = ad 0 := had 0 (ne_no w.1)
  have e20 : ad564 20 = ad 20 := had 20 (ne_no m.1)
  have m' := MW_mv m hfr had
  refine j_L (L' := [some (.ref b), some (.ref (ad564 0)), some (.ref (ad564 20)), some (.int (nI i))]) (by rw [e0, e20]) ?_
  refine j_aload2 (pc := 567) h dL_law_567 ?_
  refine j_aload0 (pc := 568) h dL_law_568 ?_
  refine j_iload3 (pc := 569) h dL_law_569 ?_
  refine j_iconst (pc := 570) h dL_law_570 ic_1 ?_
  refine j_iaddN (pc := 571) h dL_law_571 ?_
  refine j_sld (pc := 572) h hs dL_law_572 (by omega) ?_
  refine j_aload0 (pc := 573) h dL_law_573 ?_
  refine j_iload3 (pc := 574) h dL_law_574 ?_
  refine j_iconst (pc := 575) h dL_law_575 ic_2 ?_
  refine j_iaddN (pc := 576) h dL_law_576 ?_
  refine j_sld (pc := 577) h hs dL_law_577 (by omega) ?_
  refine j_callV (pc := 578) h dL_law_578 (hr m') mv_L_67 (m'.1) rfl rfl (by decide) (Nat.le_of_ble_eq_true rfl) (by omega) (by omega) (fun v578 ad578 C578 hp578 => ?_)
  obtain ⟨rfl, e, ⟨τ', m''⟩, hfr2⟩ := hp578; subst e
  refine j_icmp_eq (pc := 581) (tgt := 1087) h dL_law_581 (by decide) (fun c581 => ?_) (fun c581 => absurd (rfl) c581)
  exact j_widen (by omega) (by omega) (nx _ _ σ' ρ' τ' (CW_mv w' (fun j hj => ⟨rfl, hfr2 j hj⟩)) m'' hI' hM')
theorem s_block (h : Cx X g RL nm cL_law 4 24 600000 7302249 ret) (hs : Sc X g b N xv) (hi : i + 5 ≤ N) (w : CW g ad σ ρ C) (m : MW g ad σ τ C) (hI : Inv σ) (hM : InvM σ) (hk : k + 2 ≤ 600000) (hn : n + 66 ≤ 7302249) (nx : Nx X g Q b i k n) : J X g 4 Q k n ad C 586 [some (.ref b), some (.ref (ad 0)), some (.ref (ad 20)), some (.int (nI i))] [] := by
  obtain ⟨v, σ', mc, ms, hmc, hms, hI', hM', hc, hr⟩ := p_block (l := xl X) (g := g) (x := xv (i + 1)) (y := xv (i + 2)) hI hM
  refine j_aload1 (pc := 586) h dL_law_586 ?_
  refine j_aload0 (pc := 587) h dL_law_587 ?_
  refine j_iload3 (pc := 588) h dL_law_588 ?_
  refine j_iconst (pc := 589) h dL_law_589 ic_1 ?_
  refine j_iaddN (pc := 590) h dL_law_590 ?_
  refine j_sld (pc := 591) h hs dL_law_591 (by omega) ?_
  refine j_aload0 (pc := 592) h dL_law_592 ?_
  refine j_iload3 (pc := 593) h dL_law_593 ?_
  refine j_iconst (pc := 594) h dL_law_594 ic_2 ?_
  refine j_iaddN (pc := 595) h dL_law_595 ?_
  refine j_sld (pc := 596) h hs dL_law_596 (by omega) ?_
  refine j_callV (pc := 597) h dL_law_597 (hc w) mv_L_68 (w.1) rfl rfl (by decide) (Nat.le_of_ble_eq_true rfl) (by omega) (by omega) (fun v597 ad597 C597 hp597 => ?_)
  obtain ⟨rfl, ⟨ρ', w'⟩, hfr, had⟩ := hp597
  have e0 : ad597 0 = ad 0 := had 0 (ne_no w.1)
  have e20 : ad597 20 = ad 20 := had 20 (ne_no m.1)
  have m' := MW_mv m hfr had
  refine j_L (L' := [some (.ref b), some (.ref (ad597 0)), some (.ref (ad597 20)), some (.int (nI i))]) (by rw [e0, e20]) ?_
  refine j_aload2 (pc := 600) h dL_law_600 ?_
  refine j_aload0 (pc := 601) h dL_law_601 ?_
  refine j_iload3 (pc := 602) h dL_law_602 ?_
  refine j_iconst (pc := 603) h dL_law_603 ic_1 ?_
  refine j_iaddN (pc := 604) h dL_law_604 ?_
  refine j_sld (pc := 605) h hs dL_law_605 (by omega) ?_
  refine j_aload0 (pc := 606) h dL_law_606 ?_
  refine j_iload3 (pc := 607) h dL_law_607 ?_
  refine j_iconst (pc := 608) h dL_law_608 ic_2 ?_
  refine j_iaddN (pc := 609) h dL_law_609 ?_
  refine j_sld (pc := 610) h hs dL_law_610 (by omega) ?_
  refine j_callV (pc := 611) h dL_law_611 (hr m') mv_L_71 (m'.1) rfl rfl (by decide) (Nat.le_of_ble_eq_true rfl) (by omega) (by omega) (fun v611 ad611 C611 hp611 => ?_)
  obtain ⟨rfl, e, ⟨τ', m''⟩, hfr2⟩ := hp611; subst e
  refine j_icmp_eq (pc := 614) (tgt := 1087) h dL_law_614 (by decide) (fun c614 => ?_) (fun c614 => absurd (rfl) c614)
  exact j_widen (by omega) (by omega) (nx _ _ σ' ρ' τ' (CW_mv w' (fun j hj => ⟨rfl, hfr2 j hj⟩)) m'' hI' hM')
theorem s_sum (h : Cx X g RL nm cL_law 4 24 600000 7302249 ret) (hs : Sc X g b N xv) (hi : i + 5 ≤ N) (w : CW g ad σ ρ C) (m : MW g ad σ τ C) (hI : Inv σ) (hM : InvM σ) (hk : k + 2 ≤ 600000) (hn : n + 66 ≤ 7302249) (nx : Nx X g Q b i k n) : J X g 4 Q k n ad C 619 [some (.ref b), some (.ref (ad 0)), some (.ref (ad 20)), some (.int (nI i))] [] := by
  obtain ⟨v, σ', mc, ms, hmc, hms, hI', hM', hc, hr⟩ := p_sum (l := xl X) (g := g) (x := xv (i + 1)) (y := xv (i + 2)) (z := xv (i + 3)) hI hM
  refine j_aload1 (pc := 619) h dL_law_619 ?_
  refine j_aload0 (pc := 620) h dL_law_620 ?_
  refine j_iload3 (pc := 621) h dL_law_621 ?_
  refine j_iconst (pc := 622) h dL_law_622 ic_1 ?_
  refine j_iaddN (pc := 623) h dL_law_623 ?_
  refine j_sld (pc := 624) h hs dL_law_624 (by omega) ?_
  refine j_aload0 (pc := 625) h dL_law_625 ?_
  refine j_iload3 (pc := 626) h dL_law_626 ?_
  refine j_iconst (pc := 627) h dL_law_627 ic_2 ?_
  refine j_iaddN (pc := 628) h dL_law_628 ?_
  refine j_sld (pc := 629) h hs dL_law_629 (by omega) ?_
  refine j_aload0 (pc := 630) h dL_law_630 ?_
  refine j_iload3 (pc := 631) h dL_law_631 ?_
  refine j_iconst (pc := 632) h dL_law_632 ic_3 ?_
  refine j_iaddN (pc := 633) h dL_law_633 ?_
  refine j_sld (pc := 634) h hs dL_law_634 (by omega) ?_
  refine j_callV (pc := 635) h dL_law_635 (hc w) mv_L_72 (w.1) rfl rfl (by decide) (Nat.le_of_ble_eq_true rfl) (by omega) (by omega) (fun v635 ad635 C635 hp635 => ?_)
  obtain ⟨rfl, ⟨ρ', w'⟩, hfr, had⟩ := hp635
  have e0 : ad635 0 = ad 0 := had 0 (ne_no w.1)
  have e20 : ad635 20 = ad 20 := had 20 (ne_no m.1)
  have m' := MW_mv m hfr had
  refine j_L (L' := [some (.ref b), some (.ref (ad635 0)), some (.ref (ad635 20)), some (.int (nI i))]) (by rw [e0, e20]) ?_
  refine j_aload2 (pc := 638) h dL_law_638 ?_
  refine j_aload0 (pc := 639) h dL_law_639 ?_
  refine j_iload3 (pc := 640) h dL_law_640 ?_
  refine j_iconst (pc := 641) h dL_law_641 ic_1 ?_
  refine j_iaddN (pc := 642) h dL_law_642 ?_
  refine j_sld (pc := 643) h hs dL_law_643 (by omega) ?_
  refine j_aload0 (pc := 644) h dL_law_644 ?_
  refine j_iload3 (pc := 645) h dL_law_645 ?_
  refine j_iconst (pc := 646) h dL_law_646 ic_2 ?_
  refine j_iaddN (pc := 647) h dL_law_647 ?_
  refine j_sld (pc := 648) h hs dL_law_648 (by omega) ?_
  refine j_aload0 (pc := 649) h dL_law_649 ?_
  refine j_iload3 (pc := 650) h dL_law_650 ?_
  refine j_iconst (pc := 651) h dL_law_651 ic_3 ?_
  refine j_iaddN (pc := 652) h dL_law_652 ?_
  refine j_sld (pc := 653) h hs dL_law_653 (by omega) ?_
  refine j_callV (pc := 654) h dL_law_654 (hr m') mv_L_75 (m'.1) rfl rfl (by decide) (Nat.le_of_ble_eq_true rfl) (by omega) (by omega) (fun v654 ad654 C654 hp654 => ?_)
  obtain ⟨rfl, e, ⟨τ', m''⟩, hfr2⟩ := hp654; subst e
  refine j_icmp_eq (pc := 657) (tgt := 1087) h dL_law_657 (by decide) (fun c657 => ?_) (fun c657 => absurd (rfl) c657)
  exact j_widen (by omega) (by omega) (nx _ _ σ' ρ' τ' (CW_mv w' (fun j hj => ⟨rfl, hfr2 j hj⟩)) m'' hI' hM')
theorem s_named (h : Cx X g RL nm cL_law 4 24 600000 7302249 ret) (hs : Sc X g b N xv) (hi : i + 5 ≤ N) (w : CW g ad σ ρ C) (m : MW g ad σ τ C) (hI : Inv σ) (hM : InvM σ) (hk : k + 2 ≤ 600000) (hn : n + 66 ≤ 7302249) (nx : Nx X g Q b i k n) : J X g 4 Q k n ad C 662 [some (.ref b), some (.ref (ad 0)), some (.ref (ad 20)), some (.int (nI i))] [] := by
  obtain ⟨v, σ', mc, ms, hmc, hms, hI', hM', hc, hr⟩ := p_named (l := xl X) (g := g) (x := xv (i + 1)) (y := xv (i + 2)) (z := xv (i + 3)) hI hM
  refine j_aload1 (pc := 662) h dL_law_662 ?_
  refine j_aload0 (pc := 663) h dL_law_663 ?_
  refine j_iload3 (pc := 664) h dL_law_664 ?_
  refine j_iconst (pc := 665) h dL_law_665 ic_1 ?_
  refine j_iaddN (pc := 666) h dL_law_666 ?_
  refine j_sld (pc := 667) h hs dL_law_667 (by omega) ?_
  refine j_aload0 (pc := 668) h dL_law_668 ?_
  refine j_iload3 (pc := 669) h dL_law_669 ?_
  refine j_iconst (pc := 670) h dL_law_670 ic_2 ?_
  refine j_iaddN (pc := 671) h dL_law_671 ?_
  refine j_sld (pc := 672) h hs dL_law_672 (by omega) ?_
  refine j_aload0 (pc := 673) h dL_law_673 ?_
  refine j_iload3 (pc := 674) h dL_law_674 ?_
  refine j_iconst (pc := 675) h dL_law_675 ic_3 ?_
  refine j_iaddN (pc := 676) h dL_law_676 ?_
  refine j_sld (pc := 677) h hs dL_law_677 (by omega) ?_
  refine j_callV (pc := 678) h dL_law_678 (hc w) mv_L_76 (w.1) rfl rfl (by decide) (Nat.le_of_ble_eq_true rfl) (by omega) (by omega) (fun v678 ad678 C678 hp678 => ?_)
  obtain ⟨rfl, ⟨ρ', w'⟩, hfr, had⟩ := hp678
  have e0 : ad678 0 = ad 0 := had 0 (ne_no w.1)
  have e20 : ad678 20 = ad 20 := had 20 (ne_no m.1)
  have m' := MW_mv m hfr had
  refine j_L (L' := [some (.ref b), some (.ref (ad678 0)), some (.ref (ad678 20)), some (.int (nI i))]) (by rw [e0, e20]) ?_
  refine j_aload2 (pc := 681) h dL_law_681 ?_
  refine j_aload0 (pc := 682) h dL_law_682 ?_
  refine j_iload3 (pc := 683) h dL_law_683 ?_
  refine j_iconst (pc := 684) h dL_law_684 ic_1 ?_
  refine j_iaddN (pc := 685) h dL_law_685 ?_
  refine j_sld (pc := 686) h hs dL_law_686 (by omega) ?_
  refine j_aload0 (pc := 687) h dL_law_687 ?_
  refine j_iload3 (pc := 688) h dL_law_688 ?_
  refine j_iconst (pc := 689) h dL_law_689 ic_2 ?_
  refine j_iaddN (pc := 690) h dL_law_690 ?_
  refine j_sld (pc := 691) h hs dL_law_691 (by omega) ?_
  refine j_aload0 (pc := 692) h dL_law_692 ?_
  refine j_iload3 (pc := 693) h dL_law_693 ?_
  refine j_iconst (pc := 694) h dL_law_694 ic_3 ?_
  refine j_iaddN (pc := 695) h dL_law_695 ?_
  refine j_sld (pc := 696) h hs dL_law_696 (by omega) ?_
  refine j_callV (pc := 697) h dL_law_697 (hr m') mv_L_79 (m'.1) rfl rfl (by decide) (Nat.le_of_ble_eq_true rfl) (by omega) (by omega) (fun v697 ad697 C697 hp697 => ?_)
  obtain ⟨rfl, e, ⟨τ', m''⟩, hfr2⟩ := hp697; subst e
  refine j_icmp_eq (pc := 700) (tgt := 1087) h dL_law_700 (by decide) (fun c700 => ?_) (fun c700 => absurd (rfl) c700)
  exact j_widen (by omega) (by omega) (nx _ _ σ' ρ' τ' (CW_mv w' (fun j hj => ⟨rfl, hfr2 j hj⟩)) m'' hI' hM')
theorem s_snapshot (h : Cx X g RL nm cL_law 4 24 600000 7302249 ret) (hs : Sc X g b N xv) (hi : i + 5 ≤ N) (w : CW g ad σ ρ C) (m : MW g ad σ τ C) (hI : Inv σ) (hM : InvM σ) (hk : k + 2 ≤ 600000) (hn : n + 66 ≤ 7302249) (nx : Nx X g Q b i k n) : J X g 4 Q k n ad C 705 [some (.ref b), some (.ref (ad 0)), some (.ref (ad 20)), some (.int (nI i))] [] := by
  obtain ⟨v, σ', mc, ms, hmc, hms, hI', hM', hc, hr⟩ := p_snapshot (l := xl X) (g := g) hI hM
  refine j_aload1 (pc := 705) h dL_law_705 ?_
  refine j_callV (pc := 706) h dL_law_706 (hc w) mv_L_80 (w.1) rfl rfl (by decide) (Nat.le_of_ble_eq_true rfl) (by omega) (by omega) (fun v706 ad706 C706 hp706 => ?_)
  obtain ⟨rfl, ⟨ρ', w'⟩, hfr, had⟩ := hp706
  have e0 : ad706 0 = ad 0 := had 0 (ne_no w.1)
  have e20 : ad706 20 = ad 20 := had 20 (ne_no m.1)
  have m' := MW_mv m hfr had
  refine j_L (L' := [some (.ref b), some (.ref (ad706 0)), some (.ref (ad706 20)), some (.int (nI i))]) (by rw [e0, e20]) ?_
  refine j_aload2 (pc := 709) h dL_law_709 ?_
  refine j_callV (pc := 710) h dL_law_710 (hr m') mv_L_84 (m'.1) rfl rfl (by decide) (Nat.le_of_ble_eq_true rfl) (by omega) (by omega) (fun v710 ad710 C710 hp710 => ?_)
  obtain ⟨rfl, e, ⟨τ', m''⟩, hfr2⟩ := hp710; subst e
  refine j_icmp_eq (pc := 713) (tgt := 1087) h dL_law_713 (by decide) (fun c713 => ?_) (fun c713 => absurd (rfl) c713)
  exact j_widen (by omega) (by omega) (nx _ _ σ' ρ' τ' (CW_mv w' (fun j hj => ⟨rfl, hfr2 j hj⟩)) m'' hI' hM')
theorem s_drop (h : Cx X g RL nm cL_law 4 24 600000 7302249 ret) (hs : Sc X g b N xv) (hi : i + 5 ≤ N) (w : CW g ad σ ρ C) (m : MW g ad σ τ C) (hI : Inv σ) (hM : InvM σ) (hk : k + 2 ≤ 600000) (hn : n + 66 ≤ 7302249) (nx : Nx X g Q b i k n) : J X g 4 Q k n ad C 718 [some (.ref b), some (.ref (ad 0)), some (.ref (ad 20)), some (.int (nI i))] [] := by
  obtain ⟨v, σ', mc, ms, hmc, hms, hI', hM', hc, hr⟩ := p_drop (l := xl X) (g := g) (x := xv (i + 1)) hI hM
  refine j_aload1 (pc := 718) h dL_law_718 ?_
  refine j_aload0 (pc := 719) h dL_law_719 ?_
  refine j_iload3 (pc := 720) h dL_law_720 ?_
  refine j_iconst (pc := 721) h dL_law_721 ic_1 ?_
  refine j_iaddN (pc := 722) h dL_law_722 ?_
  refine j_sld (pc := 723) h hs dL_law_723 (by omega) ?_
  refine j_callV (pc := 724) h dL_law_724 (hc w) mv_L_85 (w.1) rfl rfl (by decide) (Nat.le_of_ble_eq_true rfl) (by omega) (by omega) (fun v724 ad724 C724 hp724 => ?_)
  obtain ⟨rfl, ⟨ρ', w'⟩, hfr, had⟩ := hp724
  have e0 : ad724 0 = ad 0 := had 0 (ne_no w.1)
  have e20 : ad724 20 = ad 20 := had 20 (ne_no m.1)
  have m' := MW_mv m hfr had
  refine j_L (L' := [some (.ref b), some (.ref (ad724 0)), some (.ref (ad724 20)), some (.int (nI i))]) (by rw [e0, e20]) ?_
  refine j_aload2 (pc := 727) h dL_law_727 ?_
  refine j_aload0 (pc := 728) h dL_law_728 ?_
  refine j_iload3 (pc := 729) h dL_law_729 ?_
  refine j_iconst (pc := 730) h dL_law_730 ic_1 ?_
  refine j_iaddN (pc := 731) h dL_law_731 ?_
  refine j_sld (pc := 732) h hs dL_law_732 (by omega) ?_
  refine j_callV (pc := 733) h dL_law_733 (hr m') mv_L_88 (m'.1) rfl rfl (by decide) (Nat.le_of_ble_eq_true rfl) (by omega) (by omega) (fun v733 ad733 C733 hp733 => ?_)
  obtain ⟨rfl, e, ⟨τ', m''⟩, hfr2⟩ := hp733; subst e
  refine j_icmp_eq (pc := 736) (tgt := 1087) h dL_law_736 (by decide) (fun c736 => ?_) (fun c736 => absurd (rfl) c736)
  exact j_widen (by omega) (by omega) (nx _ _ σ' ρ' τ' (CW_mv w' (fun j hj => ⟨rfl, hfr2 j hj⟩)) m'' hI' hM')
theorem s_alone (h : Cx X g RL nm cL_law 4 24 600000 7302249 ret) (hs : Sc X g b N xv) (hi : i + 5 ≤ N) (w : CW g ad σ ρ C) (m : MW g ad σ τ C) (hI : Inv σ) (hM : InvM σ) (hk : k + 2 ≤ 600000) (hn : n + 66 ≤ 7302249) (nx : Nx X g Q b i k n) : J X g 4 Q k n ad C 741 [some (.ref b), some (.ref (ad 0)), some (.ref (ad 20)), some (.int (nI i))] [] := by
  obtain ⟨v, σ', mc, ms, hmc, hms, hI', hM', hc, hr⟩ := p_alone (l := xl X) (g := g) (x := xv (i + 1)) hI hM
  refine j_aload1 (pc := 741) h dL_law_741 ?_
  refine j_aload0 (pc := 742) h dL_law_742 ?_
  refine j_iload3 (pc := 743) h dL_law_743 ?_
  refine j_iconst (pc := 744) h dL_law_744 ic_1 ?_
  refine j_iaddN (pc := 745) h dL_law_745 ?_
  refine j_sld (pc := 746) h hs dL_law_746 (by omega) ?_
  refine j_callV (pc := 747) h dL_law_747 (hc w) mv_L_89 (w.1) rfl rfl (by decide) (Nat.le_of_ble_eq_true rfl) (by omega) (by omega) (fun v747 ad747 C747 hp747 => ?_)
  obtain ⟨rfl, ⟨ρ', w'⟩, hfr, had⟩ := hp747
  have e0 : ad747 0 = ad 0 := had 0 (ne_no w.1)
  have e20 : ad747 20 = ad 20 := had 20 (ne_no m.1)
  have m' := MW_mv m hfr had
  refine j_L (L' := [some (.ref b), some (.ref (ad747 0)), some (.ref (ad747 20)), some (.int (nI i))]) (by rw [e0, e20]) ?_
  refine j_aload2 (pc := 750) h dL_law_750 ?_
  refine j_aload0 (pc := 751) h dL_law_751 ?_
  refine j_iload3 (pc := 752) h dL_law_752 ?_
  refine j_iconst (pc := 753) h dL_law_753 ic_1 ?_
  refine j_iaddN (pc := 754) h dL_law_754 ?_
  refine j_sld (pc := 755) h hs dL_law_755 (by omega) ?_
  refine j_callV (pc := 756) h dL_law_756 (hr m') mv_L_92 (m'.1) rfl rfl (by decide) (Nat.le_of_ble_eq_true rfl) (by omega) (by omega) (fun v756 ad756 C756 hp756 => ?_)
  obtain ⟨rfl, e, ⟨τ', m''⟩, hfr2⟩ := hp756; subst e
  refine j_icmp_eq (pc := 759) (tgt := 1087) h dL_law_759 (by decide) (fun c759 => ?_) (fun c759 => absurd (rfl) c759)
  exact j_widen (by omega) (by omega) (nx _ _ σ' ρ' τ' (CW_mv w' (fun j hj => ⟨rfl, hfr2 j hj⟩)) m'' hI' hM')
theorem s_mark (h : Cx X g RL nm cL_law 4 24 600000 7302249 ret) (hs : Sc X g b N xv) (hi : i + 5 ≤ N) (w : CW g ad σ ρ C) (m : MW g ad σ τ C) (hI : Inv σ) (hM : InvM σ) (hk : k + 2 ≤ 600000) (hn : n + 66 ≤ 7302249) (nx : Nx X g Q b i k n) : J X g 4 Q k n ad C 764 [some (.ref b), some (.ref (ad 0)), some (.ref (ad 20)), some (.int (nI i))] [] := by
  obtain ⟨v, σ', mc, ms, hmc, hms, hI', hM', hc, hr⟩ := p_mark (l := xl X) (g := g) hI hM
  refine j_aload1 (pc := 764) h dL_law_764 ?_
  refine j_callV (pc := 765) h dL_law_765 (hc w) mv_L_93 (w.1) rfl rfl (by decide) (Nat.le_of_ble_eq_true rfl) (by omega) (by omega) (fun v765 ad765 C765 hp765 => ?_)
  obtain ⟨rfl, ⟨ρ', w'⟩, hfr, had⟩ := hp765
  have e0 : ad765 0 = ad 0 := had 0 (ne_no w.1)
  have e20 : ad765 20 = ad 20 := had 20 (ne_no m.1)
  have m' := MW_mv m hfr had
  refine j_L (L' := [some (.ref b), some (.ref (ad765 0)), some (.ref (ad765 20)), some (.int (nI i))]) (by rw [e0, e20]) ?_
  refine j_aload2 (pc := 768) h dL_law_768 ?_
  refine j_callV (pc := 769) h dL_law_769 (hr m') mv_L_96 (m'.1) rfl rfl (by decide) (Nat.le_of_ble_eq_true rfl) (by omega) (by omega) (fun v769 ad769 C769 hp769 => ?_)
  obtain ⟨rfl, e, ⟨τ', m''⟩, hfr2⟩ := hp769; subst e
  refine j_icmp_eq (pc := 772) (tgt := 1087) h dL_law_772 (by decide) (fun c772 => ?_) (fun c772 => absurd (rfl) c772)
  exact j_widen (by omega) (by omega) (nx _ _ σ' ρ' τ' (CW_mv w' (fun j hj => ⟨rfl, hfr2 j hj⟩)) m'' hI' hM')
theorem s_grew (h : Cx X g RL nm cL_law 4 24 600000 7302249 ret) (hs : Sc X g b N xv) (hi : i + 5 ≤ N) (w : CW g ad σ ρ C) (m : MW g ad σ τ C) (hI : Inv σ) (hM : InvM σ) (hk : k + 2 ≤ 600000) (hn : n + 66 ≤ 7302249) (nx : Nx X g Q b i k n) : J X g 4 Q k n ad C 777 [some (.ref b), some (.ref (ad 0)), some (.ref (ad 20)), some (.int (nI i))] [] := by
  obtain ⟨v, σ', mc, ms, hmc, hms, hI', hM', hc, hr⟩ := p_grew (l := xl X) (g := g) (x := xv (i + 1)) (y := xv (i + 2)) (z := xv (i + 3)) hI hM
  refine j_aload1 (pc := 777) h dL_law_777 ?_
  refine j_aload0 (pc := 778) h dL_law_778 ?_
  refine j_iload3 (pc := 779) h dL_law_779 ?_
  refine j_iconst (pc := 780) h dL_law_780 ic_1 ?_
  refine j_iaddN (pc := 781) h dL_law_781 ?_
  refine j_sld (pc := 782) h hs dL_law_782 (by omega) ?_
  refine j_aload0 (pc := 783) h dL_law_783 ?_
  refine j_iload3 (pc := 784) h dL_law_784 ?_
  refine j_iconst (pc := 785) h dL_law_785 ic_2 ?_
  refine j_iaddN (pc := 786) h dL_law_786 ?_
  refine j_sld (pc := 787) h hs dL_law_787 (by omega) ?_
  refine j_aload0 (pc := 788) h dL_law_788 ?_
  refine j_iload3 (pc := 789) h dL_law_789 ?_
  refine j_iconst (pc := 790) h dL_law_790 ic_3 ?_
  refine j_iaddN (pc := 791) h dL_law_791 ?_
  refine j_sld (pc := 792) h hs dL_law_792 (by omega) ?_
  refine j_callV (pc := 793) h dL_law_793 (hc w) mv_L_97 (w.1) rfl rfl (by decide) (Nat.le_of_ble_eq_true rfl) (by omega) (by omega) (fun v793 ad793 C793 hp793 => ?_)
  obtain ⟨rfl, ⟨ρ', w'⟩, hfr, had⟩ := hp793
  have e0 : ad793 0 = ad 0 := had 0 (ne_no w.1)
  have e20 : ad793 20 = ad 20 := had 20 (ne_no m.1)
  have m' := MW_mv m hfr had
  refine j_L (L' := [some (.ref b), some (.ref (ad793 0)), some (.ref (ad793 20)), some (.int (nI i))]) (by rw [e0, e20]) ?_
  refine j_aload2 (pc := 796) h dL_law_796 ?_
  refine j_aload0 (pc := 797) h dL_law_797 ?_
  refine j_iload3 (pc := 798) h dL_law_798 ?_
  refine j_iconst (pc := 799) h dL_law_799 ic_1 ?_
  refine j_iaddN (pc := 800) h dL_law_800 ?_
  refine j_sld (pc := 801) h hs dL_law_801 (by omega) ?_
  refine j_aload0 (pc := 802) h dL_law_802 ?_
  refine j_iload3 (pc := 803) h dL_law_803 ?_
  refine j_iconst (pc := 804) h dL_law_804 ic_2 ?_
  refine j_iaddN (pc := 805) h dL_law_805 ?_
  refine j_sld (pc := 806) h hs dL_law_806 (by omega) ?_
  refine j_aload0 (pc := 807) h dL_law_807 ?_
  refine j_iload3 (pc := 808) h dL_law_808 ?_
  refine j_iconst (pc := 809) h dL_law_809 ic_3 ?_
  refine j_iaddN (pc := 810) h dL_law_810 ?_
  refine j_sld (pc := 811) h hs dL_law_811 (by omega) ?_
  refine j_callV (pc := 812) h dL_law_812 (hr m') mv_L_100 (m'.1) rfl rfl (by decide) (Nat.le_of_ble_eq_true rfl) (by omega) (by omega) (fun v812 ad812 C812 hp812 => ?_)
  obtain ⟨rfl, e, ⟨τ', m''⟩, hfr2⟩ := hp812; subst e
  refine j_icmp_eq (pc := 815) (tgt := 1087) h dL_law_815 (by decide) (fun c815 => ?_) (fun c815 => absurd (rfl) c815)
  exact j_widen (by omega) (by omega) (nx _ _ σ' ρ' τ' (CW_mv w' (fun j hj => ⟨rfl, hfr2 j hj⟩)) m'' hI' hM')
theorem s_freed (h : Cx X g RL nm cL_law 4 24 600000 7302249 ret) (hs : Sc X g b N xv) (hi : i + 5 ≤ N) (w : CW g ad σ ρ C) (m : MW g ad σ τ C) (hI : Inv σ) (hM : InvM σ) (hk : k + 2 ≤ 600000) (hn : n + 66 ≤ 7302249) (nx : Nx X g Q b i k n) : J X g 4 Q k n ad C 820 [some (.ref b), some (.ref (ad 0)), some (.ref (ad 20)), some (.int (nI i))] [] := by
  obtain ⟨v, σ', mc, ms, hmc, hms, hI', hM', hc, hr⟩ := p_freed (l := xl X) (g := g) (x := xv (i + 1)) hI hM
  refine j_aload1 (pc := 820) h dL_law_820 ?_
  refine j_aload0 (pc := 821) h dL_law_821 ?_
  refine j_iload3 (pc := 822) h dL_law_822 ?_
  refine j_iconst (pc := 823) h dL_law_823 ic_1 ?_
  refine j_iaddN (pc := 824) h dL_law_824 ?_
  refine j_sld (pc := 825) h hs dL_law_825 (by omega) ?_
  refine j_callV (pc := 826) h dL_law_826 (hc w) mv_L_101 (w.1) rfl rfl (by decide) (Nat.le_of_ble_eq_true rfl) (by omega) (by omega) (fun v826 ad826 C826 hp826 => ?_)
  obtain ⟨rfl, ⟨ρ', w'⟩, hfr, had⟩ := hp826
  have e0 : ad826 0 = ad 0 := had 0 (ne_no w.1)
  have e20 : ad826 20 = ad 20 := had 20 (ne_no m.1)
  have m' := MW_mv m hfr had
  refine j_L (L' := [some (.ref b), some (.ref (ad826 0)), some (.ref (ad826 20)), some (.int (nI i))]) (by rw [e0, e20]) ?_
  refine j_aload2 (pc := 829) h dL_law_829 ?_
  refine j_aload0 (pc := 830) h dL_law_830 ?_
  refine j_iload3 (pc := 831) h dL_law_831 ?_
  refine j_iconst (pc := 832) h dL_law_832 ic_1 ?_
  refine j_iaddN (pc := 833) h dL_law_833 ?_
  refine j_sld (pc := 834) h hs dL_law_834 (by omega) ?_
  refine j_callV (pc := 835) h dL_law_835 (hr m') mv_L_104 (m'.1) rfl rfl (by decide) (Nat.le_of_ble_eq_true rfl) (by omega) (by omega) (fun v835 ad835 C835 hp835 => ?_)
  obtain ⟨rfl, e, ⟨τ', m''⟩, hfr2⟩ := hp835; subst e
  refine j_icmp_eq (pc := 838) (tgt := 1087) h dL_law_838 (by decide) (fun c838 => ?_) (fun c838 => absurd (rfl) c838)
  exact j_widen (by omega) (by omega) (nx _ _ σ' ρ' τ' (CW_mv w' (fun j hj => ⟨rfl, hfr2 j hj⟩)) m'' hI' hM')
theorem s_both (h : Cx X g RL nm cL_law 4 24 600000 7302249 ret) (hs : Sc X g b N xv) (hi : i + 5 ≤ N) (w : CW g ad σ ρ C) (m : MW g ad σ τ C) (hI : Inv σ) (hM : InvM σ) (hk : k + 2 ≤ 600000) (hn : n + 66 ≤ 7302249) (nx : Nx X g Q b i k n) : J X g 4 Q k n ad C 843 [some (.ref b), some (.ref (ad 0)), some (.ref (ad 20)), some (.int (nI i))] [] := by
  obtain ⟨v, σ', mc, ms, hmc, hms, hI', hM', hc, hr⟩ := p_both (l := xl X) (g := g) (x := xv (i + 1)) (y := xv (i + 2)) hI hM
  refine j_aload1 (pc := 843) h dL_law_843 ?_
  refine j_aload0 (pc := 844) h dL_law_844 ?_
  refine j_iload3 (pc := 845) h dL_law_845 ?_
  refine j_iconst (pc := 846) h dL_law_846 ic_1 ?_
  refine j_iaddN (pc := 847) h dL_law_847 ?_
  refine j_sld (pc := 848) h hs dL_law_848 (by omega) ?_
  refine j_aload0 (pc := 849) h dL_law_849 ?_
  refine j_iload3 (pc := 850) h dL_law_850 ?_
  refine j_iconst (pc := 851) h dL_law_851 ic_2 ?_
  refine j_iaddN (pc := 852) h dL_law_852 ?_
  refine j_sld (pc := 853) h hs dL_law_853 (by omega) ?_
  refine j_callV (pc := 854) h dL_law_854 (hc w) mv_L_105 (w.1) rfl rfl (by decide) (Nat.le_of_ble_eq_true rfl) (by omega) (by omega) (fun v854 ad854 C854 hp854 => ?_)
  obtain ⟨rfl, ⟨ρ', w'⟩, hfr, had⟩ := hp854
  have e0 : ad854 0 = ad 0 := had 0 (ne_no w.1)
  have e20 : ad854 20 = ad 20 := had 20 (ne_no m.1)
  have m' := MW_mv m hfr had
  refine j_L (L' := [some (.ref b), some (.ref (ad854 0)), some (.ref (ad854 20)), some (.int (nI i))]) (by rw [e0, e20]) ?_
  refine j_aload2 (pc := 857) h dL_law_857 ?_
  refine j_aload0 (pc := 858) h dL_law_858 ?_
  refine j_iload3 (pc := 859) h dL_law_859 ?_
  refine j_iconst (pc := 860) h dL_law_860 ic_1 ?_
  refine j_iaddN (pc := 861) h dL_law_861 ?_
  refine j_sld (pc := 862) h hs dL_law_862 (by omega) ?_
  refine j_aload0 (pc := 863) h dL_law_863 ?_
  refine j_iload3 (pc := 864) h dL_law_864 ?_
  refine j_iconst (pc := 865) h dL_law_865 ic_2 ?_
  refine j_iaddN (pc := 866) h dL_law_866 ?_
  refine j_sld (pc := 867) h hs dL_law_867 (by omega) ?_
  refine j_callV (pc := 868) h dL_law_868 (hr m') mv_L_108 (m'.1) rfl rfl (by decide) (Nat.le_of_ble_eq_true rfl) (by omega) (by omega) (fun v868 ad868 C868 hp868 => ?_)
  obtain ⟨rfl, e, ⟨τ', m''⟩, hfr2⟩ := hp868; subst e
  refine j_icmp_eq (pc := 871) (tgt := 1087) h dL_law_871 (by decide) (fun c871 => ?_) (fun c871 => absurd (rfl) c871)
  exact j_widen (by omega) (by omega) (nx _ _ σ' ρ' τ' (CW_mv w' (fun j hj => ⟨rfl, hfr2 j hj⟩)) m'' hI' hM')
theorem s_plan (h : Cx X g RL nm cL_law 4 24 600000 7302249 ret) (hs : Sc X g b N xv) (hi : i + 5 ≤ N) (w : CW g ad σ ρ C) (m : MW g ad σ τ C) (hI : Inv σ) (hM : InvM σ) (hk : k + 2 ≤ 600000) (hn : n + 66 ≤ 7302249) (nx : Nx X g Q b i k n) : J X g 4 Q k n ad C 876 [some (.ref b), some (.ref (ad 0)), some (.ref (ad 20)), some (.int (nI i))] [] := by
  obtain ⟨v, σ', mc, ms, hmc, hms, hI', hM', hc, hr⟩ := p_plan (l := xl X) (g := g) (x := xv (i + 1)) (y := xv (i + 2)) hI hM
  refine j_aload1 (pc := 876) h dL_law_876 ?_
  refine j_aload0 (pc := 877) h dL_law_877 ?_
  refine j_iload3 (pc := 878) h dL_law_878 ?_
  refine j_iconst (pc := 879) h dL_law_879 ic_1 ?_
  refine j_iaddN (pc := 880) h dL_law_880 ?_
  refine j_sld (pc := 881) h hs dL_law_881 (by omega) ?_
  refine j_aload0 (pc := 882) h dL_law_882 ?_
  refine j_iload3 (pc := 883) h dL_law_883 ?_
  refine j_iconst (pc := 884) h dL_law_884 ic_2 ?_
  refine j_iaddN (pc := 885) h dL_law_885 ?_
  refine j_sld (pc := 886) h hs dL_law_886 (by omega) ?_
  refine j_callV (pc := 887) h dL_law_887 (hc w) mv_L_109 (w.1) rfl rfl (by decide) (Nat.le_of_ble_eq_true rfl) (by omega) (by omega) (fun v887 ad887 C887 hp887 => ?_)
  obtain ⟨rfl, ⟨ρ', w'⟩, hfr, had⟩ := hp887
  have e0 : ad887 0 = ad 0 := had 0 (ne_no w.1)
  have e20 : ad887 20 = ad 20 := had 20 (ne_no m.1)
  have m' := MW_mv m hfr had
  refine j_L (L' := [some (.ref b), some (.ref (ad887 0)), some (.ref (ad887 20)), some (.int (nI i))]) (by rw [e0, e20]) ?_
  refine j_aload2 (pc := 890) h dL_law_890 ?_
  refine j_aload0 (pc := 891) h dL_law_891 ?_
  refine j_iload3 (pc := 892) h dL_law_892 ?_
  refine j_iconst (pc := 893) h dL_law_893 ic_1 ?_
  refine j_iaddN (pc := 894) h dL_law_894 ?_
  refine j_sld (pc := 895) h hs dL_law_895 (by omega) ?_
  refine j_aload0 (pc := 896) h dL_law_896 ?_
  refine j_iload3 (pc := 897) h dL_law_897 ?_
  refine j_iconst (pc := 898) h dL_law_898 ic_2 ?_
  refine j_iaddN (pc := 899) h dL_law_899 ?_
  refine j_sld (pc := 900) h hs dL_law_900 (by omega) ?_
  refine j_callV (pc := 901) h dL_law_901 (hr m') mv_L_112 (m'.1) rfl rfl (by decide) (Nat.le_of_ble_eq_true rfl) (by omega) (by omega) (fun v901 ad901 C901 hp901 => ?_)
  obtain ⟨rfl, e, ⟨τ', m''⟩, hfr2⟩ := hp901; subst e
  refine j_icmp_eq (pc := 904) (tgt := 1087) h dL_law_904 (by decide) (fun c904 => ?_) (fun c904 => absurd (rfl) c904)
  exact j_widen (by omega) (by omega) (nx _ _ σ' ρ' τ' (CW_mv w' (fun j hj => ⟨rfl, hfr2 j hj⟩)) m'' hI' hM')
theorem s_planned (h : Cx X g RL nm cL_law 4 24 600000 7302249 ret) (hs : Sc X g b N xv) (hi : i + 5 ≤ N) (w : CW g ad σ ρ C) (m : MW g ad σ τ C) (hI : Inv σ) (hM : InvM σ) (hk : k + 2 ≤ 600000) (hn : n + 66 ≤ 7302249) (nx : Nx X g Q b i k n) : J X g 4 Q k n ad C 909 [some (.ref b), some (.ref (ad 0)), some (.ref (ad 20)), some (.int (nI i))] [] := by
  obtain ⟨v, σ', mc, ms, hmc, hms, hI', hM', hc, hr⟩ := p_planned (l := xl X) (g := g) (x := xv (i + 1)) (y := xv (i + 2)) (z := xv (i + 3)) hI hM
  refine j_aload1 (pc := 909) h dL_law_909 ?_
  refine j_aload0 (pc := 910) h dL_law_910 ?_
  refine j_iload3 (pc := 911) h dL_law_911 ?_
  refine j_iconst (pc := 912) h dL_law_912 ic_1 ?_
  refine j_iaddN (pc := 913) h dL_law_913 ?_
  refine j_sld (pc := 914) h hs dL_law_914 (by omega) ?_
  refine j_aload0 (pc := 915) h dL_law_915 ?_
  refine j_iload3 (pc := 916) h dL_law_916 ?_
  refine j_iconst (pc := 917) h dL_law_917 ic_2 ?_
  refine j_iaddN (pc := 918) h dL_law_918 ?_
  refine j_sld (pc := 919) h hs dL_law_919 (by omega) ?_
  refine j_aload0 (pc := 920) h dL_law_920 ?_
  refine j_iload3 (pc := 921) h dL_law_921 ?_
  refine j_iconst (pc := 922) h dL_law_922 ic_3 ?_
  refine j_iaddN (pc := 923) h dL_law_923 ?_
  refine j_sld (pc := 924) h hs dL_law_924 (by omega) ?_
  refine j_callV (pc := 925) h dL_law_925 (hc w) mv_L_113 (w.1) rfl rfl (by decide) (Nat.le_of_ble_eq_true rfl) (by omega) (by omega) (fun v925 ad925 C925 hp925 => ?_)
  obtain ⟨rfl, ⟨ρ', w'⟩, hfr, had⟩ := hp925
  have e0 : ad925 0 = ad 0 := had 0 (ne_no w.1)
  have e20 : ad925 20 = ad 20 := had 20 (ne_no m.1)
  have m' := MW_mv m hfr had
  refine j_L (L' := [some (.ref b), some (.ref (ad925 0)), some (.ref (ad925 20)), some (.int (nI i))]) (by rw [e0, e20]) ?_
  refine j_aload2 (pc := 928) h dL_law_928 ?_
  refine j_aload0 (pc := 929) h dL_law_929 ?_
  refine j_iload3 (pc := 930) h dL_law_930 ?_
  refine j_iconst (pc := 931) h dL_law_931 ic_1 ?_
  refine j_iaddN (pc := 932) h dL_law_932 ?_
  refine j_sld (pc := 933) h hs dL_law_933 (by omega) ?_
  refine j_aload0 (pc := 934) h dL_law_934 ?_
  refine j_iload3 (pc := 935) h dL_law_935 ?_
  refine j_iconst (pc := 936) h dL_law_936 ic_2 ?_
  refine j_iaddN (pc := 937) h dL_law_937 ?_
  refine j_sld (pc := 938) h hs dL_law_938 (by omega) ?_
  refine j_aload0 (pc := 939) h dL_law_939 ?_
  refine j_iload3 (pc := 940) h dL_law_940 ?_
  refine j_iconst (pc := 941) h dL_law_941 ic_3 ?_
  refine j_iaddN (pc := 942) h dL_law_942 ?_
  refine j_sld (pc := 943) h hs dL_law_943 (by omega) ?_
  refine j_callV (pc := 944) h dL_law_944 (hr m') mv_L_116 (m'.1) rfl rfl (by decide) (Nat.le_of_ble_eq_true rfl) (by omega) (by omega) (fun v944 ad944 C944 hp944 => ?_)
  obtain ⟨rfl, e, ⟨τ', m''⟩, hfr2⟩ := hp944; subst e
  refine j_icmp_eq (pc := 947) (tgt := 1087) h dL_law_947 (by decide) (fun c947 => ?_) (fun c947 => absurd (rfl) c947)
  exact j_widen (by omega) (by omega) (nx _ _ σ' ρ' τ' (CW_mv w' (fun j hj => ⟨rfl, hfr2 j hj⟩)) m'' hI' hM')
theorem s_largest (h : Cx X g RL nm cL_law 4 24 600000 7302249 ret) (hs : Sc X g b N xv) (hi : i + 5 ≤ N) (w : CW g ad σ ρ C) (m : MW g ad σ τ C) (hI : Inv σ) (hM : InvM σ) (hk : k + 2 ≤ 600000) (hn : n + 66 ≤ 7302249) (nx : Nx X g Q b i k n) : J X g 4 Q k n ad C 952 [some (.ref b), some (.ref (ad 0)), some (.ref (ad 20)), some (.int (nI i))] [] := by
  obtain ⟨v, σ', mc, ms, hmc, hms, hI', hM', hc, hr⟩ := p_largest (l := xl X) (g := g) (x := xv (i + 1)) (y := xv (i + 2)) hI hM
  refine j_aload1 (pc := 952) h dL_law_952 ?_
  refine j_aload0 (pc := 953) h dL_law_953 ?_
  refine j_iload3 (pc := 954) h dL_law_954 ?_
  refine j_iconst (pc := 955) h dL_law_955 ic_1 ?_
  refine j_iaddN (pc := 956) h dL_law_956 ?_
  refine j_sld (pc := 957) h hs dL_law_957 (by omega) ?_
  refine j_aload0 (pc := 958) h dL_law_958 ?_
  refine j_iload3 (pc := 959) h dL_law_959 ?_
  refine j_iconst (pc := 960) h dL_law_960 ic_2 ?_
  refine j_iaddN (pc := 961) h dL_law_961 ?_
  refine j_sld (pc := 962) h hs dL_law_962 (by omega) ?_
  refine j_callV (pc := 963) h dL_law_963 (hc w) mv_L_117 (w.1) rfl rfl (by decide) (Nat.le_of_ble_eq_true rfl) (by omega) (by omega) (fun v963 ad963 C963 hp963 => ?_)
  obtain ⟨rfl, ⟨ρ', w'⟩, hfr, had⟩ := hp963
  have e0 : ad963 0 = ad 0 := had 0 (ne_no w.1)
  have e20 : ad963 20 = ad 20 := had 20 (ne_no m.1)
  have m' := MW_mv m hfr had
  refine j_L (L' := [some (.ref b), some (.ref (ad963 0)), some (.ref (ad963 20)), some (.int (nI i))]) (by rw [e0, e20]) ?_
  refine j_aload2 (pc := 966) h dL_law_966 ?_
  refine j_aload0 (pc := 967) h dL_law_967 ?_
  refine j_iload3 (pc := 968) h dL_law_968 ?_
  refine j_iconst (pc := 969) h dL_law_969 ic_1 ?_
  refine j_iaddN (pc := 970) h dL_law_970 ?_
  refine j_sld (pc := 971) h hs dL_law_971 (by omega) ?_
  refine j_aload0 (pc := 972) h dL_law_972 ?_
  refine j_iload3 (pc := 973) h dL_law_973 ?_
  refine j_iconst (pc := 974) h dL_law_974 ic_2 ?_
  refine j_iaddN (pc := 975) h dL_law_975 ?_
  refine j_sld (pc := 976) h hs dL_law_976 (by omega) ?_
  refine j_callV (pc := 977) h dL_law_977 (hr m') mv_L_120 (m'.1) rfl rfl (by decide) (Nat.le_of_ble_eq_true rfl) (by omega) (by omega) (fun v977 ad977 C977 hp977 => ?_)
  obtain ⟨rfl, e, ⟨τ', m''⟩, hfr2⟩ := hp977; subst e
  refine j_icmp_eq (pc := 980) (tgt := 1087) h dL_law_980 (by decide) (fun c980 => ?_) (fun c980 => absurd (rfl) c980)
  exact j_widen (by omega) (by omega) (nx _ _ σ' ρ' τ' (CW_mv w' (fun j hj => ⟨rfl, hfr2 j hj⟩)) m'' hI' hM')
theorem s_holds (h : Cx X g RL nm cL_law 4 24 600000 7302249 ret) (hs : Sc X g b N xv) (hi : i + 5 ≤ N) (w : CW g ad σ ρ C) (m : MW g ad σ τ C) (hI : Inv σ) (hM : InvM σ) (hk : k + 2 ≤ 600000) (hn : n + 66 ≤ 7302249) (nx : Nx X g Q b i k n) : J X g 4 Q k n ad C 985 [some (.ref b), some (.ref (ad 0)), some (.ref (ad 20)), some (.int (nI i))] [] := by
  obtain ⟨v, σ', mc, ms, hmc, hms, hI', hM', hc, hr⟩ := p_holds (l := xl X) (g := g) (x := xv (i + 1)) hI hM
  refine j_aload1 (pc := 985) h dL_law_985 ?_
  refine j_aload0 (pc := 986) h dL_law_986 ?_
  refine j_iload3 (pc := 987) h dL_law_987 ?_
  refine j_iconst (pc := 988) h dL_law_988 ic_1 ?_
  refine j_iaddN (pc := 989) h dL_law_989 ?_
  refine j_sld (pc := 990) h hs dL_law_990 (by omega) ?_
  refine j_callV (pc := 991) h dL_law_991 (hc w) mv_L_121 (w.1) rfl rfl (by decide) (Nat.le_of_ble_eq_true rfl) (by omega) (by omega) (fun v991 ad991 C991 hp991 => ?_)
  obtain ⟨rfl, ⟨ρ', w'⟩, hfr, had⟩ := hp991
  have e0 : ad991 0 = ad 0 := had 0 (ne_no w.1)
  have e20 : ad991 20 = ad 20 := had 20 (ne_no m.1)
  have m' := MW_mv m hfr had
  refine j_L (L' := [some (.ref b), some (.ref (ad991 0)), some (.ref (ad991 20)), some (.int (nI i))]) (by rw [e0, e20]) ?_
  refine j_aload2 (pc := 994) h dL_law_994 ?_
  refine j_aload0 (pc := 995) h dL_law_995 ?_
  refine j_iload3 (pc := 996) h dL_law_996 ?_
  refine j_iconst (pc := 997) h dL_law_997 ic_1 ?_
  refine j_iaddN (pc := 998) h dL_law_998 ?_
  refine j_sld (pc := 999) h hs dL_law_999 (by omega) ?_
  refine j_callV (pc := 1000) h dL_law_1000 (hr m') mv_L_124 (m'.1) rfl rfl (by decide) (Nat.le_of_ble_eq_true rfl) (by omega) (by omega) (fun v1000 ad1000 C1000 hp1000 => ?_)
  obtain ⟨rfl, e, ⟨τ', m''⟩, hfr2⟩ := hp1000; subst e
  refine j_icmp_eq (pc := 1003) (tgt := 1087) h dL_law_1003 (by decide) (fun c1003 => ?_) (fun c1003 => absurd (rfl) c1003)
  exact j_widen (by omega) (by omega) (nx _ _ σ' ρ' τ' (CW_mv w' (fun j hj => ⟨rfl, hfr2 j hj⟩)) m'' hI' hM')
theorem s_full (h : Cx X g RL nm cL_law 4 24 600000 7302249 ret) (hs : Sc X g b N xv) (hi : i + 5 ≤ N) (w : CW g ad σ ρ C) (m : MW g ad σ τ C) (hI : Inv σ) (hM : InvM σ) (hk : k + 2 ≤ 600000) (hn : n + 66 ≤ 7302249) (nx : Nx X g Q b i k n) : J X g 4 Q k n ad C 1008 [some (.ref b), some (.ref (ad 0)), some (.ref (ad 20)), some (.int (nI i))] [] := by
  obtain ⟨v, σ', mc, ms, hmc, hms, hI', hM', hc, hr⟩ := p_full (l := xl X) (g := g) (x := xv (i + 1)) hI hM
  refine j_aload1 (pc := 1008) h dL_law_1008 ?_
  refine j_aload0 (pc := 1009) h dL_law_1009 ?_
  refine j_iload3 (pc := 1010) h dL_law_1010 ?_
  refine j_iconst (pc := 1011) h dL_law_1011 ic_1 ?_
  refine j_iaddN (pc := 1012) h dL_law_1012 ?_
  refine j_sld (pc := 1013) h hs dL_law_1013 (by omega) ?_
  refine j_callV (pc := 1014) h dL_law_1014 (hc w) mv_L_125 (w.1) rfl rfl (by decide) (Nat.le_of_ble_eq_true rfl) (by omega) (by omega) (fun v1014 ad1014 C1014 hp1014 => ?_)
  obtain ⟨rfl, ⟨ρ', w'⟩, hfr, had⟩ := hp1014
  have e0 : ad1014 0 = ad 0 := had 0 (ne_no w.1)
  have e20 : ad1014 20 = ad 20 := had 20 (ne_no m.1)
  have m' := MW_mv m hfr had
  refine j_L (L' := [some (.ref b), some (.ref (ad1014 0)), some (.ref (ad1014 20)), some (.int (nI i))]) (by rw [e0, e20]) ?_
  refine j_aload2 (pc := 1017) h dL_law_1017 ?_
  refine j_aload0 (pc := 1018) h dL_law_1018 ?_
  refine j_iload3 (pc := 1019) h dL_law_1019 ?_
  refine j_iconst (pc := 1020) h dL_law_1020 ic_1 ?_
  refine j_iaddN (pc := 1021) h dL_law_1021 ?_
  refine j_sld (pc := 1022) h hs dL_law_1022 (by omega) ?_
  refine j_callV (pc := 1023) h dL_law_1023 (hr m') mv_L_128 (m'.1) rfl rfl (by decide) (Nat.le_of_ble_eq_true rfl) (by omega) (by omega) (fun v1023 ad1023 C1023 hp1023 => ?_)
  obtain ⟨rfl, e, ⟨τ', m''⟩, hfr2⟩ := hp1023; subst e
  refine j_icmp_eq (pc := 1026) (tgt := 1087) h dL_law_1026 (by decide) (fun c1026 => ?_) (fun c1026 => absurd (rfl) c1026)
  exact j_widen (by omega) (by omega) (nx _ _ σ' ρ' τ' (CW_mv w' (fun j hj => ⟨rfl, hfr2 j hj⟩)) m'' hI' hM')
theorem s_told (h : Cx X g RL nm cL_law 4 24 600000 7302249 ret) (hs : Sc X g b N xv) (hi : i + 5 ≤ N) (w : CW g ad σ ρ C) (m : MW g ad σ τ C) (hI : Inv σ) (hM : InvM σ) (hk : k + 2 ≤ 600000) (hn : n + 66 ≤ 7302249) (nx : Nx X g Q b i k n) : J X g 4 Q k n ad C 1031 [some (.ref b), some (.ref (ad 0)), some (.ref (ad 20)), some (.int (nI i))] [] := by
  obtain ⟨v, σ', mc, ms, hmc, hms, hI', hM', hc, hr⟩ := p_told (l := xl X) (g := g) (x := xv (i + 1)) (y := xv (i + 2)) hI hM
  refine j_aload1 (pc := 1031) h dL_law_1031 ?_
  refine j_aload0 (pc := 1032) h dL_law_1032 ?_
  refine j_iload3 (pc := 1033) h dL_law_1033 ?_
  refine j_iconst (pc := 1034) h dL_law_1034 ic_1 ?_
  refine j_iaddN (pc := 1035) h dL_law_1035 ?_
  refine j_sld (pc := 1036) h hs dL_law_1036 (by omega) ?_
  refine j_aload0 (pc := 1037) h dL_law_1037 ?_
  refine j_iload3 (pc := 1038) h dL_law_1038 ?_
  refine j_iconst (pc := 1039) h dL_law_1039 ic_2 ?_
  refine j_iaddN (pc := 1040) h dL_law_1040 ?_
  refine j_sld (pc := 1041) h hs dL_law_1041 (by omega) ?_
  refine j_callV (pc := 1042) h dL_law_1042 (hc w) mv_L_129 (w.1) rfl rfl (by decide) (Nat.le_of_ble_eq_true rfl) (by omega) (by omega) (fun v1042 ad1042 C1042 hp1042 => ?_)
  obtain ⟨rfl, ⟨ρ', w'⟩, hfr, had⟩ := hp1042
  have e0 : ad1042 0 = ad 0 := had 0 (ne_no w.1)
  have e20 : ad1042 20 = ad 20 := had 20 (ne_no m.1)
  have m' := MW_mv m hfr had
  refine j_L (L' := [some (.ref b), some (.ref (ad1042 0)), some (.ref (ad1042 20)), some (.int (nI i))]) (by rw [e0, e20]) ?_
  refine j_aload2 (pc := 1045) h dL_law_1045 ?_
  refine j_aload0 (pc := 1046) h dL_law_1046 ?_
  refine j_iload3 (pc := 1047) h dL_law_1047 ?_
  refine j_iconst (pc := 1048) h dL_law_1048 ic_1 ?_
  refine j_iaddN (pc := 1049) h dL_law_1049 ?_
  refine j_sld (pc := 1050) h hs dL_law_1050 (by omega) ?_
  refine j_aload0 (pc := 1051) h dL_law_1051 ?_
  refine j_iload3 (pc := 1052) h dL_law_1052 ?_
  refine j_iconst (pc := 1053) h dL_law_1053 ic_2 ?_
  refine j_iaddN (pc := 1054) h dL_law_1054 ?_
  refine j_sld (pc := 1055) h hs dL_law_1055 (by omega) ?_
  refine j_callV (pc := 1056) h dL_law_1056 (hr m') mv_L_132 (m'.1) rfl rfl (by decide) (Nat.le_of_ble_eq_true rfl) (by omega) (by omega) (fun v1056 ad1056 C1056 hp1056 => ?_)
  obtain ⟨rfl, e, ⟨τ', m''⟩, hfr2⟩ := hp1056; subst e
  refine j_icmp_eq (pc := 1059) (tgt := 1087) h dL_law_1059 (by decide) (fun c1059 => ?_) (fun c1059 => absurd (rfl) c1059)
  exact j_widen (by omega) (by omega) (nx _ _ σ' ρ' τ' (CW_mv w' (fun j hj => ⟨rfl, hfr2 j hj⟩)) m'' hI' hM')
theorem s_count (h : Cx X g RL nm cL_law 4 24 600000 7302249 ret) (hs : Sc X g b N xv) (hi : i + 5 ≤ N) (w : CW g ad σ ρ C) (m : MW g ad σ τ C) (hI : Inv σ) (hM : InvM σ) (hk : k + 2 ≤ 600000) (hn : n + 66 ≤ 7302249) (nx : Nx X g Q b i k n) : J X g 4 Q k n ad C 1064 [some (.ref b), some (.ref (ad 0)), some (.ref (ad 20)), some (.int (nI i))] [] := by
  obtain ⟨v, σ', mc, ms, hmc, hms, hI', hM', hc, hr⟩ := p_count (l := xl X) (g := g) (x := xv (i + 1)) hI hM
  refine j_aload1 (pc := 1064) h dL_law_1064 ?_
  refine j_aload0 (pc := 1065) h dL_law_1065 ?_
  refine j_iload3 (pc := 1066) h dL_law_1066 ?_
  refine j_iconst (pc := 1067) h dL_law_1067 ic_1 ?_
  refine j_iaddN (pc := 1068) h dL_law_1068 ?_
  refine j_sld (pc := 1069) h hs dL_law_1069 (by omega) ?_
  refine j_callV (pc := 1070) h dL_law_1070 (hc w) mv_L_133 (w.1) rfl rfl (by decide) (Nat.le_of_ble_eq_true rfl) (by omega) (by omega) (fun v1070 ad1070 C1070 hp1070 => ?_)
  obtain ⟨rfl, ⟨ρ', w'⟩, hfr, had⟩ := hp1070
  have e0 : ad1070 0 = ad 0 := had 0 (ne_no w.1)
  have e20 : ad1070 20 = ad 20 := had 20 (ne_no m.1)
  have m' := MW_mv m hfr had
  refine j_L (L' := [some (.ref b), some (.ref (ad1070 0)), some (.ref (ad1070 20)), some (.int (nI i))]) (by rw [e0, e20]) ?_
  refine j_aload2 (pc := 1073) h dL_law_1073 ?_
  refine j_aload0 (pc := 1074) h dL_law_1074 ?_
  refine j_iload3 (pc := 1075) h dL_law_1075 ?_
  refine j_iconst (pc := 1076) h dL_law_1076 ic_1 ?_
  refine j_iaddN (pc := 1077) h dL_law_1077 ?_
  refine j_sld (pc := 1078) h hs dL_law_1078 (by omega) ?_
  refine j_callV (pc := 1079) h dL_law_1079 (hr m') mv_L_136 (m'.1) rfl rfl (by decide) (Nat.le_of_ble_eq_true rfl) (by omega) (by omega) (fun v1079 ad1079 C1079 hp1079 => ?_)
  obtain ⟨rfl, e, ⟨τ', m''⟩, hfr2⟩ := hp1079; subst e
  refine j_icmp_eq (pc := 1082) (tgt := 1087) h dL_law_1082 (by decide) (fun c1082 => ?_) (fun c1082 => absurd (rfl) c1082)
  exact j_widen (by omega) (by omega) (nx _ _ σ' ρ' τ' (CW_mv w' (fun j hj => ⟨rfl, hfr2 j hj⟩)) m'' hI' hM')
end LS

