/-! The law: its loop, its start -/
theorem and31 (x : Int32) : ∃ j, j < 32 ∧ x &&& nI 31 = nI j := by
  refine ⟨x.toBitVec.toNat % 32, Nat.mod_lt _ (by decide), ?_⟩
  apply Int32.toBitVec_inj.mp
  apply BitVec.eq_of_toNat_eq
  rw [Int32.toBitVec_and, BitVec.toNat_and]
  show x.toBitVec.toNat &&& (BitVec.ofNat 32 31).toNat = (BitVec.ofNat 32 (x.toBitVec.toNat % 32)).toNat
  rw [BitVec.toNat_ofNat, BitVec.toNat_ofNat, show 31 % 2 ^ 32 = 2 ^ 5 - 1 from rfl, Nat.and_two_pow_sub_one_eq_mod]
  have := Nat.mod_lt x.toBitVec.toNat (show 0 < 32 by decide)
  show x.toBitVec.toNat % 32 = _
  omega
section LP
variable {X : CX} {g : GG} {nm : String} {ret : Option FieldType} {Q : State → Prop} {b N : Nat} {xv : Nat → Int32}
theorem law_loop (h : Cx X g RL nm cL_law 4 24 600000 7302249 ret) (hs : Sc X g b N xv) (hend : ∀ k n ad C L, k ≤ 600000 → n ≤ 7302249 → J X g 4 Q k n ad C 1093 L []) : ∀ r i k n ad C σ ρ τ, N < i + 5 * r + 5 → i ≤ 2560 → k ≤ 100 + 2 * i → n ≤ 10000 + 66 * i → CW g ad σ ρ C → MW g ad σ τ C → Inv σ → InvM σ → J X g 4 Q k n ad C 18 [some (.ref b), some (.ref (ad 0)), some (.ref (ad 20)), some (.int (nI i))] [] := by
  have hN := hs.2.2.2
  intro r
  induction r with
  | zero =>
    intro i k n ad C σ ρ τ hr hi hk hn w m hI hM
    refine j_iload3 (pc := 18) h dL_law_18 ?_
    refine j_aload0 (pc := 19) h dL_law_19 ?_
    refine j_slen (pc := 20) h hs dL_law_20 ?_
    refine j_iconst (pc := 21) h dL_law_21 ic_5 ?_
    refine j_isub (pc := 22) h dL_law_22 ?_
    refine j_icmp_gt (pc := 23) (tgt := 1093) h dL_law_23 (by decide) (fun c23 => ?_) (fun c23 => absurd (by rw [Int32.lt_iff_toInt_lt, pk_sub_toInt (by omega) (by omega), nI_toInt (by omega)]; omega) c23)
    exact hend _ _ _ _ _ (by omega) (by omega)
  | succ r ih =>
    intro i k n ad C σ ρ τ hr hi hk hn w m hI hM
    by_cases h5 : i + 5 ≤ N
    · have nx : Nx X g Q b i k n := by
        intro ad C σ ρ τ w m hI hM
        refine j_iinc3 (pc := 1087) h dL_law_1087 rfl (show nI i + Int32.ofInt 5 = nI (i + 5) from nI_add i 5) ?_
        refine j_goto (pc := 1090) (tgt := 18) h dL_law_1090 (by decide) ?_
        exact ih (i + 5) _ _ _ _ σ ρ τ (by omega) (by omega) (by omega) (by omega) w m hI hM
      refine j_iload3 (pc := 18) h dL_law_18 ?_
      refine j_aload0 (pc := 19) h dL_law_19 ?_
      refine j_slen (pc := 20) h hs dL_law_20 ?_
      refine j_iconst (pc := 21) h dL_law_21 ic_5 ?_
      refine j_isub (pc := 22) h dL_law_22 ?_
      refine j_icmp_gt (pc := 23) (tgt := 1093) h dL_law_23 (by decide) (fun c23 => absurd c23 (by rw [Int32.lt_iff_toInt_lt, pk_sub_toInt (by omega) (by omega), nI_toInt (by omega)]; omega)) (fun c23 => ?_)
      refine j_aload0 (pc := 26) h dL_law_26 ?_
      refine j_iload3 (pc := 27) h dL_law_27 ?_
      refine j_sld (pc := 28) h hs dL_law_28 (by omega) ?_
      refine j_bipush (pc := 29) h dL_law_29 bp_31 ?_
      refine j_iand (pc := 31) h dL_law_31 ?_
      obtain ⟨j, hj, ej⟩ := and31 (xv i)
      refine j_topi ej ?_
      rcases (show j = 0 ∨ j = 1 ∨ j = 2 ∨ j = 3 ∨ j = 4 ∨ j = 5 ∨ j = 6 ∨ j = 7 ∨ j = 8 ∨ j = 9 ∨ j = 10 ∨ j = 11 ∨ j = 12 ∨ j = 13 ∨ j = 14 ∨ j = 15 ∨ j = 16 ∨ j = 17 ∨ j = 18 ∨ j = 19 ∨ j = 20 ∨ j = 21 ∨ j = 22 ∨ j = 23 ∨ j = 24 ∨ j = 25 ∨ j = 26 ∨ j = 27 ∨ j = 28 ∨ j = 29 ∨ j = 30 ∨ j = 31 by omega) with rfl | rfl | rfl | rfl | rfl | rfl | rfl | rfl | rfl | rfl | rfl | rfl | rfl | rfl | rfl | rfl | rfl | rfl | rfl | rfl | rfl | rfl | rfl | rfl | rfl | rfl | rfl | rfl | rfl | rfl | rfl | rfl
      · exact j_tableIn (pc := 32) (tgt := 164) h dL_law_32 (by decide) (by decide) rfl (by decide) (s_go h hs h5 w m hI hM (by omega) (by omega) nx)
      · exact j_tableIn (pc := 32) (tgt := 187) h dL_law_32 (by decide) (by decide) rfl (by decide) (s_folder h hs h5 w m hI hM (by omega) (by omega) nx)
      · exact j_tableIn (pc := 32) (tgt := 246) h dL_law_32 (by decide) (by decide) rfl (by decide) (s_move h hs h5 w m hI hM (by omega) (by omega) nx)
      · exact j_tableIn (pc := 32) (tgt := 279) h dL_law_32 (by decide) (by decide) rfl (by decide) (s_file h hs h5 w m hI hM (by omega) (by omega) nx)
      · exact j_tableIn (pc := 32) (tgt := 322) h dL_law_32 (by decide) (by decide) rfl (by decide) (s_copy h hs h5 w m hI hM (by omega) (by omega) nx)
      · exact j_tableIn (pc := 32) (tgt := 355) h dL_law_32 (by decide) (by decide) rfl (by decide) (s_link h hs h5 w m hI hM (by omega) (by omega) nx)
      · exact j_tableIn (pc := 32) (tgt := 388) h dL_law_32 (by decide) (by decide) rfl (by decide) (s_unlink h hs h5 w m hI hM (by omega) (by omega) nx)
      · exact j_tableIn (pc := 32) (tgt := 411) h dL_law_32 (by decide) (by decide) rfl (by decide) (s_of h hs h5 w m hI hM (by omega) (by omega) nx)
      · exact j_tableIn (pc := 32) (tgt := 434) h dL_law_32 (by decide) (by decide) rfl (by decide) (s_write h hs h5 w m hI hM (by omega) (by omega) nx)
      · exact j_tableIn (pc := 32) (tgt := 467) h dL_law_32 (by decide) (by decide) rfl (by decide) (s_hole h hs h5 w m hI hM (by omega) (by omega) nx)
      · exact j_tableIn (pc := 32) (tgt := 500) h dL_law_32 (by decide) (by decide) rfl (by decide) (s_share h hs h5 w m hI hM (by omega) (by omega) nx)
      · exact j_tableIn (pc := 32) (tgt := 553) h dL_law_32 (by decide) (by decide) rfl (by decide) (s_cut h hs h5 w m hI hM (by omega) (by omega) nx)
      · exact j_tableIn (pc := 32) (tgt := 586) h dL_law_32 (by decide) (by decide) rfl (by decide) (s_block h hs h5 w m hI hM (by omega) (by omega) nx)
      · exact j_tableIn (pc := 32) (tgt := 619) h dL_law_32 (by decide) (by decide) rfl (by decide) (s_sum h hs h5 w m hI hM (by omega) (by omega) nx)
      · exact j_tableIn (pc := 32) (tgt := 662) h dL_law_32 (by decide) (by decide) rfl (by decide) (s_named h hs h5 w m hI hM (by omega) (by omega) nx)
      · exact j_tableIn (pc := 32) (tgt := 705) h dL_law_32 (by decide) (by decide) rfl (by decide) (s_snapshot h hs h5 w m hI hM (by omega) (by omega) nx)
      · exact j_tableIn (pc := 32) (tgt := 718) h dL_law_32 (by decide) (by decide) rfl (by decide) (s_drop h hs h5 w m hI hM (by omega) (by omega) nx)
      · exact j_tableIn (pc := 32) (tgt := 741) h dL_law_32 (by decide) (by decide) rfl (by decide) (s_alone h hs h5 w m hI hM (by omega) (by omega) nx)
      · exact j_tableIn (pc := 32) (tgt := 764) h dL_law_32 (by decide) (by decide) rfl (by decide) (s_mark h hs h5 w m hI hM (by omega) (by omega) nx)
      · exact j_tableIn (pc := 32) (tgt := 777) h dL_law_32 (by decide) (by decide) rfl (by decide) (s_grew h hs h5 w m hI hM (by omega) (by omega) nx)
      · exact j_tableIn (pc := 32) (tgt := 820) h dL_law_32 (by decide) (by decide) rfl (by decide) (s_freed h hs h5 w m hI hM (by omega) (by omega) nx)
      · exact j_tableIn (pc := 32) (tgt := 843) h dL_law_32 (by decide) (by decide) rfl (by decide) (s_both h hs h5 w m hI hM (by omega) (by omega) nx)
      · exact j_tableIn (pc := 32) (tgt := 876) h dL_law_32 (by decide) (by decide) rfl (by decide) (s_plan h hs h5 w m hI hM (by omega) (by omega) nx)
      · exact j_tableIn (pc := 32) (tgt := 909) h dL_law_32 (by decide) (by decide) rfl (by decide) (s_planned h hs h5 w m hI hM (by omega) (by omega) nx)
      · exact j_tableIn (pc := 32) (tgt := 952) h dL_law_32 (by decide) (by decide) rfl (by decide) (s_largest h hs h5 w m hI hM (by omega) (by omega) nx)
      · exact j_tableIn (pc := 32) (tgt := 985) h dL_law_32 (by decide) (by decide) rfl (by decide) (s_holds h hs h5 w m hI hM (by omega) (by omega) nx)
      · exact j_tableIn (pc := 32) (tgt := 1008) h dL_law_32 (by decide) (by decide) rfl (by decide) (s_full h hs h5 w m hI hM (by omega) (by omega) nx)
      · exact j_tableIn (pc := 32) (tgt := 1031) h dL_law_32 (by decide) (by decide) rfl (by decide) (s_told h hs h5 w m hI hM (by omega) (by omega) nx)
      · exact j_tableIn (pc := 32) (tgt := 1064) h dL_law_32 (by decide) (by decide) rfl (by decide) (s_count h hs h5 w m hI hM (by omega) (by omega) nx)
      · exact j_tableOut (pc := 32) (tgt := 1087) h dL_law_32 (by decide) (by decide) (j_widen (by omega) (by omega) (nx _ _ σ ρ τ w m hI hM))
      · exact j_tableOut (pc := 32) (tgt := 1087) h dL_law_32 (by decide) (by decide) (j_widen (by omega) (by omega) (nx _ _ σ ρ τ w m hI hM))
      · exact j_tableOut (pc := 32) (tgt := 1087) h dL_law_32 (by decide) (by decide) (j_widen (by omega) (by omega) (nx _ _ σ ρ τ w m hI hM))
    · refine j_iload3 (pc := 18) h dL_law_18 ?_
      refine j_aload0 (pc := 19) h dL_law_19 ?_
      refine j_slen (pc := 20) h hs dL_law_20 ?_
      refine j_iconst (pc := 21) h dL_law_21 ic_5 ?_
      refine j_isub (pc := 22) h dL_law_22 ?_
      refine j_icmp_gt (pc := 23) (tgt := 1093) h dL_law_23 (by decide) (fun c23 => ?_) (fun c23 => absurd (by rw [Int32.lt_iff_toInt_lt, pk_sub_toInt (by omega) (by omega), nI_toInt (by omega)]; omega) c23)
      exact hend _ _ _ _ _ (by omega) (by omega)
theorem law_top (h : Cx X g RL nm cL_law 4 24 600000 7302249 ret) (hs : Sc X g b N xv) (hend : ∀ k n ad C L, k ≤ 600000 → n ≤ 7302249 → J X g 4 Q k n ad C 1093 L []) : J X g 4 Q 0 0 (fun _ => 0) (fun _ => none) 0 [some (.ref b), none, none, none] [] := by
  have hN := hs.2.2.2
  refine j_new (pc := 0) (j := 0) h dL_law_0 (rfl) nl_L_7 (by decide) (by decide) (fun q => ?_)
  obtain ⟨x0, e1, e2, e3⟩ := ad_up (ad := fun _ => 0) 0 q
  rw [e1]
  refine j_st (st' := [.ref (x0 0)]) (by rw [e2]) ?_
  refine j_dupR (pc := 3) h dL_law_3 ?_
  refine j_callI (pc := 4) h dL_law_4 (k_X7_init (ad := x0) rfl (fun i hi => va_up_ne _ _ (by omega))) mi_L_9 rfl rfl (by decide) (Nat.le_of_ble_eq_true rfl) (Nat.le_of_ble_eq_true rfl) (Nat.le_of_ble_eq_true rfl) (fun v4 ad4 C4 hp4 => ?_)
  obtain ⟨rfl, ⟨fr, fb⟩, w⟩ := hp4
  have u : ∀ i, 19 < i → C4 i = none := fun i hi => ((fr i (by omega)).2).trans (va_up_ne _ _ (by omega))
  refine j_st (st' := [.ref (ad4 0)]) (by rw [fb]; rfl) ?_
  refine j_astore1 (pc := 7) h dL_law_7 rfl ?_
  refine j_new (pc := 8) (j := 20) h dL_law_8 ((u 20 (by decide))) nl_L_10 (by decide) (by decide) (fun q => ?_)
  obtain ⟨x1, d1, d2, d3⟩ := ad_up (ad := ad4) 20 q
  rw [d1]
  refine j_st (st' := [.ref (x1 20)]) (by rw [d2]) ?_
  refine j_L (L' := [some (.ref b), some (.ref (x1 0)), none, none]) (by rw [d3 0 (by decide)]) ?_
  refine j_dupR (pc := 11) h dL_law_11 ?_
  refine j_callI (pc := 12) h dL_law_12 (k_X8_init (ad := x1) rfl (fun i h1 h2 => (va_up_ne _ _ (by omega)).trans (u i (by omega)))) mi_L_12 rfl rfl (by decide) (Nat.le_of_ble_eq_true rfl) (Nat.le_of_ble_eq_true rfl) (Nat.le_of_ble_eq_true rfl) (fun v12 ad12 C12 hp12 => ?_)
  obtain ⟨rfl, ⟨fr2, fb2⟩, m⟩ := hp12
  have w2 : CW g ad12 s0 r0 C12 := CW_mv w (fun j hj => ⟨((fr2 j (by omega)).1).trans (d3 j (by omega)), ((fr2 j (by omega)).2).trans (va_up_ne _ _ (by omega))⟩)
  refine j_st (st' := [.ref (ad12 20)]) (by rw [fb2]; rfl) ?_
  refine j_L (L' := [some (.ref b), some (.ref (ad12 0)), none, none]) (by rw [(fr2 0 (by decide)).1]) ?_
  refine j_astore2 (pc := 15) h dL_law_15 rfl ?_
  refine j_iconst (pc := 16) h dL_law_16 ic_0 ?_
  refine j_istore3 (pc := 17) h dL_law_17 rfl ?_
  exact law_loop h hs hend N 0 _ _ ad12 C12 s0 r0 t0 (by omega) (by omega) (by omega) (by omega) w2 m Inv_0 InvM_0
end LP
/-! What holds at the law's entry, in J's words -/
theorem wm_nw {w : Cond} {s : State} {A : Array Value} (hok : wm_ok w = true) (h : w.before A s = true) : va_Nw w s := by
  unfold wm_ok at hok
  split at hok
  · exact va_Nw.of rfl h
  · exact va_Nw.of rfl h
  · exact va_AO.of h
  · exact word_at (State.WarmedH.refl s) (good_of_word hok) h
theorem kn_of {own : String} {idx ci N : Nat} {fs : List Value} (h : NL own idx ci N fs) {s : State} {A : Array Value} (hts : ∀ w ∈ lw_tbl, w.before A s = true) : ∃ (cC : ClassId) (iS : Nat → Nat), ∀ q, vwCl[ci]? = some q → u_Kn s q.1 q.2.1 q.2.2 cC iS := by
  obtain ⟨q, ty, h1, -, hin, hty, w1, w2, w3, hfs⟩ := h
  obtain ⟨cC, iS, k⟩ := u_known (C := q.1) (T := q.2.1) (N := q.2.2) (n := q.2.2) hts (fun w hw => (List.mem_filter.mp (hin w hw)).1) (hts _ w2.1)
  exact ⟨cC, iS, fun q' e => by rw [h1] at e; cases e; exact k⟩
theorem kn_all {s : State} {A : Array Value} (hts : ∀ w ∈ lw_tbl, w.before A s = true) (c : Nat) : ∃ (cC : ClassId) (iS : Nat → Nat), ∀ q, vwCl[c]? = some q → u_Kn s q.1 q.2.1 q.2.2 cC iS := by
  rcases (show c = 0 ∨ c = 1 ∨ c = 2 ∨ c = 3 ∨ c = 4 ∨ c = 5 ∨ c = 6 ∨ c = 7 ∨ c = 8 ∨ 9 ≤ c by omega) with rfl | rfl | rfl | rfl | rfl | rfl | rfl | rfl | rfl | hc
  · exact kn_of nl_X7_16 hts
  · exact kn_of nl_X7_9 hts
  · exact kn_of nl_X7_37 hts
  · exact kn_of nl_X7_23 hts
  · exact kn_of nl_X7_44 hts
  · exact kn_of nl_X7_30 hts
  · exact kn_of nl_X7_87 hts
  · exact kn_of nl_L_7 hts
  · exact kn_of nl_L_10 hts
  · obtain ⟨cC, iS, _⟩ := kn_of nl_L_7 hts
    exact ⟨cC, iS, fun q e => by rw [List.getElem?_eq_none (by simpa using hc)] at e; cases e⟩
theorem KK_of {s : State} {A : Array Value} (hts : ∀ w ∈ lw_tbl, w.before A s = true) (z : Nat) : ∃ g : GG, g.1 = z ∧ KK g s := by
  obtain ⟨aI, kI, cI, i1, i2, i3⟩ := Cond.arrayClass_spec (hts _ tw_ac_int.1)
  obtain ⟨aZ, kZ, cZ, z1, z2, z3⟩ := Cond.arrayClass_spec (hts _ tw_ac_boolean.1)
  obtain ⟨aJ, kJ, cJ, j1, j2, j3⟩ := Cond.arrayClass_spec (hts _ tw_ac_long.1)
  obtain ⟨cO, aO, kO, o1, o2, o3, o4, o5⟩ := Cond.arrayOver_spec (hts _ tw_ao.1)
  refine ⟨(z, (fun c => Classical.choose (kn_all hts c), fun c => Classical.choose (Classical.choose_spec (kn_all hts c))), aI, aZ, aJ, aO), rfl, ⟨fun c q hq => Classical.choose_spec (Classical.choose_spec (kn_all hts c)) q hq, fun k q hq => ?_⟩, fun w hw ok => wm_nw ok (hts w hw)⟩
  match k, hq with
  | 0, hq => cases hq; exact ⟨fun n z => ⟨fun k h => (by cases h), kI, i2, cI, i3⟩, i1⟩
  | 1, hq => cases hq; exact ⟨fun n z => ⟨fun k h => (by cases h), kZ, z2, cZ, z3⟩, z1⟩
  | 2, hq => cases hq; exact ⟨fun n z => ⟨fun k h => (by cases h), kJ, j2, cJ, j3⟩, j1⟩
  | 3, hq => cases hq; exact ⟨fun n z => ⟨fun k h => (by cases h), kO, o3, cO, o4⟩, ⟨kO, cO, o3, o4, o1, o5⟩⟩
  | k + 4, hq => simp [gT] at hq

