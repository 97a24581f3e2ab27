/-! The two programs' start -/
/-- the state at the start -/
def s0 : Sg := (fun i => if i = 0 then 1 else if i = 5 then 60 else 0, fun _ _ => 0, fun _ _ => false, fun _ _ => 0, fun _ => some 0, fun _ => 0)
def t0 : Tm := (fun _ => false, fun _ => 0, fun _ => 0, 0, 0)
theorem Inv_0 : Inv s0 := by
  refine ⟨by decide, fun j hj => ?_, fun j hj h0 => ?_, fun k hk => absurd hk (Nat.not_lt_zero k), fun i hi => absurd hi (Nat.not_lt_zero i), fun _ _ => rfl, fun q b h => ?_, fun s => lo60_0⟩
  · have hj' : j < 1 := hj
    obtain rfl : j = 0 := by omega
    exact okc_0 29
  · have hj' : j < 1 := hj
    omega
  · have h' : some 0 = some b := h
    cases h'; decide
theorem InvM_0 : InvM s0 := ⟨fun k hk => absurd hk (Nat.not_lt_zero k), fun k hk => absurd hk (Nat.not_lt_zero _), fun _ _ => rfl, fun _ => Nat.zero_le _⟩
theorem par0 : upd (fun _ => (0 : Int32)) 0 (-1) = parF s0.pr := by
  funext j
  by_cases h : j = 0
  · subst h; rfl
  · simp [upd, parF, h]; rfl
section CJ
variable {l : Launch} {g : GG} {ad : AD} {C : CC}
theorem k_X8_init (hj : C 20 = some (.inr (8, [.int 0, .int 0, .null, .null, .null, .int 0, .null, .null, .null, .null, .null, .int 0, .null, .null, .null, .null, .null, .int 0, .null, .null, .int 0, .null, .null, .null, .int 0, .int 0]))) (hn : ∀ i, 21 ≤ i → i ≤ 38 → C i = none) : Ct l g yX8_init cX8_init 1 none 2 18 3678 [.ref (ad 20)] ad C (fun r ad' C' => r = none ∧ FrC 20 38 ad C ad' C' ∧ MW g ad' s0 t0 C') := by
  refine Ct_of [some (.ref (ad 20))] (by decide) rfl rfl (Nat.le_of_ble_eq_true rfl) rfl rfl (fun X hX h => ?_)
  subst hX
  refine j_aload0 (pc := 0) h dX8_init_0 ?_
  refine j_objInit (pc := 1) h dX8_init_1 oi_X8_1 tw_oi tw_oc (by decide) (Nat.le_of_ble_eq_true rfl) ?_
  refine j_aload0 (pc := 4) h dX8_init_4 ?_
  refine j_iconst (pc := 5) h dX8_init_5 ic_1 ?_
  refine j_putv (pc := 6) (j := 20) h dX8_init_6 (hj) pl_X8_7 rfl rfl (Nat.le_of_ble_eq_true rfl) ?_
  refine j_aload0 (pc := 9) h dX8_init_9 ?_
  refine j_bipush (pc := 10) h dX8_init_10 bp_30 ?_
  refine j_newI (pc := 12) (j := 21) h dX8_init_12 (hn 21 (by decide) (by decide)) tw_ac_int (by decide) (by decide) (by decide) (fun q21 => ?_)
  refine j_putF (pc := 14) (j := 20) h rfl dX8_init_14 (rfl) pl_X8_13 rfl rfl rfl (Nat.le_of_ble_eq_true rfl) ?_
  refine j_aload0 (pc := 17) h dX8_init_17 ?_
  refine j_bipush (pc := 18) h dX8_init_18 bp_30 ?_
  refine j_newI (pc := 20) (j := 22) h dX8_init_20 (hn 22 (by decide) (by decide)) tw_ac_int (by decide) (by decide) (by decide) (fun q22 => ?_)
  refine j_putF (pc := 22) (j := 20) h rfl dX8_init_22 (rfl) pl_X8_17 rfl rfl rfl (Nat.le_of_ble_eq_true rfl) ?_
  refine j_aload0 (pc := 25) h dX8_init_25 ?_
  refine j_bipush (pc := 26) h dX8_init_26 bp_30 ?_
  refine j_newZ (pc := 28) (j := 23) h dX8_init_28 (hn 23 (by decide) (by decide)) tw_ac_boolean (by decide) (by decide) (by decide) (fun q23 => ?_)
  refine j_putF (pc := 30) (j := 20) h rfl dX8_init_30 (rfl) pl_X8_20 rfl rfl rfl (Nat.le_of_ble_eq_true rfl) ?_
  refine j_aload0 (pc := 33) h dX8_init_33 ?_
  refine j_bipush (pc := 34) h dX8_init_34 bp_40 ?_
  refine j_newI (pc := 36) (j := 24) h dX8_init_36 (hn 24 (by decide) (by decide)) tw_ac_int (by decide) (by decide) (by decide) (fun q24 => ?_)
  refine j_putF (pc := 38) (j := 20) h rfl dX8_init_38 (rfl) pl_X8_24 rfl rfl rfl (Nat.le_of_ble_eq_true rfl) ?_
  refine j_aload0 (pc := 41) h dX8_init_41 ?_
  refine j_sipush (pc := 42) h dX8_init_42 sp_2400 ?_
  refine j_newI (pc := 45) (j := 25) h dX8_init_45 (hn 25 (by decide) (by decide)) tw_ac_int (by decide) (by decide) (by decide) (fun q25 => ?_)
  refine j_putF (pc := 47) (j := 20) h rfl dX8_init_47 (rfl) pl_X8_27 rfl rfl rfl (Nat.le_of_ble_eq_true rfl) ?_
  refine j_aload0 (pc := 50) h dX8_init_50 ?_
  refine j_bipush (pc := 51) h dX8_init_51 bp_40 ?_
  refine j_newI (pc := 53) (j := 26) h dX8_init_53 (hn 26 (by decide) (by decide)) tw_ac_int (by decide) (by decide) (by decide) (fun q26 => ?_)
  refine j_putF (pc := 55) (j := 20) h rfl dX8_init_55 (rfl) pl_X8_30 rfl rfl rfl (Nat.le_of_ble_eq_true rfl) ?_
  refine j_aload0 (pc := 58) h dX8_init_58 ?_
  refine j_bipush (pc := 59) h dX8_init_59 bp_40 ?_
  refine j_newI (pc := 61) (j := 27) h dX8_init_61 (hn 27 (by decide) (by decide)) tw_ac_int (by decide) (by decide) (by decide) (fun q27 => ?_)
  refine j_putF (pc := 63) (j := 20) h rfl dX8_init_63 (rfl) pl_X8_33 rfl rfl rfl (Nat.le_of_ble_eq_true rfl) ?_
  refine j_aload0 (pc := 66) h dX8_init_66 ?_
  refine j_bipush (pc := 67) h dX8_init_67 bp_40 ?_
  refine j_newI (pc := 69) (j := 28) h dX8_init_69 (hn 28 (by decide) (by decide)) tw_ac_int (by decide) (by decide) (by decide) (fun q28 => ?_)
  refine j_putF (pc := 71) (j := 20) h rfl dX8_init_71 (rfl) pl_X8_36 rfl rfl rfl (Nat.le_of_ble_eq_true rfl) ?_
  refine j_aload0 (pc := 74) h dX8_init_74 ?_
  refine j_bipush (pc := 75) h dX8_init_75 bp_100 ?_
  refine j_newI (pc := 77) (j := 29) h dX8_init_77 (hn 29 (by decide) (by decide)) tw_ac_int (by decide) (by decide) (by decide) (fun q29 => ?_)
  refine j_putF (pc := 79) (j := 20) h rfl dX8_init_79 (rfl) pl_X8_39 rfl rfl rfl (Nat.le_of_ble_eq_true rfl) ?_
  refine j_aload0 (pc := 82) h dX8_init_82 ?_
  refine j_bipush (pc := 83) h dX8_init_83 bp_100 ?_
  refine j_newI (pc := 85) (j := 30) h dX8_init_85 (hn 30 (by decide) (by decide)) tw_ac_int (by decide) (by decide) (by decide) (fun q30 => ?_)
  refine j_putF (pc := 87) (j := 20) h rfl dX8_init_87 (rfl) pl_X8_42 rfl rfl rfl (Nat.le_of_ble_eq_true rfl) ?_
  refine j_aload0 (pc := 90) h dX8_init_90 ?_
  refine j_bipush (pc := 91) h dX8_init_91 bp_100 ?_
  refine j_newZ (pc := 93) (j := 31) h dX8_init_93 (hn 31 (by decide) (by decide)) tw_ac_boolean (by decide) (by decide) (by decide) (fun q31 => ?_)
  refine j_putF (pc := 95) (j := 20) h rfl dX8_init_95 (rfl) pl_X8_45 rfl rfl rfl (Nat.le_of_ble_eq_true rfl) ?_
  refine j_aload0 (pc := 98) h dX8_init_98 ?_
  refine j_bipush (pc := 99) h dX8_init_99 bp_8 ?_
  refine j_newZ (pc := 101) (j := 32) h dX8_init_101 (hn 32 (by decide) (by decide)) tw_ac_boolean (by decide) (by decide) (by decide) (fun q32 => ?_)
  refine j_putF (pc := 103) (j := 20) h rfl dX8_init_103 (rfl) pl_X8_48 rfl rfl rfl (Nat.le_of_ble_eq_true rfl) ?_
  refine j_aload0 (pc := 106) h dX8_init_106 ?_
  refine j_bipush (pc := 107) h dX8_init_107 bp_8 ?_
  refine j_newJ (pc := 109) (j := 33) h dX8_init_109 (hn 33 (by decide) (by decide)) tw_ac_long (by decide) (by decide) (by decide) (fun q33 => ?_)
  refine j_putF (pc := 111) (j := 20) h rfl dX8_init_111 (rfl) pl_X8_51 rfl rfl rfl (Nat.le_of_ble_eq_true rfl) ?_
  refine j_aload0 (pc := 114) h dX8_init_114 ?_
  refine j_bipush (pc := 115) h dX8_init_115 bp_20 ?_
  refine j_newI (pc := 117) (j := 34) h dX8_init_117 (hn 34 (by decide) (by decide)) tw_ac_int (by decide) (by decide) (by decide) (fun q34 => ?_)
  refine j_putF (pc := 119) (j := 20) h rfl dX8_init_119 (rfl) pl_X8_55 rfl rfl rfl (Nat.le_of_ble_eq_true rfl) ?_
  refine j_aload0 (pc := 122) h dX8_init_122 ?_
  refine j_sipush (pc := 123) h dX8_init_123 sp_600 ?_
  refine j_newI (pc := 126) (j := 35) h dX8_init_126 (hn 35 (by decide) (by decide)) tw_ac_int (by decide) (by decide) (by decide) (fun q35 => ?_)
  refine j_putF (pc := 128) (j := 20) h rfl dX8_init_128 (rfl) pl_X8_58 rfl rfl rfl (Nat.le_of_ble_eq_true rfl) ?_
  refine j_aload0 (pc := 131) h dX8_init_131 ?_
  refine j_bipush (pc := 132) h dX8_init_132 bp_60 ?_
  refine j_putv (pc := 134) (j := 20) h dX8_init_134 (rfl) pl_X8_61 rfl rfl (Nat.le_of_ble_eq_true rfl) ?_
  refine j_aload0 (pc := 137) h dX8_init_137 ?_
  refine j_bipush (pc := 138) h dX8_init_138 bp_40 ?_
  refine j_newZ (pc := 140) (j := 36) h dX8_init_140 (hn 36 (by decide) (by decide)) tw_ac_boolean (by decide) (by decide) (by decide) (fun q36 => ?_)
  refine j_putF (pc := 142) (j := 20) h rfl dX8_init_142 (rfl) pl_X8_64 rfl rfl rfl (Nat.le_of_ble_eq_true rfl) ?_
  refine j_aload0 (pc := 145) h dX8_init_145 ?_
  refine j_bipush (pc := 146) h dX8_init_146 bp_12 ?_
  refine j_newI (pc := 148) (j := 37) h dX8_init_148 (hn 37 (by decide) (by decide)) tw_ac_int (by decide) (by decide) (by decide) (fun q37 => ?_)
  refine j_putF (pc := 150) (j := 20) h rfl dX8_init_150 (rfl) pl_X8_67 rfl rfl rfl (Nat.le_of_ble_eq_true rfl) ?_
  refine j_aload0 (pc := 153) h dX8_init_153 ?_
  refine j_bipush (pc := 154) h dX8_init_154 bp_40 ?_
  refine j_newJ (pc := 156) (j := 38) h dX8_init_156 (hn 38 (by decide) (by decide)) tw_ac_long (by decide) (by decide) (by decide) (fun q38 => ?_)
  refine j_putF (pc := 158) (j := 20) h rfl dX8_init_158 (rfl) pl_X8_70 rfl rfl rfl (Nat.le_of_ble_eq_true rfl) ?_
  refine j_aload0 (pc := 161) h dX8_init_161 ?_
  refine j_getf (pc := 162) (j := 20) h dX8_init_162 (rfl) fl_X8_13 rfl ?_
  refine j_iconst (pc := 165) h dX8_init_165 ic_0 ?_
  refine j_iconst (pc := 166) h dX8_init_166 ic_m1 ?_
  refine j_iast (pc := 167) (j := 21) h dX8_init_167 (rfl) (by omega) (by decide) ?_
  refine j_vret (pc := 168) h dX8_init_168 (⟨rfl, ⟨fun i hi => ⟨by repeat rw [va_up_ne _ _ (by omega)], by repeat rw [va_up_ne _ _ (by omega)]⟩, rfl⟩, rfl, eI_c par0, rfl, rfl, rfl, rfl, rfl, rfl, rfl, rfl, rfl, rfl, rfl, rfl, rfl, rfl, rfl, rfl, rfl⟩)
def r0 : Rm := (fun _ => none, fun _ => 0, fun _ => 0, fun _ => 0, fun _ => 0, 0, 0, 0, 0)
theorem k_X7_init (hj : C 0 = some (.inr (7, [.null, .null, .null, .null, .null, .null, .int 0, .int 0]))) (hn : ∀ i, 1 ≤ i → C i = none) : Ct l g yX7_init cX7_init 1 none 3 19 1023 [.ref (ad 0)] ad C (fun r ad' C' => r = none ∧ FrC 0 19 ad C ad' C' ∧ CW g ad' s0 r0 C') := by
  refine Ct_of [some (.ref (ad 0))] (by decide) rfl rfl (Nat.le_of_ble_eq_true rfl) rfl rfl (fun X hX h => ?_)
  subst hX
  refine j_aload0 (pc := 0) h dX7_init_0 ?_
  refine j_objInit (pc := 1) h dX7_init_1 oi_X7_3 tw_oi tw_oc (by decide) (Nat.le_of_ble_eq_true rfl) ?_
  refine j_aload0 (pc := 4) h dX7_init_4 ?_
  refine j_new (pc := 5) (j := 1) h dX7_init_5 (hn 1 (by decide)) nl_X7_9 (by decide) (by decide) (fun q => ?_)
  obtain ⟨x0, e1, e2, e3⟩ := ad_up (ad := ad) 1 q
  rw [e1]
  refine j_st (st' := [.ref (x0 1), .ref (x0 0)]) (by rw [e2, e3 0 (by decide)]) ?_
  refine j_L (L' := [some (.ref (x0 0))]) (by rw [e3 0 (by decide)]) ?_
  refine j_dupR (pc := 8) h dX7_init_8 ?_
  refine j_callI (pc := 9) h dX7_init_9 (k_X1_init (ad := x0) rfl (show va_up C 1 _ 2 = none from hn 2 (by decide)) (show va_up C 1 _ 3 = none from hn 3 (by decide)) (show va_up C 1 _ 4 = none from hn 4 (by decide))) mi_X7_11 rfl rfl (by decide) (Nat.le_of_ble_eq_true rfl) (Nat.le_of_ble_eq_true rfl) (Nat.le_of_ble_eq_true rfl) (fun v9 ad9 C9 hp9 => ?_)
  obtain ⟨rfl, ⟨fr, fb⟩, gg⟩ := hp9
  have z0 : ad9 0 = ad 0 := ((fr 0 (by decide)).1).trans (e3 0 (by decide))
  have v0 : ∀ i, (0 < i ∧ i < 1) ∨ 4 < i → ad9 i = ad i ∧ C9 i = C i := fun i hi => ⟨((fr i (by omega)).1).trans (e3 i (by omega)), ((fr i (by omega)).2).trans (va_up_ne _ _ (by omega))⟩
  have y0 : C9 0 = C 0 := ((fr 0 (by decide)).2).trans (va_up_ne _ _ (by decide))
  have g0 := gg
  refine j_st (st' := [.ref (ad9 1), .ref (ad9 0)]) (by rw [fb, (fr 0 (by decide)).1]; rfl) ?_
  refine j_L (L' := [some (.ref (ad9 0))]) (by rw [(fr 0 (by decide)).1]) ?_
  clear fr fb gg e1 e2 e3
  refine j_putF (pc := 12) h rfl dX7_init_12 ((y0.trans hj)) pl_X7_12 rfl rfl rfl (Nat.le_of_ble_eq_true rfl) ?_
  obtain ⟨c0, hc0⟩ : ∃ c, c = va_up C9 0 (some (.inr (7, [.ref (ad9 1), .null, .null, .null, .null, .null, .int 0, .int 0]))) := ⟨_, rfl⟩
  refine j_mem (C' := c0) (by rw [hc0]; rfl) ?_
  have w0 : c0 0 = some (.inr (7, [.ref (ad9 1), .null, .null, .null, .null, .null, .int 0, .int 0])) := by rw [hc0]; exact up_eq
  have t0 : ∀ i, 0 < i → c0 i = C9 i := fun i hi => by rw [hc0]; exact va_up_ne _ _ (by omega)
  have u0 : ∀ i, 4 < i → c0 i = none := fun i hi => by rw [t0 i (by omega), (v0 i (by omega)).2]; exact hn i (by omega)
  refine j_aload0 (pc := 15) h dX7_init_15 ?_
  refine j_new (pc := 16) (j := 5) h dX7_init_16 ((u0 5 (by decide))) nl_X7_16 (by decide) (by decide) (fun q => ?_)
  obtain ⟨x1, e1, e2, e3⟩ := ad_up (ad := ad9) 5 q
  rw [e1]
  refine j_st (st' := [.ref (x1 5), .ref (x1 0)]) (by rw [e2, e3 0 (by decide)]) ?_
  refine j_L (L' := [some (.ref (x1 0))]) (by rw [e3 0 (by decide)]) ?_
  refine j_dupR (pc := 19) h dX7_init_19 ?_
  refine j_callI (pc := 20) h dX7_init_20 (k_X0_init (ad := x1) rfl (show va_up c0 5 _ 6 = none from u0 6 (by decide))) mi_X7_18 rfl rfl (by decide) (Nat.le_of_ble_eq_true rfl) (Nat.le_of_ble_eq_true rfl) (Nat.le_of_ble_eq_true rfl) (fun v20 ad20 C20 hp20 => ?_)
  obtain ⟨rfl, ⟨fr, fb⟩, gg⟩ := hp20
  have z1 : ad20 0 = ad9 0 := ((fr 0 (by decide)).1).trans (e3 0 (by decide))
  have v1 : ∀ i, (0 < i ∧ i < 5) ∨ 6 < i → ad20 i = ad9 i ∧ C20 i = c0 i := fun i hi => ⟨((fr i (by omega)).1).trans (e3 i (by omega)), ((fr i (by omega)).2).trans (va_up_ne _ _ (by omega))⟩
  have y1 : C20 0 = c0 0 := ((fr 0 (by decide)).2).trans (va_up_ne _ _ (by decide))
  have g1 := gg
  refine j_st (st' := [.ref (ad20 5), .ref (ad20 0)]) (by rw [fb, (fr 0 (by decide)).1]; rfl) ?_
  refine j_L (L' := [some (.ref (ad20 0))]) (by rw [(fr 0 (by decide)).1]) ?_
  clear fr fb gg e1 e2 e3
  refine j_putF (pc := 23) h rfl dX7_init_23 ((y1.trans w0)) pl_X7_19 rfl rfl rfl (Nat.le_of_ble_eq_true rfl) ?_
  obtain ⟨c1, hc1⟩ : ∃ c, c = va_up C20 0 (some (.inr (7, [.ref (ad9 1), .ref (ad20 5), .null, .null, .null, .null, .int 0, .int 0]))) := ⟨_, rfl⟩
  refine j_mem (C' := c1) (by rw [hc1]; rfl) ?_
  have w1 : c1 0 = some (.inr (7, [.ref (ad9 1), .ref (ad20 5), .null, .null, .null, .null, .int 0, .int 0])) := by rw [hc1]; exact up_eq
  have t1 : ∀ i, 0 < i → c1 i = C20 i := fun i hi => by rw [hc1]; exact va_up_ne _ _ (by omega)
  have u1 : ∀ i, 6 < i → c1 i = none := fun i hi => by rw [t1 i (by omega), (v1 i (by omega)).2]; exact u0 i (by omega)
  refine j_aload0 (pc := 26) h dX7_init_26 ?_
  refine j_new (pc := 27) (j := 7) h dX7_init_27 ((u1 7 (by decide))) nl_X7_23 (by decide) (by decide) (fun q => ?_)
  obtain ⟨x2, e1, e2, e3⟩ := ad_up (ad := ad20) 7 q
  rw [e1]
  refine j_st (st' := [.ref (x2 7), .ref (x2 0)]) (by rw [e2, e3 0 (by decide)]) ?_
  refine j_L (L' := [some (.ref (x2 0))]) (by rw [e3 0 (by decide)]) ?_
  refine j_dupR (pc := 30) h dX7_init_30 ?_
  refine j_callI (pc := 31) h dX7_init_31 (k_X3_init (ad := x2) rfl (show va_up c1 7 _ 8 = none from u1 8 (by decide)) (show va_up c1 7 _ 9 = none from u1 9 (by decide))) mi_X7_25 rfl rfl (by decide) (Nat.le_of_ble_eq_true rfl) (Nat.le_of_ble_eq_true rfl) (Nat.le_of_ble_eq_true rfl) (fun v31 ad31 C31 hp31 => ?_)
  obtain ⟨rfl, ⟨fr, fb⟩, gg⟩ := hp31
  have z2 : ad31 0 = ad20 0 := ((fr 0 (by decide)).1).trans (e3 0 (by decide))
  have v2 : ∀ i, (0 < i ∧ i < 7) ∨ 9 < i → ad31 i = ad20 i ∧ C31 i = c1 i := fun i hi => ⟨((fr i (by omega)).1).trans (e3 i (by omega)), ((fr i (by omega)).2).trans (va_up_ne _ _ (by omega))⟩
  have y2 : C31 0 = c1 0 := ((fr 0 (by decide)).2).trans (va_up_ne _ _ (by decide))
  have g2 := gg
  refine j_st (st' := [.ref (ad31 7), .ref (ad31 0)]) (by rw [fb, (fr 0 (by decide)).1]; rfl) ?_
  refine j_L (L' := [some (.ref (ad31 0))]) (by rw [(fr 0 (by decide)).1]) ?_
  clear fr fb gg e1 e2 e3
  refine j_putF (pc := 34) h rfl dX7_init_34 ((y2.trans w1)) pl_X7_26 rfl rfl rfl (Nat.le_of_ble_eq_true rfl) ?_
  obtain ⟨c2, hc2⟩ : ∃ c, c = va_up C31 0 (some (.inr (7, [.ref (ad9 1), .ref (ad20 5), .ref (ad31 7), .null, .null, .null, .int 0, .int 0]))) := ⟨_, rfl⟩
  refine j_mem (C' := c2) (by rw [hc2]; rfl) ?_
  have w2 : c2 0 = some (.inr (7, [.ref (ad9 1), .ref (ad20 5), .ref (ad31 7), .null, .null, .null, .int 0, .int 0])) := by rw [hc2]; exact up_eq
  have t2 : ∀ i, 0 < i → c2 i = C31 i := fun i hi => by rw [hc2]; exact va_up_ne _ _ (by omega)
  have u2 : ∀ i, 9 < i → c2 i = none := fun i hi => by rw [t2 i (by omega), (v2 i (by omega)).2]; exact u1 i (by omega)
  refine j_aload0 (pc := 37) h dX7_init_37 ?_
  refine j_new (pc := 38) (j := 10) h dX7_init_38 ((u2 10 (by decide))) nl_X7_30 (by decide) (by decide) (fun q => ?_)
  obtain ⟨x3, e1, e2, e3⟩ := ad_up (ad := ad31) 10 q
  rw [e1]
  refine j_st (st' := [.ref (x3 10), .ref (x3 0)]) (by rw [e2, e3 0 (by decide)]) ?_
  refine j_L (L' := [some (.ref (x3 0))]) (by rw [e3 0 (by decide)]) ?_
  refine j_dupR (pc := 41) h dX7_init_41 ?_
  refine j_callI (pc := 42) h dX7_init_42 (k_X5_init (ad := x3) rfl (show va_up c2 10 _ 11 = none from u2 11 (by decide)) (show va_up c2 10 _ 12 = none from u2 12 (by decide))) mi_X7_32 rfl rfl (by decide) (Nat.le_of_ble_eq_true rfl) (Nat.le_of_ble_eq_true rfl) (Nat.le_of_ble_eq_true rfl) (fun v42 ad42 C42 hp42 => ?_)
  obtain ⟨rfl, ⟨fr, fb⟩, gg⟩ := hp42
  have z3 : ad42 0 = ad31 0 := ((fr 0 (by decide)).1).trans (e3 0 (by decide))
  have v3 : ∀ i, (0 < i ∧ i < 10) ∨ 12 < i → ad42 i = ad31 i ∧ C42 i = c2 i := fun i hi => ⟨((fr i (by omega)).1).trans (e3 i (by omega)), ((fr i (by omega)).2).trans (va_up_ne _ _ (by omega))⟩
  have y3 : C42 0 = c2 0 := ((fr 0 (by decide)).2).trans (va_up_ne _ _ (by decide))
  have g3 := gg
  refine j_st (st' := [.ref (ad42 10), .ref (ad42 0)]) (by rw [fb, (fr 0 (by decide)).1]; rfl) ?_
  refine j_L (L' := [some (.ref (ad42 0))]) (by rw [(fr 0 (by decide)).1]) ?_
  clear fr fb gg e1 e2 e3
  refine j_putF (pc := 45) h rfl dX7_init_45 ((y3.trans w2)) pl_X7_33 rfl rfl rfl (Nat.le_of_ble_eq_true rfl) ?_
  obtain ⟨c3, hc3⟩ : ∃ c, c = va_up C42 0 (some (.inr (7, [.ref (ad9 1), .ref (ad20 5), .ref (ad31 7), .ref (ad42 10), .null, .null, .int 0, .int 0]))) := ⟨_, rfl⟩
  refine j_mem (C' := c3) (by rw [hc3]; rfl) ?_
  have w3 : c3 0 = some (.inr (7, [.ref (ad9 1), .ref (ad20 5), .ref (ad31 7), .ref (ad42 10), .null, .null, .int 0, .int 0])) := by rw [hc3]; exact up_eq
  have t3 : ∀ i, 0 < i → c3 i = C42 i := fun i hi => by rw [hc3]; exact va_up_ne _ _ (by omega)
  have u3 : ∀ i, 12 < i → c3 i = none := fun i hi => by rw [t3 i (by omega), (v3 i (by omega)).2]; exact u2 i (by omega)
  refine j_aload0 (pc := 48) h dX7_init_48 ?_
  refine j_new (pc := 49) (j := 13) h dX7_init_49 ((u3 13 (by decide))) nl_X7_37 (by decide) (by decide) (fun q => ?_)
  obtain ⟨x4, e1, e2, e3⟩ := ad_up (ad := ad42) 13 q
  rw [e1]
  refine j_st (st' := [.ref (x4 13), .ref (x4 0)]) (by rw [e2, e3 0 (by decide)]) ?_
  refine j_L (L' := [some (.ref (x4 0))]) (by rw [e3 0 (by decide)]) ?_
  refine j_dupR (pc := 52) h dX7_init_52 ?_
  refine j_callI (pc := 53) h dX7_init_53 (k_X2_init (ad := x4) rfl (show va_up c3 13 _ 14 = none from u3 14 (by decide)) (show va_up c3 13 _ 15 = none from u3 15 (by decide))) mi_X7_39 rfl rfl (by decide) (Nat.le_of_ble_eq_true rfl) (Nat.le_of_ble_eq_true rfl) (Nat.le_of_ble_eq_true rfl) (fun v53 ad53 C53 hp53 => ?_)
  obtain ⟨rfl, ⟨fr, fb⟩, gg⟩ := hp53
  have z4 : ad53 0 = ad42 0 := ((fr 0 (by decide)).1).trans (e3 0 (by decide))
  have v4 : ∀ i, (0 < i ∧ i < 13) ∨ 15 < i → ad53 i = ad42 i ∧ C53 i = c3 i := fun i hi => ⟨((fr i (by omega)).1).trans (e3 i (by omega)), ((fr i (by omega)).2).trans (va_up_ne _ _ (by omega))⟩
  have y4 : C53 0 = c3 0 := ((fr 0 (by decide)).2).trans (va_up_ne _ _ (by decide))
  have g4 := gg
  refine j_st (st' := [.ref (ad53 13), .ref (ad53 0)]) (by rw [fb, (fr 0 (by decide)).1]; rfl) ?_
  refine j_L (L' := [some (.ref (ad53 0))]) (by rw [(fr 0 (by decide)).1]) ?_
  clear fr fb gg e1 e2 e3
  refine j_putF (pc := 56) h rfl dX7_init_56 ((y4.trans w3)) pl_X7_40 rfl rfl rfl (Nat.le_of_ble_eq_true rfl) ?_
  obtain ⟨c4, hc4⟩ : ∃ c, c = va_up C53 0 (some (.inr (7, [.ref (ad9 1), .ref (ad20 5), .ref (ad31 7), .ref (ad42 10), .ref (ad53 13), .null, .int 0, .int 0]))) := ⟨_, rfl⟩
  refine j_mem (C' := c4) (by rw [hc4]; rfl) ?_
  have w4 : c4 0 = some (.inr (7, [.ref (ad9 1), .ref (ad20 5), .ref (ad31 7), .ref (ad42 10), .ref (ad53 13), .null, .int 0, .int 0])) := by rw [hc4]; exact up_eq
  have t4 : ∀ i, 0 < i → c4 i = C53 i := fun i hi => by rw [hc4]; exact va_up_ne _ _ (by omega)
  have u4 : ∀ i, 15 < i → c4 i = none := fun i hi => by rw [t4 i (by omega), (v4 i (by omega)).2]; exact u3 i (by omega)
  refine j_aload0 (pc := 59) h dX7_init_59 ?_
  refine j_new (pc := 60) (j := 16) h dX7_init_60 ((u4 16 (by decide))) nl_X7_44 (by decide) (by decide) (fun q => ?_)
  obtain ⟨x5, e1, e2, e3⟩ := ad_up (ad := ad53) 16 q
  rw [e1]
  refine j_st (st' := [.ref (x5 16), .ref (x5 0)]) (by rw [e2, e3 0 (by decide)]) ?_
  refine j_L (L' := [some (.ref (x5 0))]) (by rw [e3 0 (by decide)]) ?_
  refine j_dupR (pc := 63) h dX7_init_63 ?_
  refine j_callI (pc := 64) h dX7_init_64 (k_X4_init (ad := x5) rfl (show va_up c4 16 _ 17 = none from u4 17 (by decide)) (show va_up c4 16 _ 18 = none from u4 18 (by decide)) (show va_up c4 16 _ 19 = none from u4 19 (by decide))) mi_X7_46 rfl rfl (by decide) (Nat.le_of_ble_eq_true rfl) (Nat.le_of_ble_eq_true rfl) (Nat.le_of_ble_eq_true rfl) (fun v64 ad64 C64 hp64 => ?_)
  obtain ⟨rfl, ⟨fr, fb⟩, gg⟩ := hp64
  have z5 : ad64 0 = ad53 0 := ((fr 0 (by decide)).1).trans (e3 0 (by decide))
  have v5 : ∀ i, (0 < i ∧ i < 16) ∨ 19 < i → ad64 i = ad53 i ∧ C64 i = c4 i := fun i hi => ⟨((fr i (by omega)).1).trans (e3 i (by omega)), ((fr i (by omega)).2).trans (va_up_ne _ _ (by omega))⟩
  have y5 : C64 0 = c4 0 := ((fr 0 (by decide)).2).trans (va_up_ne _ _ (by decide))
  have g5 := gg
  refine j_st (st' := [.ref (ad64 16), .ref (ad64 0)]) (by rw [fb, (fr 0 (by decide)).1]; rfl) ?_
  refine j_L (L' := [some (.ref (ad64 0))]) (by rw [(fr 0 (by decide)).1]) ?_
  clear fr fb gg e1 e2 e3
  refine j_putF (pc := 67) h rfl dX7_init_67 ((y5.trans w4)) pl_X7_47 rfl rfl rfl (Nat.le_of_ble_eq_true rfl) ?_
  obtain ⟨c5, hc5⟩ : ∃ c, c = va_up C64 0 (some (.inr (7, [.ref (ad9 1), .ref (ad20 5), .ref (ad31 7), .ref (ad42 10), .ref (ad53 13), .ref (ad64 16), .int 0, .int 0]))) := ⟨_, rfl⟩
  refine j_mem (C' := c5) (by rw [hc5]; rfl) ?_
  have w5 : c5 0 = some (.inr (7, [.ref (ad9 1), .ref (ad20 5), .ref (ad31 7), .ref (ad42 10), .ref (ad53 13), .ref (ad64 16), .int 0, .int 0])) := by rw [hc5]; exact up_eq
  have t5 : ∀ i, 0 < i → c5 i = C64 i := fun i hi => by rw [hc5]; exact va_up_ne _ _ (by omega)
  have u5 : ∀ i, 19 < i → c5 i = none := fun i hi => by rw [t5 i (by omega), (v5 i (by omega)).2]; exact u4 i (by omega)
  sorry
end CJ

