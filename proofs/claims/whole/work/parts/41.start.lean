/-! The two programs' start -/
/-- the state at the start -/
def s0 : Sg := (fun i => if i = 0 then 1 else if i = 5 then 60 else 0, fun _ _ => 0, fun _ _ => false, fun _ _ => 0, fun _ => some 0, fun _ => 0)
def t0 : Tm := (fun _ => false, fun _ => 0, fun _ => 0, 0, 0)
theorem Inv_0 : Inv s0 := by
  refine ⟨by decide, fun j hj => ?_, fun j hj h0 => ?_, fun k hk => absurd hk (Nat.not_lt_zero k), fun i hi => absurd hi (Nat.not_lt_zero i), fun _ _ => rfl, fun q b h => ?_, fun s => lo60_0⟩
  · have hj' : j < 1 := hj
    obtain rfl : j = 0 := by omega
    exact okc_0 29
  · have hj' : j < 1 := hj
    omega
  · have h' : some 0 = some b := h
    cases h'; decide
theorem InvM_0 : InvM s0 := ⟨fun k hk => absurd hk (Nat.not_lt_zero k), fun k hk => absurd hk (Nat.not_lt_zero _), fun _ _ => rfl, fun _ => Nat.zero_le _⟩
theorem par0 : upd (fun _ => (0 : Int32)) 0 (-1) = parF s0.pr := by
  funext j
  by_cases h : j = 0
  · subst h; rfl
  · simp [upd, parF, h]; rfl
section CJ
variable {l : Launch} {g : GG} {ad : AD} {C : CC}
theorem k_X8_init (hj : C 20 = some (.inr (8, [.int 0, .int 0, .null, .null, .null, .int 0, .null, .null, .null, .null, .null, .int 0, .null, .null, .null, .null, .null, .int 0, .null, .null, .int 0, .null, .null, .null, .int 0, .int 0]))) (hn : ∀ i, 21 ≤ i → i ≤ 38 → C i = none) : Ct l g yX8_init cX8_init 1 none 2 18 3678 [.ref (ad 20)] ad C (fun r ad' C' => r = none ∧ FrC 20 38 ad C ad' C' ∧ MW g ad' s0 t0 C') := by
  refine Ct_of [some (.ref (ad 20))] (by decide) rfl rfl (Nat.le_of_ble_eq_true rfl) rfl rfl (fun X hX h => ?_)
  subst hX
  refine j_aload0 (pc := 0) h dX8_init_0 ?_
  refine j_objInit (pc := 1) h dX8_init_1 oi_X8_1 tw_oi tw_oc (by decide) (Nat.le_of_ble_eq_true rfl) ?_
  refine j_aload0 (pc := 4) h dX8_init_4 ?_
  refine j_iconst (pc := 5) h dX8_init_5 ic_1 ?_
  refine j_putv (pc := 6) (j := 20) h dX8_init_6 (hj) pl_X8_7 rfl rfl (Nat.le_of_ble_eq_true rfl) ?_
  obtain ⟨c0, hc⟩ : ∃ c, c = va_up C 20 (some (.inr (8, [.int 0, .int (nI 1), .null, .null, .null, .int 0, .null, .null, .null, .null, .null, .int 0, .null, .null, .null, .null, .null, .int 0, .null, .null, .int 0, .null, .null, .null, .int 0, .int 0]))) := ⟨_, rfl⟩
  refine j_mem (C' := c0) (by rw [hc]; rfl) ?_
  have W0 : c0 20 = some (.inr (8, [.int 0, .int (nI 1), .null, .null, .null, .int 0, .null, .null, .null, .null, .null, .int 0, .null, .null, .null, .null, .null, .int 0, .null, .null, .int 0, .null, .null, .null, .int 0, .int 0])) := by rw [hc]; exact up_eq
  have t0 : ∀ i, i ≠ 20 → c0 i = C i := fun i h1 => by rw [hc, va_up_ne _ _ h1]
  have u0 : ∀ i, 21 ≤ i → i ≤ 38 → c0 i = none := fun i h1 h2 => by rw [t0 i (by omega)]; exact hn i h1 h2
  clear hc
  refine j_aload0 (pc := 9) h dX8_init_9 ?_
  refine j_bipush (pc := 10) h dX8_init_10 bp_30 ?_
  refine j_newI (pc := 12) (j := 21) h dX8_init_12 (u0 21 (by decide) (by decide)) tw_ac_int (by decide) (by decide) (by decide) (fun q => ?_)
  obtain ⟨x1, e1, e2, v1⟩ := ad_up (ad := ad) 21 q
  rw [e1]
  refine j_st (st' := [.ref (x1 21), .ref (x1 20)]) (by rw [e2, v1 20 (by decide)]) ?_
  refine j_L (L' := [some (.ref (x1 20))]) (by rw [v1 20 (by decide)]) ?_
  refine j_putF (pc := 14) (j := 20) h rfl dX8_init_14 ((upn W0 (by decide))) pl_X8_13 rfl rfl rfl (Nat.le_of_ble_eq_true rfl) ?_
  obtain ⟨c1, hc⟩ : ∃ c, c = va_up (va_up c0 21 (some (eI g 30 (fun _ => 0)))) 20 (some (.inr (8, [.int 0, .int (nI 1), .ref (x1 21), .null, .null, .int 0, .null, .null, .null, .null, .null, .int 0, .null, .null, .null, .null, .null, .int 0, .null, .null, .int 0, .null, .null, .null, .int 0, .int 0]))) := ⟨_, rfl⟩
  refine j_mem (C' := c1) (by rw [hc]; rfl) ?_
  have W1 : c1 20 = some (.inr (8, [.int 0, .int (nI 1), .ref (x1 21), .null, .null, .int 0, .null, .null, .null, .null, .null, .int 0, .null, .null, .null, .null, .null, .int 0, .null, .null, .int 0, .null, .null, .null, .int 0, .int 0])) := by rw [hc]; exact up_eq
  have a1 : c1 21 = some (eI g 30 (fun _ => 0)) := by rw [hc, va_up_ne _ _ (by decide)]; exact up_eq
  have t1 : ∀ i, i ≠ 20 → i ≠ 21 → c1 i = c0 i := fun i h1 h2 => by rw [hc, va_up_ne _ _ h1, va_up_ne _ _ h2]
  have u1 : ∀ i, 22 ≤ i → i ≤ 38 → c1 i = none := fun i h1 h2 => by rw [t1 i (by omega) (by omega)]; exact u0 i (by omega) h2
  clear e1 e2 hc
  refine j_aload0 (pc := 17) h dX8_init_17 ?_
  refine j_bipush (pc := 18) h dX8_init_18 bp_30 ?_
  refine j_newI (pc := 20) (j := 22) h dX8_init_20 (u1 22 (by decide) (by decide)) tw_ac_int (by decide) (by decide) (by decide) (fun q => ?_)
  obtain ⟨x2, e1, e2, v2⟩ := ad_up (ad := x1) 22 q
  rw [e1]
  refine j_st (st' := [.ref (x2 22), .ref (x2 20)]) (by rw [e2, v2 20 (by decide)]) ?_
  refine j_L (L' := [some (.ref (x2 20))]) (by rw [v2 20 (by decide)]) ?_
  refine j_putF (pc := 22) (j := 20) h rfl dX8_init_22 ((upn W1 (by decide))) pl_X8_17 rfl rfl rfl (Nat.le_of_ble_eq_true rfl) ?_
  obtain ⟨c2, hc⟩ : ∃ c, c = va_up (va_up c1 22 (some (eI g 30 (fun _ => 0)))) 20 (some (.inr (8, [.int 0, .int (nI 1), .ref (x1 21), .ref (x2 22), .null, .int 0, .null, .null, .null, .null, .null, .int 0, .null, .null, .null, .null, .null, .int 0, .null, .null, .int 0, .null, .null, .null, .int 0, .int 0]))) := ⟨_, rfl⟩
  refine j_mem (C' := c2) (by rw [hc]; rfl) ?_
  have W2 : c2 20 = some (.inr (8, [.int 0, .int (nI 1), .ref (x1 21), .ref (x2 22), .null, .int 0, .null, .null, .null, .null, .null, .int 0, .null, .null, .null, .null, .null, .int 0, .null, .null, .int 0, .null, .null, .null, .int 0, .int 0])) := by rw [hc]; exact up_eq
  have a2 : c2 22 = some (eI g 30 (fun _ => 0)) := by rw [hc, va_up_ne _ _ (by decide)]; exact up_eq
  have t2 : ∀ i, i ≠ 20 → i ≠ 22 → c2 i = c1 i := fun i h1 h2 => by rw [hc, va_up_ne _ _ h1, va_up_ne _ _ h2]
  have u2 : ∀ i, 23 ≤ i → i ≤ 38 → c2 i = none := fun i h1 h2 => by rw [t2 i (by omega) (by omega)]; exact u1 i (by omega) h2
  clear e1 e2 hc
  refine j_aload0 (pc := 25) h dX8_init_25 ?_
  refine j_bipush (pc := 26) h dX8_init_26 bp_30 ?_
  refine j_newZ (pc := 28) (j := 23) h dX8_init_28 (u2 23 (by decide) (by decide)) tw_ac_boolean (by decide) (by decide) (by decide) (fun q => ?_)
  obtain ⟨x3, e1, e2, v3⟩ := ad_up (ad := x2) 23 q
  rw [e1]
  refine j_st (st' := [.ref (x3 23), .ref (x3 20)]) (by rw [e2, v3 20 (by decide)]) ?_
  refine j_L (L' := [some (.ref (x3 20))]) (by rw [v3 20 (by decide)]) ?_
  refine j_putF (pc := 30) (j := 20) h rfl dX8_init_30 ((upn W2 (by decide))) pl_X8_20 rfl rfl rfl (Nat.le_of_ble_eq_true rfl) ?_
  obtain ⟨c3, hc⟩ : ∃ c, c = va_up (va_up c2 23 (some (eZ g 30 (fun _ => 0)))) 20 (some (.inr (8, [.int 0, .int (nI 1), .ref (x1 21), .ref (x2 22), .ref (x3 23), .int 0, .null, .null, .null, .null, .null, .int 0, .null, .null, .null, .null, .null, .int 0, .null, .null, .int 0, .null, .null, .null, .int 0, .int 0]))) := ⟨_, rfl⟩
  refine j_mem (C' := c3) (by rw [hc]; rfl) ?_
  have W3 : c3 20 = some (.inr (8, [.int 0, .int (nI 1), .ref (x1 21), .ref (x2 22), .ref (x3 23), .int 0, .null, .null, .null, .null, .null, .int 0, .null, .null, .null, .null, .null, .int 0, .null, .null, .int 0, .null, .null, .null, .int 0, .int 0])) := by rw [hc]; exact up_eq
  have a3 : c3 23 = some (eZ g 30 (fun _ => 0)) := by rw [hc, va_up_ne _ _ (by decide)]; exact up_eq
  have t3 : ∀ i, i ≠ 20 → i ≠ 23 → c3 i = c2 i := fun i h1 h2 => by rw [hc, va_up_ne _ _ h1, va_up_ne _ _ h2]
  have u3 : ∀ i, 24 ≤ i → i ≤ 38 → c3 i = none := fun i h1 h2 => by rw [t3 i (by omega) (by omega)]; exact u2 i (by omega) h2
  clear e1 e2 hc
  refine j_aload0 (pc := 33) h dX8_init_33 ?_
  refine j_bipush (pc := 34) h dX8_init_34 bp_40 ?_
  refine j_newI (pc := 36) (j := 24) h dX8_init_36 (u3 24 (by decide) (by decide)) tw_ac_int (by decide) (by decide) (by decide) (fun q => ?_)
  obtain ⟨x4, e1, e2, v4⟩ := ad_up (ad := x3) 24 q
  rw [e1]
  refine j_st (st' := [.ref (x4 24), .ref (x4 20)]) (by rw [e2, v4 20 (by decide)]) ?_
  refine j_L (L' := [some (.ref (x4 20))]) (by rw [v4 20 (by decide)]) ?_
  refine j_putF (pc := 38) (j := 20) h rfl dX8_init_38 ((upn W3 (by decide))) pl_X8_24 rfl rfl rfl (Nat.le_of_ble_eq_true rfl) ?_
  obtain ⟨c4, hc⟩ : ∃ c, c = va_up (va_up c3 24 (some (eI g 40 (fun _ => 0)))) 20 (some (.inr (8, [.int 0, .int (nI 1), .ref (x1 21), .ref (x2 22), .ref (x3 23), .int 0, .ref (x4 24), .null, .null, .null, .null, .int 0, .null, .null, .null, .null, .null, .int 0, .null, .null, .int 0, .null, .null, .null, .int 0, .int 0]))) := ⟨_, rfl⟩
  refine j_mem (C' := c4) (by rw [hc]; rfl) ?_
  have W4 : c4 20 = some (.inr (8, [.int 0, .int (nI 1), .ref (x1 21), .ref (x2 22), .ref (x3 23), .int 0, .ref (x4 24), .null, .null, .null, .null, .int 0, .null, .null, .null, .null, .null, .int 0, .null, .null, .int 0, .null, .null, .null, .int 0, .int 0])) := by rw [hc]; exact up_eq
  have a4 : c4 24 = some (eI g 40 (fun _ => 0)) := by rw [hc, va_up_ne _ _ (by decide)]; exact up_eq
  have t4 : ∀ i, i ≠ 20 → i ≠ 24 → c4 i = c3 i := fun i h1 h2 => by rw [hc, va_up_ne _ _ h1, va_up_ne _ _ h2]
  have u4 : ∀ i, 25 ≤ i → i ≤ 38 → c4 i = none := fun i h1 h2 => by rw [t4 i (by omega) (by omega)]; exact u3 i (by omega) h2
  clear e1 e2 hc
  refine j_aload0 (pc := 41) h dX8_init_41 ?_
  refine j_sipush (pc := 42) h dX8_init_42 sp_2400 ?_
  refine j_newI (pc := 45) (j := 25) h dX8_init_45 (u4 25 (by decide) (by decide)) tw_ac_int (by decide) (by decide) (by decide) (fun q => ?_)
  obtain ⟨x5, e1, e2, v5⟩ := ad_up (ad := x4) 25 q
  rw [e1]
  refine j_st (st' := [.ref (x5 25), .ref (x5 20)]) (by rw [e2, v5 20 (by decide)]) ?_
  refine j_L (L' := [some (.ref (x5 20))]) (by rw [v5 20 (by decide)]) ?_
  refine j_putF (pc := 47) (j := 20) h rfl dX8_init_47 ((upn W4 (by decide))) pl_X8_27 rfl rfl rfl (Nat.le_of_ble_eq_true rfl) ?_
  obtain ⟨c5, hc⟩ : ∃ c, c = va_up (va_up c4 25 (some (eI g 2400 (fun _ => 0)))) 20 (some (.inr (8, [.int 0, .int (nI 1), .ref (x1 21), .ref (x2 22), .ref (x3 23), .int 0, .ref (x4 24), .ref (x5 25), .null, .null, .null, .int 0, .null, .null, .null, .null, .null, .int 0, .null, .null, .int 0, .null, .null, .null, .int 0, .int 0]))) := ⟨_, rfl⟩
  refine j_mem (C' := c5) (by rw [hc]; rfl) ?_
  have W5 : c5 20 = some (.inr (8, [.int 0, .int (nI 1), .ref (x1 21), .ref (x2 22), .ref (x3 23), .int 0, .ref (x4 24), .ref (x5 25), .null, .null, .null, .int 0, .null, .null, .null, .null, .null, .int 0, .null, .null, .int 0, .null, .null, .null, .int 0, .int 0])) := by rw [hc]; exact up_eq
  have a5 : c5 25 = some (eI g 2400 (fun _ => 0)) := by rw [hc, va_up_ne _ _ (by decide)]; exact up_eq
  have t5 : ∀ i, i ≠ 20 → i ≠ 25 → c5 i = c4 i := fun i h1 h2 => by rw [hc, va_up_ne _ _ h1, va_up_ne _ _ h2]
  have u5 : ∀ i, 26 ≤ i → i ≤ 38 → c5 i = none := fun i h1 h2 => by rw [t5 i (by omega) (by omega)]; exact u4 i (by omega) h2
  clear e1 e2 hc
  refine j_aload0 (pc := 50) h dX8_init_50 ?_
  refine j_bipush (pc := 51) h dX8_init_51 bp_40 ?_
  refine j_newI (pc := 53) (j := 26) h dX8_init_53 (u5 26 (by decide) (by decide)) tw_ac_int (by decide) (by decide) (by decide) (fun q => ?_)
  obtain ⟨x6, e1, e2, v6⟩ := ad_up (ad := x5) 26 q
  rw [e1]
  refine j_st (st' := [.ref (x6 26), .ref (x6 20)]) (by rw [e2, v6 20 (by decide)]) ?_
  refine j_L (L' := [some (.ref (x6 20))]) (by rw [v6 20 (by decide)]) ?_
  refine j_putF (pc := 55) (j := 20) h rfl dX8_init_55 ((upn W5 (by decide))) pl_X8_30 rfl rfl rfl (Nat.le_of_ble_eq_true rfl) ?_
  obtain ⟨c6, hc⟩ : ∃ c, c = va_up (va_up c5 26 (some (eI g 40 (fun _ => 0)))) 20 (some (.inr (8, [.int 0, .int (nI 1), .ref (x1 21), .ref (x2 22), .ref (x3 23), .int 0, .ref (x4 24), .ref (x5 25), .ref (x6 26), .null, .null, .int 0, .null, .null, .null, .null, .null, .int 0, .null, .null, .int 0, .null, .null, .null, .int 0, .int 0]))) := ⟨_, rfl⟩
  refine j_mem (C' := c6) (by rw [hc]; rfl) ?_
  have W6 : c6 20 = some (.inr (8, [.int 0, .int (nI 1), .ref (x1 21), .ref (x2 22), .ref (x3 23), .int 0, .ref (x4 24), .ref (x5 25), .ref (x6 26), .null, .null, .int 0, .null, .null, .null, .null, .null, .int 0, .null, .null, .int 0, .null, .null, .null, .int 0, .int 0])) := by rw [hc]; exact up_eq
  have a6 : c6 26 = some (eI g 40 (fun _ => 0)) := by rw [hc, va_up_ne _ _ (by decide)]; exact up_eq
  have t6 : ∀ i, i ≠ 20 → i ≠ 26 → c6 i = c5 i := fun i h1 h2 => by rw [hc, va_up_ne _ _ h1, va_up_ne _ _ h2]
  have u6 : ∀ i, 27 ≤ i → i ≤ 38 → c6 i = none := fun i h1 h2 => by rw [t6 i (by omega) (by omega)]; exact u5 i (by omega) h2
  clear e1 e2 hc
  refine j_aload0 (pc := 58) h dX8_init_58 ?_
  refine j_bipush (pc := 59) h dX8_init_59 bp_40 ?_
  refine j_newI (pc := 61) (j := 27) h dX8_init_61 (u6 27 (by decide) (by decide)) tw_ac_int (by decide) (by decide) (by decide) (fun q => ?_)
  obtain ⟨x7, e1, e2, v7⟩ := ad_up (ad := x6) 27 q
  rw [e1]
  refine j_st (st' := [.ref (x7 27), .ref (x7 20)]) (by rw [e2, v7 20 (by decide)]) ?_
  refine j_L (L' := [some (.ref (x7 20))]) (by rw [v7 20 (by decide)]) ?_
  refine j_putF (pc := 63) (j := 20) h rfl dX8_init_63 ((upn W6 (by decide))) pl_X8_33 rfl rfl rfl (Nat.le_of_ble_eq_true rfl) ?_
  obtain ⟨c7, hc⟩ : ∃ c, c = va_up (va_up c6 27 (some (eI g 40 (fun _ => 0)))) 20 (some (.inr (8, [.int 0, .int (nI 1), .ref (x1 21), .ref (x2 22), .ref (x3 23), .int 0, .ref (x4 24), .ref (x5 25), .ref (x6 26), .ref (x7 27), .null, .int 0, .null, .null, .null, .null, .null, .int 0, .null, .null, .int 0, .null, .null, .null, .int 0, .int 0]))) := ⟨_, rfl⟩
  refine j_mem (C' := c7) (by rw [hc]; rfl) ?_
  have W7 : c7 20 = some (.inr (8, [.int 0, .int (nI 1), .ref (x1 21), .ref (x2 22), .ref (x3 23), .int 0, .ref (x4 24), .ref (x5 25), .ref (x6 26), .ref (x7 27), .null, .int 0, .null, .null, .null, .null, .null, .int 0, .null, .null, .int 0, .null, .null, .null, .int 0, .int 0])) := by rw [hc]; exact up_eq
  have a7 : c7 27 = some (eI g 40 (fun _ => 0)) := by rw [hc, va_up_ne _ _ (by decide)]; exact up_eq
  have t7 : ∀ i, i ≠ 20 → i ≠ 27 → c7 i = c6 i := fun i h1 h2 => by rw [hc, va_up_ne _ _ h1, va_up_ne _ _ h2]
  have u7 : ∀ i, 28 ≤ i → i ≤ 38 → c7 i = none := fun i h1 h2 => by rw [t7 i (by omega) (by omega)]; exact u6 i (by omega) h2
  clear e1 e2 hc
  refine j_aload0 (pc := 66) h dX8_init_66 ?_
  refine j_bipush (pc := 67) h dX8_init_67 bp_40 ?_
  refine j_newI (pc := 69) (j := 28) h dX8_init_69 (u7 28 (by decide) (by decide)) tw_ac_int (by decide) (by decide) (by decide) (fun q => ?_)
  obtain ⟨x8, e1, e2, v8⟩ := ad_up (ad := x7) 28 q
  rw [e1]
  refine j_st (st' := [.ref (x8 28), .ref (x8 20)]) (by rw [e2, v8 20 (by decide)]) ?_
  refine j_L (L' := [some (.ref (x8 20))]) (by rw [v8 20 (by decide)]) ?_
  refine j_putF (pc := 71) (j := 20) h rfl dX8_init_71 ((upn W7 (by decide))) pl_X8_36 rfl rfl rfl (Nat.le_of_ble_eq_true rfl) ?_
  obtain ⟨c8, hc⟩ : ∃ c, c = va_up (va_up c7 28 (some (eI g 40 (fun _ => 0)))) 20 (some (.inr (8, [.int 0, .int (nI 1), .ref (x1 21), .ref (x2 22), .ref (x3 23), .int 0, .ref (x4 24), .ref (x5 25), .ref (x6 26), .ref (x7 27), .ref (x8 28), .int 0, .null, .null, .null, .null, .null, .int 0, .null, .null, .int 0, .null, .null, .null, .int 0, .int 0]))) := ⟨_, rfl⟩
  refine j_mem (C' := c8) (by rw [hc]; rfl) ?_
  have W8 : c8 20 = some (.inr (8, [.int 0, .int (nI 1), .ref (x1 21), .ref (x2 22), .ref (x3 23), .int 0, .ref (x4 24), .ref (x5 25), .ref (x6 26), .ref (x7 27), .ref (x8 28), .int 0, .null, .null, .null, .null, .null, .int 0, .null, .null, .int 0, .null, .null, .null, .int 0, .int 0])) := by rw [hc]; exact up_eq
  have a8 : c8 28 = some (eI g 40 (fun _ => 0)) := by rw [hc, va_up_ne _ _ (by decide)]; exact up_eq
  have t8 : ∀ i, i ≠ 20 → i ≠ 28 → c8 i = c7 i := fun i h1 h2 => by rw [hc, va_up_ne _ _ h1, va_up_ne _ _ h2]
  have u8 : ∀ i, 29 ≤ i → i ≤ 38 → c8 i = none := fun i h1 h2 => by rw [t8 i (by omega) (by omega)]; exact u7 i (by omega) h2
  clear e1 e2 hc
  refine j_aload0 (pc := 74) h dX8_init_74 ?_
  refine j_bipush (pc := 75) h dX8_init_75 bp_100 ?_
  refine j_newI (pc := 77) (j := 29) h dX8_init_77 (u8 29 (by decide) (by decide)) tw_ac_int (by decide) (by decide) (by decide) (fun q => ?_)
  obtain ⟨x9, e1, e2, v9⟩ := ad_up (ad := x8) 29 q
  rw [e1]
  refine j_st (st' := [.ref (x9 29), .ref (x9 20)]) (by rw [e2, v9 20 (by decide)]) ?_
  refine j_L (L' := [some (.ref (x9 20))]) (by rw [v9 20 (by decide)]) ?_
  refine j_putF (pc := 79) (j := 20) h rfl dX8_init_79 ((upn W8 (by decide))) pl_X8_39 rfl rfl rfl (Nat.le_of_ble_eq_true rfl) ?_
  obtain ⟨c9, hc⟩ : ∃ c, c = va_up (va_up c8 29 (some (eI g 100 (fun _ => 0)))) 20 (some (.inr (8, [.int 0, .int (nI 1), .ref (x1 21), .ref (x2 22), .ref (x3 23), .int 0, .ref (x4 24), .ref (x5 25), .ref (x6 26), .ref (x7 27), .ref (x8 28), .int 0, .ref (x9 29), .null, .null, .null, .null, .int 0, .null, .null, .int 0, .null, .null, .null, .int 0, .int 0]))) := ⟨_, rfl⟩
  refine j_mem (C' := c9) (by rw [hc]; rfl) ?_
  have W9 : c9 20 = some (.inr (8, [.int 0, .int (nI 1), .ref (x1 21), .ref (x2 22), .ref (x3 23), .int 0, .ref (x4 24), .ref (x5 25), .ref (x6 26), .ref (x7 27), .ref (x8 28), .int 0, .ref (x9 29), .null, .null, .null, .null, .int 0, .null, .null, .int 0, .null, .null, .null, .int 0, .int 0])) := by rw [hc]; exact up_eq
  have a9 : c9 29 = some (eI g 100 (fun _ => 0)) := by rw [hc, va_up_ne _ _ (by decide)]; exact up_eq
  have t9 : ∀ i, i ≠ 20 → i ≠ 29 → c9 i = c8 i := fun i h1 h2 => by rw [hc, va_up_ne _ _ h1, va_up_ne _ _ h2]
  have u9 : ∀ i, 30 ≤ i → i ≤ 38 → c9 i = none := fun i h1 h2 => by rw [t9 i (by omega) (by omega)]; exact u8 i (by omega) h2
  clear e1 e2 hc
  refine j_aload0 (pc := 82) h dX8_init_82 ?_
  refine j_bipush (pc := 83) h dX8_init_83 bp_100 ?_
  refine j_newI (pc := 85) (j := 30) h dX8_init_85 (u9 30 (by decide) (by decide)) tw_ac_int (by decide) (by decide) (by decide) (fun q => ?_)
  obtain ⟨x10, e1, e2, v10⟩ := ad_up (ad := x9) 30 q
  rw [e1]
  refine j_st (st' := [.ref (x10 30), .ref (x10 20)]) (by rw [e2, v10 20 (by decide)]) ?_
  refine j_L (L' := [some (.ref (x10 20))]) (by rw [v10 20 (by decide)]) ?_
  refine j_putF (pc := 87) (j := 20) h rfl dX8_init_87 ((upn W9 (by decide))) pl_X8_42 rfl rfl rfl (Nat.le_of_ble_eq_true rfl) ?_
  obtain ⟨c10, hc⟩ : ∃ c, c = va_up (va_up c9 30 (some (eI g 100 (fun _ => 0)))) 20 (some (.inr (8, [.int 0, .int (nI 1), .ref (x1 21), .ref (x2 22), .ref (x3 23), .int 0, .ref (x4 24), .ref (x5 25), .ref (x6 26), .ref (x7 27), .ref (x8 28), .int 0, .ref (x9 29), .ref (x10 30), .null, .null, .null, .int 0, .null, .null, .int 0, .null, .null, .null, .int 0, .int 0]))) := ⟨_, rfl⟩
  refine j_mem (C' := c10) (by rw [hc]; rfl) ?_
  have W10 : c10 20 = some (.inr (8, [.int 0, .int (nI 1), .ref (x1 21), .ref (x2 22), .ref (x3 23), .int 0, .ref (x4 24), .ref (x5 25), .ref (x6 26), .ref (x7 27), .ref (x8 28), .int 0, .ref (x9 29), .ref (x10 30), .null, .null, .null, .int 0, .null, .null, .int 0, .null, .null, .null, .int 0, .int 0])) := by rw [hc]; exact up_eq
  have a10 : c10 30 = some (eI g 100 (fun _ => 0)) := by rw [hc, va_up_ne _ _ (by decide)]; exact up_eq
  have t10 : ∀ i, i ≠ 20 → i ≠ 30 → c10 i = c9 i := fun i h1 h2 => by rw [hc, va_up_ne _ _ h1, va_up_ne _ _ h2]
  have u10 : ∀ i, 31 ≤ i → i ≤ 38 → c10 i = none := fun i h1 h2 => by rw [t10 i (by omega) (by omega)]; exact u9 i (by omega) h2
  clear e1 e2 hc
  refine j_aload0 (pc := 90) h dX8_init_90 ?_
  refine j_bipush (pc := 91) h dX8_init_91 bp_100 ?_
  refine j_newZ (pc := 93) (j := 31) h dX8_init_93 (u10 31 (by decide) (by decide)) tw_ac_boolean (by decide) (by decide) (by decide) (fun q => ?_)
  obtain ⟨x11, e1, e2, v11⟩ := ad_up (ad := x10) 31 q
  rw [e1]
  refine j_st (st' := [.ref (x11 31), .ref (x11 20)]) (by rw [e2, v11 20 (by decide)]) ?_
  refine j_L (L' := [some (.ref (x11 20))]) (by rw [v11 20 (by decide)]) ?_
  refine j_putF (pc := 95) (j := 20) h rfl dX8_init_95 ((upn W10 (by decide))) pl_X8_45 rfl rfl rfl (Nat.le_of_ble_eq_true rfl) ?_
  obtain ⟨c11, hc⟩ : ∃ c, c = va_up (va_up c10 31 (some (eZ g 100 (fun _ => 0)))) 20 (some (.inr (8, [.int 0, .int (nI 1), .ref (x1 21), .ref (x2 22), .ref (x3 23), .int 0, .ref (x4 24), .ref (x5 25), .ref (x6 26), .ref (x7 27), .ref (x8 28), .int 0, .ref (x9 29), .ref (x10 30), .ref (x11 31), .null, .null, .int 0, .null, .null, .int 0, .null, .null, .null, .int 0, .int 0]))) := ⟨_, rfl⟩
  refine j_mem (C' := c11) (by rw [hc]; rfl) ?_
  have W11 : c11 20 = some (.inr (8, [.int 0, .int (nI 1), .ref (x1 21), .ref (x2 22), .ref (x3 23), .int 0, .ref (x4 24), .ref (x5 25), .ref (x6 26), .ref (x7 27), .ref (x8 28), .int 0, .ref (x9 29), .ref (x10 30), .ref (x11 31), .null, .null, .int 0, .null, .null, .int 0, .null, .null, .null, .int 0, .int 0])) := by rw [hc]; exact up_eq
  have a11 : c11 31 = some (eZ g 100 (fun _ => 0)) := by rw [hc, va_up_ne _ _ (by decide)]; exact up_eq
  have t11 : ∀ i, i ≠ 20 → i ≠ 31 → c11 i = c10 i := fun i h1 h2 => by rw [hc, va_up_ne _ _ h1, va_up_ne _ _ h2]
  have u11 : ∀ i, 32 ≤ i → i ≤ 38 → c11 i = none := fun i h1 h2 => by rw [t11 i (by omega) (by omega)]; exact u10 i (by omega) h2
  clear e1 e2 hc
  refine j_aload0 (pc := 98) h dX8_init_98 ?_
  refine j_bipush (pc := 99) h dX8_init_99 bp_8 ?_
  refine j_newZ (pc := 101) (j := 32) h dX8_init_101 (u11 32 (by decide) (by decide)) tw_ac_boolean (by decide) (by decide) (by decide) (fun q => ?_)
  obtain ⟨x12, e1, e2, v12⟩ := ad_up (ad := x11) 32 q
  rw [e1]
  refine j_st (st' := [.ref (x12 32), .ref (x12 20)]) (by rw [e2, v12 20 (by decide)]) ?_
  refine j_L (L' := [some (.ref (x12 20))]) (by rw [v12 20 (by decide)]) ?_
  refine j_putF (pc := 103) (j := 20) h rfl dX8_init_103 ((upn W11 (by decide))) pl_X8_48 rfl rfl rfl (Nat.le_of_ble_eq_true rfl) ?_
  obtain ⟨c12, hc⟩ : ∃ c, c = va_up (va_up c11 32 (some (eZ g 8 (fun _ => 0)))) 20 (some (.inr (8, [.int 0, .int (nI 1), .ref (x1 21), .ref (x2 22), .ref (x3 23), .int 0, .ref (x4 24), .ref (x5 25), .ref (x6 26), .ref (x7 27), .ref (x8 28), .int 0, .ref (x9 29), .ref (x10 30), .ref (x11 31), .ref (x12 32), .null, .int 0, .null, .null, .int 0, .null, .null, .null, .int 0, .int 0]))) := ⟨_, rfl⟩
  refine j_mem (C' := c12) (by rw [hc]; rfl) ?_
  have W12 : c12 20 = some (.inr (8, [.int 0, .int (nI 1), .ref (x1 21), .ref (x2 22), .ref (x3 23), .int 0, .ref (x4 24), .ref (x5 25), .ref (x6 26), .ref (x7 27), .ref (x8 28), .int 0, .ref (x9 29), .ref (x10 30), .ref (x11 31), .ref (x12 32), .null, .int 0, .null, .null, .int 0, .null, .null, .null, .int 0, .int 0])) := by rw [hc]; exact up_eq
  have a12 : c12 32 = some (eZ g 8 (fun _ => 0)) := by rw [hc, va_up_ne _ _ (by decide)]; exact up_eq
  have t12 : ∀ i, i ≠ 20 → i ≠ 32 → c12 i = c11 i := fun i h1 h2 => by rw [hc, va_up_ne _ _ h1, va_up_ne _ _ h2]
  have u12 : ∀ i, 33 ≤ i → i ≤ 38 → c12 i = none := fun i h1 h2 => by rw [t12 i (by omega) (by omega)]; exact u11 i (by omega) h2
  clear e1 e2 hc
  refine j_aload0 (pc := 106) h dX8_init_106 ?_
  refine j_bipush (pc := 107) h dX8_init_107 bp_8 ?_
  refine j_newJ (pc := 109) (j := 33) h dX8_init_109 (u12 33 (by decide) (by decide)) tw_ac_long (by decide) (by decide) (by decide) (fun q => ?_)
  obtain ⟨x13, e1, e2, v13⟩ := ad_up (ad := x12) 33 q
  rw [e1]
  refine j_st (st' := [.ref (x13 33), .ref (x13 20)]) (by rw [e2, v13 20 (by decide)]) ?_
  refine j_L (L' := [some (.ref (x13 20))]) (by rw [v13 20 (by decide)]) ?_
  refine j_putF (pc := 111) (j := 20) h rfl dX8_init_111 ((upn W12 (by decide))) pl_X8_51 rfl rfl rfl (Nat.le_of_ble_eq_true rfl) ?_
  obtain ⟨c13, hc⟩ : ∃ c, c = va_up (va_up c12 33 (some (eJ g 8 (fun _ => 0)))) 20 (some (.inr (8, [.int 0, .int (nI 1), .ref (x1 21), .ref (x2 22), .ref (x3 23), .int 0, .ref (x4 24), .ref (x5 25), .ref (x6 26), .ref (x7 27), .ref (x8 28), .int 0, .ref (x9 29), .ref (x10 30), .ref (x11 31), .ref (x12 32), .ref (x13 33), .int 0, .null, .null, .int 0, .null, .null, .null, .int 0, .int 0]))) := ⟨_, rfl⟩
  refine j_mem (C' := c13) (by rw [hc]; rfl) ?_
  have W13 : c13 20 = some (.inr (8, [.int 0, .int (nI 1), .ref (x1 21), .ref (x2 22), .ref (x3 23), .int 0, .ref (x4 24), .ref (x5 25), .ref (x6 26), .ref (x7 27), .ref (x8 28), .int 0, .ref (x9 29), .ref (x10 30), .ref (x11 31), .ref (x12 32), .ref (x13 33), .int 0, .null, .null, .int 0, .null, .null, .null, .int 0, .int 0])) := by rw [hc]; exact up_eq
  have a13 : c13 33 = some (eJ g 8 (fun _ => 0)) := by rw [hc, va_up_ne _ _ (by decide)]; exact up_eq
  have t13 : ∀ i, i ≠ 20 → i ≠ 33 → c13 i = c12 i := fun i h1 h2 => by rw [hc, va_up_ne _ _ h1, va_up_ne _ _ h2]
  have u13 : ∀ i, 34 ≤ i → i ≤ 38 → c13 i = none := fun i h1 h2 => by rw [t13 i (by omega) (by omega)]; exact u12 i (by omega) h2
  clear e1 e2 hc
  refine j_aload0 (pc := 114) h dX8_init_114 ?_
  refine j_bipush (pc := 115) h dX8_init_115 bp_20 ?_
  refine j_newI (pc := 117) (j := 34) h dX8_init_117 (u13 34 (by decide) (by decide)) tw_ac_int (by decide) (by decide) (by decide) (fun q => ?_)
  obtain ⟨x14, e1, e2, v14⟩ := ad_up (ad := x13) 34 q
  rw [e1]
  refine j_st (st' := [.ref (x14 34), .ref (x14 20)]) (by rw [e2, v14 20 (by decide)]) ?_
  refine j_L (L' := [some (.ref (x14 20))]) (by rw [v14 20 (by decide)]) ?_
  refine j_putF (pc := 119) (j := 20) h rfl dX8_init_119 ((upn W13 (by decide))) pl_X8_55 rfl rfl rfl (Nat.le_of_ble_eq_true rfl) ?_
  obtain ⟨c14, hc⟩ : ∃ c, c = va_up (va_up c13 34 (some (eI g 20 (fun _ => 0)))) 20 (some (.inr (8, [.int 0, .int (nI 1), .ref (x1 21), .ref (x2 22), .ref (x3 23), .int 0, .ref (x4 24), .ref (x5 25), .ref (x6 26), .ref (x7 27), .ref (x8 28), .int 0, .ref (x9 29), .ref (x10 30), .ref (x11 31), .ref (x12 32), .ref (x13 33), .int 0, .ref (x14 34), .null, .int 0, .null, .null, .null, .int 0, .int 0]))) := ⟨_, rfl⟩
  refine j_mem (C' := c14) (by rw [hc]; rfl) ?_
  have W14 : c14 20 = some (.inr (8, [.int 0, .int (nI 1), .ref (x1 21), .ref (x2 22), .ref (x3 23), .int 0, .ref (x4 24), .ref (x5 25), .ref (x6 26), .ref (x7 27), .ref (x8 28), .int 0, .ref (x9 29), .ref (x10 30), .ref (x11 31), .ref (x12 32), .ref (x13 33), .int 0, .ref (x14 34), .null, .int 0, .null, .null, .null, .int 0, .int 0])) := by rw [hc]; exact up_eq
  have a14 : c14 34 = some (eI g 20 (fun _ => 0)) := by rw [hc, va_up_ne _ _ (by decide)]; exact up_eq
  have t14 : ∀ i, i ≠ 20 → i ≠ 34 → c14 i = c13 i := fun i h1 h2 => by rw [hc, va_up_ne _ _ h1, va_up_ne _ _ h2]
  have u14 : ∀ i, 35 ≤ i → i ≤ 38 → c14 i = none := fun i h1 h2 => by rw [t14 i (by omega) (by omega)]; exact u13 i (by omega) h2
  clear e1 e2 hc
  refine j_aload0 (pc := 122) h dX8_init_122 ?_
  refine j_sipush (pc := 123) h dX8_init_123 sp_600 ?_
  refine j_newI (pc := 126) (j := 35) h dX8_init_126 (u14 35 (by decide) (by decide)) tw_ac_int (by decide) (by decide) (by decide) (fun q => ?_)
  obtain ⟨x15, e1, e2, v15⟩ := ad_up (ad := x14) 35 q
  rw [e1]
  refine j_st (st' := [.ref (x15 35), .ref (x15 20)]) (by rw [e2, v15 20 (by decide)]) ?_
  refine j_L (L' := [some (.ref (x15 20))]) (by rw [v15 20 (by decide)]) ?_
  refine j_putF (pc := 128) (j := 20) h rfl dX8_init_128 ((upn W14 (by decide))) pl_X8_58 rfl rfl rfl (Nat.le_of_ble_eq_true rfl) ?_
  obtain ⟨c15, hc⟩ : ∃ c, c = va_up (va_up c14 35 (some (eI g 600 (fun _ => 0)))) 20 (some (.inr (8, [.int 0, .int (nI 1), .ref (x1 21), .ref (x2 22), .ref (x3 23), .int 0, .ref (x4 24), .ref (x5 25), .ref (x6 26), .ref (x7 27), .ref (x8 28), .int 0, .ref (x9 29), .ref (x10 30), .ref (x11 31), .ref (x12 32), .ref (x13 33), .int 0, .ref (x14 34), .ref (x15 35), .int 0, .null, .null, .null, .int 0, .int 0]))) := ⟨_, rfl⟩
  refine j_mem (C' := c15) (by rw [hc]; rfl) ?_
  have W15 : c15 20 = some (.inr (8, [.int 0, .int (nI 1), .ref (x1 21), .ref (x2 22), .ref (x3 23), .int 0, .ref (x4 24), .ref (x5 25), .ref (x6 26), .ref (x7 27), .ref (x8 28), .int 0, .ref (x9 29), .ref (x10 30), .ref (x11 31), .ref (x12 32), .ref (x13 33), .int 0, .ref (x14 34), .ref (x15 35), .int 0, .null, .null, .null, .int 0, .int 0])) := by rw [hc]; exact up_eq
  have a15 : c15 35 = some (eI g 600 (fun _ => 0)) := by rw [hc, va_up_ne _ _ (by decide)]; exact up_eq
  have t15 : ∀ i, i ≠ 20 → i ≠ 35 → c15 i = c14 i := fun i h1 h2 => by rw [hc, va_up_ne _ _ h1, va_up_ne _ _ h2]
  have u15 : ∀ i, 36 ≤ i → i ≤ 38 → c15 i = none := fun i h1 h2 => by rw [t15 i (by omega) (by omega)]; exact u14 i (by omega) h2
  clear e1 e2 hc
  refine j_aload0 (pc := 131) h dX8_init_131 ?_
  refine j_bipush (pc := 132) h dX8_init_132 bp_60 ?_
  refine j_putv (pc := 134) (j := 20) h dX8_init_134 (W15) pl_X8_61 rfl rfl (Nat.le_of_ble_eq_true rfl) ?_
  obtain ⟨d0, hc⟩ : ∃ c, c = va_up c15 20 (some (.inr (8, [.int 0, .int (nI 1), .ref (x1 21), .ref (x2 22), .ref (x3 23), .int 0, .ref (x4 24), .ref (x5 25), .ref (x6 26), .ref (x7 27), .ref (x8 28), .int 0, .ref (x9 29), .ref (x10 30), .ref (x11 31), .ref (x12 32), .ref (x13 33), .int 0, .ref (x14 34), .ref (x15 35), .int (nI 60), .null, .null, .null, .int 0, .int 0]))) := ⟨_, rfl⟩
  refine j_mem (C' := d0) (by rw [hc]; rfl) ?_
  have Wd : d0 20 = some (.inr (8, [.int 0, .int (nI 1), .ref (x1 21), .ref (x2 22), .ref (x3 23), .int 0, .ref (x4 24), .ref (x5 25), .ref (x6 26), .ref (x7 27), .ref (x8 28), .int 0, .ref (x9 29), .ref (x10 30), .ref (x11 31), .ref (x12 32), .ref (x13 33), .int 0, .ref (x14 34), .ref (x15 35), .int (nI 60), .null, .null, .null, .int 0, .int 0])) := by rw [hc]; exact up_eq
  have td : ∀ i, i ≠ 20 → d0 i = c15 i := fun i h1 => by rw [hc, va_up_ne _ _ h1]
  have ud : ∀ i, 36 ≤ i → i ≤ 38 → d0 i = none := fun i h1 h2 => by rw [td i (by omega)]; exact u15 i h1 h2
  clear hc
  refine j_aload0 (pc := 137) h dX8_init_137 ?_
  refine j_bipush (pc := 138) h dX8_init_138 bp_40 ?_
  refine j_newZ (pc := 140) (j := 36) h dX8_init_140 (ud 36 (by decide) (by decide)) tw_ac_boolean (by decide) (by decide) (by decide) (fun q => ?_)
  obtain ⟨x16, e1, e2, v16⟩ := ad_up (ad := x15) 36 q
  rw [e1]
  refine j_st (st' := [.ref (x16 36), .ref (x16 20)]) (by rw [e2, v16 20 (by decide)]) ?_
  refine j_L (L' := [some (.ref (x16 20))]) (by rw [v16 20 (by decide)]) ?_
  refine j_putF (pc := 142) (j := 20) h rfl dX8_init_142 ((upn Wd (by decide))) pl_X8_64 rfl rfl rfl (Nat.le_of_ble_eq_true rfl) ?_
  obtain ⟨c16, hc⟩ : ∃ c, c = va_up (va_up d0 36 (some (eZ g 40 (fun _ => 0)))) 20 (some (.inr (8, [.int 0, .int (nI 1), .ref (x1 21), .ref (x2 22), .ref (x3 23), .int 0, .ref (x4 24), .ref (x5 25), .ref (x6 26), .ref (x7 27), .ref (x8 28), .int 0, .ref (x9 29), .ref (x10 30), .ref (x11 31), .ref (x12 32), .ref (x13 33), .int 0, .ref (x14 34), .ref (x15 35), .int (nI 60), .ref (x16 36), .null, .null, .int 0, .int 0]))) := ⟨_, rfl⟩
  refine j_mem (C' := c16) (by rw [hc]; rfl) ?_
  have W16 : c16 20 = some (.inr (8, [.int 0, .int (nI 1), .ref (x1 21), .ref (x2 22), .ref (x3 23), .int 0, .ref (x4 24), .ref (x5 25), .ref (x6 26), .ref (x7 27), .ref (x8 28), .int 0, .ref (x9 29), .ref (x10 30), .ref (x11 31), .ref (x12 32), .ref (x13 33), .int 0, .ref (x14 34), .ref (x15 35), .int (nI 60), .ref (x16 36), .null, .null, .int 0, .int 0])) := by rw [hc]; exact up_eq
  have a16 : c16 36 = some (eZ g 40 (fun _ => 0)) := by rw [hc, va_up_ne _ _ (by decide)]; exact up_eq
  have t16 : ∀ i, i ≠ 20 → i ≠ 36 → c16 i = d0 i := fun i h1 h2 => by rw [hc, va_up_ne _ _ h1, va_up_ne _ _ h2]
  have u16 : ∀ i, 37 ≤ i → i ≤ 38 → c16 i = none := fun i h1 h2 => by rw [t16 i (by omega) (by omega)]; exact ud i (by omega) h2
  clear e1 e2 hc
  refine j_aload0 (pc := 145) h dX8_init_145 ?_
  refine j_bipush (pc := 146) h dX8_init_146 bp_12 ?_
  refine j_newI (pc := 148) (j := 37) h dX8_init_148 (u16 37 (by decide) (by decide)) tw_ac_int (by decide) (by decide) (by decide) (fun q => ?_)
  obtain ⟨x17, e1, e2, v17⟩ := ad_up (ad := x16) 37 q
  rw [e1]
  refine j_st (st' := [.ref (x17 37), .ref (x17 20)]) (by rw [e2, v17 20 (by decide)]) ?_
  refine j_L (L' := [some (.ref (x17 20))]) (by rw [v17 20 (by decide)]) ?_
  refine j_putF (pc := 150) (j := 20) h rfl dX8_init_150 ((upn W16 (by decide))) pl_X8_67 rfl rfl rfl (Nat.le_of_ble_eq_true rfl) ?_
  obtain ⟨c17, hc⟩ : ∃ c, c = va_up (va_up c16 37 (some (eI g 12 (fun _ => 0)))) 20 (some (.inr (8, [.int 0, .int (nI 1), .ref (x1 21), .ref (x2 22), .ref (x3 23), .int 0, .ref (x4 24), .ref (x5 25), .ref (x6 26), .ref (x7 27), .ref (x8 28), .int 0, .ref (x9 29), .ref (x10 30), .ref (x11 31), .ref (x12 32), .ref (x13 33), .int 0, .ref (x14 34), .ref (x15 35), .int (nI 60), .ref (x16 36), .ref (x17 37), .null, .int 0, .int 0]))) := ⟨_, rfl⟩
  refine j_mem (C' := c17) (by rw [hc]; rfl) ?_
  have W17 : c17 20 = some (.inr (8, [.int 0, .int (nI 1), .ref (x1 21), .ref (x2 22), .ref (x3 23), .int 0, .ref (x4 24), .ref (x5 25), .ref (x6 26), .ref (x7 27), .ref (x8 28), .int 0, .ref (x9 29), .ref (x10 30), .ref (x11 31), .ref (x12 32), .ref (x13 33), .int 0, .ref (x14 34), .ref (x15 35), .int (nI 60), .ref (x16 36), .ref (x17 37), .null, .int 0, .int 0])) := by rw [hc]; exact up_eq
  have a17 : c17 37 = some (eI g 12 (fun _ => 0)) := by rw [hc, va_up_ne _ _ (by decide)]; exact up_eq
  have t17 : ∀ i, i ≠ 20 → i ≠ 37 → c17 i = c16 i := fun i h1 h2 => by rw [hc, va_up_ne _ _ h1, va_up_ne _ _ h2]
  have u17 : ∀ i, 38 ≤ i → i ≤ 38 → c17 i = none := fun i h1 h2 => by rw [t17 i (by omega) (by omega)]; exact u16 i (by omega) h2
  clear e1 e2 hc
  refine j_aload0 (pc := 153) h dX8_init_153 ?_
  refine j_bipush (pc := 154) h dX8_init_154 bp_40 ?_
  refine j_newJ (pc := 156) (j := 38) h dX8_init_156 (u17 38 (by decide) (by decide)) tw_ac_long (by decide) (by decide) (by decide) (fun q => ?_)
  obtain ⟨x18, e1, e2, v18⟩ := ad_up (ad := x17) 38 q
  rw [e1]
  refine j_st (st' := [.ref (x18 38), .ref (x18 20)]) (by rw [e2, v18 20 (by decide)]) ?_
  refine j_L (L' := [some (.ref (x18 20))]) (by rw [v18 20 (by decide)]) ?_
  refine j_putF (pc := 158) (j := 20) h rfl dX8_init_158 ((upn W17 (by decide))) pl_X8_70 rfl rfl rfl (Nat.le_of_ble_eq_true rfl) ?_
  obtain ⟨c18, hc⟩ : ∃ c, c = va_up (va_up c17 38 (some (eJ g 40 (fun _ => 0)))) 20 (some (.inr (8, [.int 0, .int (nI 1), .ref (x1 21), .ref (x2 22), .ref (x3 23), .int 0, .ref (x4 24), .ref (x5 25), .ref (x6 26), .ref (x7 27), .ref (x8 28), .int 0, .ref (x9 29), .ref (x10 30), .ref (x11 31), .ref (x12 32), .ref (x13 33), .int 0, .ref (x14 34), .ref (x15 35), .int (nI 60), .ref (x16 36), .ref (x17 37), .ref (x18 38), .int 0, .int 0]))) := ⟨_, rfl⟩
  refine j_mem (C' := c18) (by rw [hc]; rfl) ?_
  have W18 : c18 20 = some (.inr (8, [.int 0, .int (nI 1), .ref (x1 21), .ref (x2 22), .ref (x3 23), .int 0, .ref (x4 24), .ref (x5 25), .ref (x6 26), .ref (x7 27), .ref (x8 28), .int 0, .ref (x9 29), .ref (x10 30), .ref (x11 31), .ref (x12 32), .ref (x13 33), .int 0, .ref (x14 34), .ref (x15 35), .int (nI 60), .ref (x16 36), .ref (x17 37), .ref (x18 38), .int 0, .int 0])) := by rw [hc]; exact up_eq
  have a18 : c18 38 = some (eJ g 40 (fun _ => 0)) := by rw [hc, va_up_ne _ _ (by decide)]; exact up_eq
  have t18 : ∀ i, i ≠ 20 → i ≠ 38 → c18 i = c17 i := fun i h1 h2 => by rw [hc, va_up_ne _ _ h1, va_up_ne _ _ h2]
  have u18 : ∀ i, 39 ≤ i → i ≤ 38 → c18 i = none := fun i h1 h2 => by rw [t18 i (by omega) (by omega)]; exact u17 i (by omega) h2
  clear e1 e2 hc
  have E1 : x18 21 = x1 21 := by rw [v18 21 (by decide), v17 21 (by decide), v16 21 (by decide), v15 21 (by decide), v14 21 (by decide), v13 21 (by decide), v12 21 (by decide), v11 21 (by decide), v10 21 (by decide), v9 21 (by decide), v8 21 (by decide), v7 21 (by decide), v6 21 (by decide), v5 21 (by decide), v4 21 (by decide), v3 21 (by decide), v2 21 (by decide)]
  have A1 : c18 21 = some (eI g 30 (fun _ => 0)) := by rw [t18 21 (by decide) (by decide), t17 21 (by decide) (by decide), t16 21 (by decide) (by decide), td 21 (by decide), t15 21 (by decide) (by decide), t14 21 (by decide) (by decide), t13 21 (by decide) (by decide), t12 21 (by decide) (by decide), t11 21 (by decide) (by decide), t10 21 (by decide) (by decide), t9 21 (by decide) (by decide), t8 21 (by decide) (by decide), t7 21 (by decide) (by decide), t6 21 (by decide) (by decide), t5 21 (by decide) (by decide), t4 21 (by decide) (by decide), t3 21 (by decide) (by decide), t2 21 (by decide) (by decide)]; exact a1
  have E2 : x18 22 = x2 22 := by rw [v18 22 (by decide), v17 22 (by decide), v16 22 (by decide), v15 22 (by decide), v14 22 (by decide), v13 22 (by decide), v12 22 (by decide), v11 22 (by decide), v10 22 (by decide), v9 22 (by decide), v8 22 (by decide), v7 22 (by decide), v6 22 (by decide), v5 22 (by decide), v4 22 (by decide), v3 22 (by decide)]
  have A2 : c18 22 = some (eI g 30 (fun _ => 0)) := by rw [t18 22 (by decide) (by decide), t17 22 (by decide) (by decide), t16 22 (by decide) (by decide), td 22 (by decide), t15 22 (by decide) (by decide), t14 22 (by decide) (by decide), t13 22 (by decide) (by decide), t12 22 (by decide) (by decide), t11 22 (by decide) (by decide), t10 22 (by decide) (by decide), t9 22 (by decide) (by decide), t8 22 (by decide) (by decide), t7 22 (by decide) (by decide), t6 22 (by decide) (by decide), t5 22 (by decide) (by decide), t4 22 (by decide) (by decide), t3 22 (by decide) (by decide)]; exact a2
  have E3 : x18 23 = x3 23 := by rw [v18 23 (by decide), v17 23 (by decide), v16 23 (by decide), v15 23 (by decide), v14 23 (by decide), v13 23 (by decide), v12 23 (by decide), v11 23 (by decide), v10 23 (by decide), v9 23 (by decide), v8 23 (by decide), v7 23 (by decide), v6 23 (by decide), v5 23 (by decide), v4 23 (by decide)]
  have A3 : c18 23 = some (eZ g 30 (fun _ => 0)) := by rw [t18 23 (by decide) (by decide), t17 23 (by decide) (by decide), t16 23 (by decide) (by decide), td 23 (by decide), t15 23 (by decide) (by decide), t14 23 (by decide) (by decide), t13 23 (by decide) (by decide), t12 23 (by decide) (by decide), t11 23 (by decide) (by decide), t10 23 (by decide) (by decide), t9 23 (by decide) (by decide), t8 23 (by decide) (by decide), t7 23 (by decide) (by decide), t6 23 (by decide) (by decide), t5 23 (by decide) (by decide), t4 23 (by decide) (by decide)]; exact a3
  have E4 : x18 24 = x4 24 := by rw [v18 24 (by decide), v17 24 (by decide), v16 24 (by decide), v15 24 (by decide), v14 24 (by decide), v13 24 (by decide), v12 24 (by decide), v11 24 (by decide), v10 24 (by decide), v9 24 (by decide), v8 24 (by decide), v7 24 (by decide), v6 24 (by decide), v5 24 (by decide)]
  have A4 : c18 24 = some (eI g 40 (fun _ => 0)) := by rw [t18 24 (by decide) (by decide), t17 24 (by decide) (by decide), t16 24 (by decide) (by decide), td 24 (by decide), t15 24 (by decide) (by decide), t14 24 (by decide) (by decide), t13 24 (by decide) (by decide), t12 24 (by decide) (by decide), t11 24 (by decide) (by decide), t10 24 (by decide) (by decide), t9 24 (by decide) (by decide), t8 24 (by decide) (by decide), t7 24 (by decide) (by decide), t6 24 (by decide) (by decide), t5 24 (by decide) (by decide)]; exact a4
  have E5 : x18 25 = x5 25 := by rw [v18 25 (by decide), v17 25 (by decide), v16 25 (by decide), v15 25 (by decide), v14 25 (by decide), v13 25 (by decide), v12 25 (by decide), v11 25 (by decide), v10 25 (by decide), v9 25 (by decide), v8 25 (by decide), v7 25 (by decide), v6 25 (by decide)]
  have A5 : c18 25 = some (eI g 2400 (fun _ => 0)) := by rw [t18 25 (by decide) (by decide), t17 25 (by decide) (by decide), t16 25 (by decide) (by decide), td 25 (by decide), t15 25 (by decide) (by decide), t14 25 (by decide) (by decide), t13 25 (by decide) (by decide), t12 25 (by decide) (by decide), t11 25 (by decide) (by decide), t10 25 (by decide) (by decide), t9 25 (by decide) (by decide), t8 25 (by decide) (by decide), t7 25 (by decide) (by decide), t6 25 (by decide) (by decide)]; exact a5
  have E6 : x18 26 = x6 26 := by rw [v18 26 (by decide), v17 26 (by decide), v16 26 (by decide), v15 26 (by decide), v14 26 (by decide), v13 26 (by decide), v12 26 (by decide), v11 26 (by decide), v10 26 (by decide), v9 26 (by decide), v8 26 (by decide), v7 26 (by decide)]
  have A6 : c18 26 = some (eI g 40 (fun _ => 0)) := by rw [t18 26 (by decide) (by decide), t17 26 (by decide) (by decide), t16 26 (by decide) (by decide), td 26 (by decide), t15 26 (by decide) (by decide), t14 26 (by decide) (by decide), t13 26 (by decide) (by decide), t12 26 (by decide) (by decide), t11 26 (by decide) (by decide), t10 26 (by decide) (by decide), t9 26 (by decide) (by decide), t8 26 (by decide) (by decide), t7 26 (by decide) (by decide)]; exact a6
  have E7 : x18 27 = x7 27 := by rw [v18 27 (by decide), v17 27 (by decide), v16 27 (by decide), v15 27 (by decide), v14 27 (by decide), v13 27 (by decide), v12 27 (by decide), v11 27 (by decide), v10 27 (by decide), v9 27 (by decide), v8 27 (by decide)]
  have A7 : c18 27 = some (eI g 40 (fun _ => 0)) := by rw [t18 27 (by decide) (by decide), t17 27 (by decide) (by decide), t16 27 (by decide) (by decide), td 27 (by decide), t15 27 (by decide) (by decide), t14 27 (by decide) (by decide), t13 27 (by decide) (by decide), t12 27 (by decide) (by decide), t11 27 (by decide) (by decide), t10 27 (by decide) (by decide), t9 27 (by decide) (by decide), t8 27 (by decide) (by decide)]; exact a7
  have E8 : x18 28 = x8 28 := by rw [v18 28 (by decide), v17 28 (by decide), v16 28 (by decide), v15 28 (by decide), v14 28 (by decide), v13 28 (by decide), v12 28 (by decide), v11 28 (by decide), v10 28 (by decide), v9 28 (by decide)]
  have A8 : c18 28 = some (eI g 40 (fun _ => 0)) := by rw [t18 28 (by decide) (by decide), t17 28 (by decide) (by decide), t16 28 (by decide) (by decide), td 28 (by decide), t15 28 (by decide) (by decide), t14 28 (by decide) (by decide), t13 28 (by decide) (by decide), t12 28 (by decide) (by decide), t11 28 (by decide) (by decide), t10 28 (by decide) (by decide), t9 28 (by decide) (by decide)]; exact a8
  have E9 : x18 29 = x9 29 := by rw [v18 29 (by decide), v17 29 (by decide), v16 29 (by decide), v15 29 (by decide), v14 29 (by decide), v13 29 (by decide), v12 29 (by decide), v11 29 (by decide), v10 29 (by decide)]
  have A9 : c18 29 = some (eI g 100 (fun _ => 0)) := by rw [t18 29 (by decide) (by decide), t17 29 (by decide) (by decide), t16 29 (by decide) (by decide), td 29 (by decide), t15 29 (by decide) (by decide), t14 29 (by decide) (by decide), t13 29 (by decide) (by decide), t12 29 (by decide) (by decide), t11 29 (by decide) (by decide), t10 29 (by decide) (by decide)]; exact a9
  have E10 : x18 30 = x10 30 := by rw [v18 30 (by decide), v17 30 (by decide), v16 30 (by decide), v15 30 (by decide), v14 30 (by decide), v13 30 (by decide), v12 30 (by decide), v11 30 (by decide)]
  have A10 : c18 30 = some (eI g 100 (fun _ => 0)) := by rw [t18 30 (by decide) (by decide), t17 30 (by decide) (by decide), t16 30 (by decide) (by decide), td 30 (by decide), t15 30 (by decide) (by decide), t14 30 (by decide) (by decide), t13 30 (by decide) (by decide), t12 30 (by decide) (by decide), t11 30 (by decide) (by decide)]; exact a10
  have E11 : x18 31 = x11 31 := by rw [v18 31 (by decide), v17 31 (by decide), v16 31 (by decide), v15 31 (by decide), v14 31 (by decide), v13 31 (by decide), v12 31 (by decide)]
  have A11 : c18 31 = some (eZ g 100 (fun _ => 0)) := by rw [t18 31 (by decide) (by decide), t17 31 (by decide) (by decide), t16 31 (by decide) (by decide), td 31 (by decide), t15 31 (by decide) (by decide), t14 31 (by decide) (by decide), t13 31 (by decide) (by decide), t12 31 (by decide) (by decide)]; exact a11
  have E12 : x18 32 = x12 32 := by rw [v18 32 (by decide), v17 32 (by decide), v16 32 (by decide), v15 32 (by decide), v14 32 (by decide), v13 32 (by decide)]
  have A12 : c18 32 = some (eZ g 8 (fun _ => 0)) := by rw [t18 32 (by decide) (by decide), t17 32 (by decide) (by decide), t16 32 (by decide) (by decide), td 32 (by decide), t15 32 (by decide) (by decide), t14 32 (by decide) (by decide), t13 32 (by decide) (by decide)]; exact a12
  have E13 : x18 33 = x13 33 := by rw [v18 33 (by decide), v17 33 (by decide), v16 33 (by decide), v15 33 (by decide), v14 33 (by decide)]
  have A13 : c18 33 = some (eJ g 8 (fun _ => 0)) := by rw [t18 33 (by decide) (by decide), t17 33 (by decide) (by decide), t16 33 (by decide) (by decide), td 33 (by decide), t15 33 (by decide) (by decide), t14 33 (by decide) (by decide)]; exact a13
  have E14 : x18 34 = x14 34 := by rw [v18 34 (by decide), v17 34 (by decide), v16 34 (by decide), v15 34 (by decide)]
  have A14 : c18 34 = some (eI g 20 (fun _ => 0)) := by rw [t18 34 (by decide) (by decide), t17 34 (by decide) (by decide), t16 34 (by decide) (by decide), td 34 (by decide), t15 34 (by decide) (by decide)]; exact a14
  have E15 : x18 35 = x15 35 := by rw [v18 35 (by decide), v17 35 (by decide), v16 35 (by decide)]
  have A15 : c18 35 = some (eI g 600 (fun _ => 0)) := by rw [t18 35 (by decide) (by decide), t17 35 (by decide) (by decide), t16 35 (by decide) (by decide), td 35 (by decide)]; exact a15
  have E16 : x18 36 = x16 36 := by rw [v18 36 (by decide), v17 36 (by decide)]
  have A16 : c18 36 = some (eZ g 40 (fun _ => 0)) := by rw [t18 36 (by decide) (by decide), t17 36 (by decide) (by decide)]; exact a16
  have E17 : x18 37 = x17 37 := by rw [v18 37 (by decide)]
  have A17 : c18 37 = some (eI g 12 (fun _ => 0)) := by rw [t18 37 (by decide) (by decide)]; exact a17
  have A18 := a18
  have W : c18 20 = some (.inr (8, [.int 0, .int (nI 1), .ref (x18 21), .ref (x18 22), .ref (x18 23), .int 0, .ref (x18 24), .ref (x18 25), .ref (x18 26), .ref (x18 27), .ref (x18 28), .int 0, .ref (x18 29), .ref (x18 30), .ref (x18 31), .ref (x18 32), .ref (x18 33), .int 0, .ref (x18 34), .ref (x18 35), .int (nI 60), .ref (x18 36), .ref (x18 37), .ref (x18 38), .int 0, .int 0])) := W18.trans (by rw [E1, E2, E3, E4, E5, E6, E7, E8, E9, E10, E11, E12, E13, E14, E15, E16, E17])
  have fr : ∀ i, i < 20 ∨ 38 < i → x18 i = ad i ∧ c18 i = C i := fun i hi => ⟨by rw [v18 i (by omega), v17 i (by omega), v16 i (by omega), v15 i (by omega), v14 i (by omega), v13 i (by omega), v12 i (by omega), v11 i (by omega), v10 i (by omega), v9 i (by omega), v8 i (by omega), v7 i (by omega), v6 i (by omega), v5 i (by omega), v4 i (by omega), v3 i (by omega), v2 i (by omega), v1 i (by omega)], by rw [t18 i (by omega) (by omega), t17 i (by omega) (by omega), t16 i (by omega) (by omega), td i (by omega), t15 i (by omega) (by omega), t14 i (by omega) (by omega), t13 i (by omega) (by omega), t12 i (by omega) (by omega), t11 i (by omega) (by omega), t10 i (by omega) (by omega), t9 i (by omega) (by omega), t8 i (by omega) (by omega), t7 i (by omega) (by omega), t6 i (by omega) (by omega), t5 i (by omega) (by omega), t4 i (by omega) (by omega), t3 i (by omega) (by omega), t2 i (by omega) (by omega), t1 i (by omega) (by omega), t0 i (by omega)]⟩
  have f0 : x18 20 = ad 20 := by rw [v18 20 (by decide), v17 20 (by decide), v16 20 (by decide), v15 20 (by decide), v14 20 (by decide), v13 20 (by decide), v12 20 (by decide), v11 20 (by decide), v10 20 (by decide), v9 20 (by decide), v8 20 (by decide), v7 20 (by decide), v6 20 (by decide), v5 20 (by decide), v4 20 (by decide), v3 20 (by decide), v2 20 (by decide), v1 20 (by decide)]
  clear t1 u1 a1 E1
  clear t2 u2 a2 E2
  clear t3 u3 a3 E3
  clear t4 u4 a4 E4
  clear t5 u5 a5 E5
  clear t6 u6 a6 E6
  clear t7 u7 a7 E7
  clear t8 u8 a8 E8
  clear t9 u9 a9 E9
  clear t10 u10 a10 E10
  clear t11 u11 a11 E11
  clear t12 u12 a12 E12
  clear t13 u13 a13 E13
  clear t14 u14 a14 E14
  clear t15 u15 a15 E15
  clear t16 u16 a16 E16
  clear t17 u17 a17 E17
  clear t18 u18 a18
  refine j_aload0 (pc := 161) h dX8_init_161 ?_
  refine j_getf (pc := 162) h dX8_init_162 (W) fl_X8_13 rfl ?_
  refine j_iconst (pc := 165) h dX8_init_165 ic_0 ?_
  refine j_iconst (pc := 166) h dX8_init_166 ic_m1 ?_
  refine j_iast (pc := 167) h dX8_init_167 (A1) (by omega) (by decide) ?_
  refine j_vret (pc := 168) h dX8_init_168 (⟨rfl, ⟨fun i hi => ⟨(fr i hi).1, (va_up_ne _ _ (by omega)).trans (fr i hi).2⟩, f0⟩, W, eI_c par0, A2, A3, A4, A5, A6, A7, A8, A9, A10, A11, A12, A13, A14, A15, A16, A17, A18⟩)
def r0 : Rm := (fun _ => none, fun _ => 0, fun _ => 0, fun _ => 0, fun _ => 0, 0, 0, 0, 0)
theorem k_X7_init (hj : C 0 = some (.inr (7, [.null, .null, .null, .null, .null, .null, .int 0, .int 0]))) (hn : ∀ i, 1 ≤ i → C i = none) : Ct l g yX7_init cX7_init 1 none 3 19 1023 [.ref (ad 0)] ad C (fun r ad' C' => r = none ∧ FrC 0 19 ad C ad' C' ∧ CW g ad' s0 r0 C') := by
  refine Ct_of [some (.ref (ad 0))] (by decide) rfl rfl (Nat.le_of_ble_eq_true rfl) rfl rfl (fun X hX h => ?_)
  subst hX
  refine j_aload0 (pc := 0) h dX7_init_0 ?_
  refine j_objInit (pc := 1) h dX7_init_1 oi_X7_3 tw_oi tw_oc (by decide) (Nat.le_of_ble_eq_true rfl) ?_
  refine j_aload0 (pc := 4) h dX7_init_4 ?_
  refine j_new (pc := 5) (j := 1) h dX7_init_5 (hn 1 (by decide)) nl_X7_9 (by decide) (by decide) (fun q => ?_)
  obtain ⟨x0, e1, e2, e3⟩ := ad_up (ad := ad) 1 q
  rw [e1]
  refine j_st (st' := [.ref (x0 1), .ref (x0 0)]) (by rw [e2, e3 0 (by decide)]) ?_
  refine j_L (L' := [some (.ref (x0 0))]) (by rw [e3 0 (by decide)]) ?_
  refine j_dupR (pc := 8) h dX7_init_8 ?_
  refine j_callI (pc := 9) h dX7_init_9 (k_X1_init (ad := x0) rfl (show va_up C 1 _ 2 = none from hn 2 (by decide)) (show va_up C 1 _ 3 = none from hn 3 (by decide)) (show va_up C 1 _ 4 = none from hn 4 (by decide))) mi_X7_11 rfl rfl (by decide) (Nat.le_of_ble_eq_true rfl) (Nat.le_of_ble_eq_true rfl) (Nat.le_of_ble_eq_true rfl) (fun v9 ad9 C9 hp9 => ?_)
  obtain ⟨rfl, ⟨fr, fb⟩, gg⟩ := hp9
  have z0 : ad9 0 = ad 0 := ((fr 0 (by decide)).1).trans (e3 0 (by decide))
  have v0 : ∀ i, (0 < i ∧ i < 1) ∨ 4 < i → ad9 i = ad i ∧ C9 i = C i := fun i hi => ⟨((fr i (by omega)).1).trans (e3 i (by omega)), ((fr i (by omega)).2).trans (va_up_ne _ _ (by omega))⟩
  have y0 : C9 0 = C 0 := ((fr 0 (by decide)).2).trans (va_up_ne _ _ (by decide))
  have g0 := gg
  refine j_st (st' := [.ref (ad9 1), .ref (ad9 0)]) (by rw [fb, (fr 0 (by decide)).1]; rfl) ?_
  refine j_L (L' := [some (.ref (ad9 0))]) (by rw [(fr 0 (by decide)).1]) ?_
  clear fr fb gg e1 e2 e3
  refine j_putF (pc := 12) h rfl dX7_init_12 ((y0.trans hj)) pl_X7_12 rfl rfl rfl (Nat.le_of_ble_eq_true rfl) ?_
  obtain ⟨c0, hc0⟩ : ∃ c, c = va_up C9 0 (some (.inr (7, [.ref (ad9 1), .null, .null, .null, .null, .null, .int 0, .int 0]))) := ⟨_, rfl⟩
  refine j_mem (C' := c0) (by rw [hc0]; rfl) ?_
  have w0 : c0 0 = some (.inr (7, [.ref (ad9 1), .null, .null, .null, .null, .null, .int 0, .int 0])) := by rw [hc0]; exact up_eq
  have t0 : ∀ i, 0 < i → c0 i = C9 i := fun i hi => by rw [hc0]; exact va_up_ne _ _ (by omega)
  have u0 : ∀ i, 4 < i → c0 i = none := fun i hi => by rw [t0 i (by omega), (v0 i (by omega)).2]; exact hn i (by omega)
  refine j_aload0 (pc := 15) h dX7_init_15 ?_
  refine j_new (pc := 16) (j := 5) h dX7_init_16 ((u0 5 (by decide))) nl_X7_16 (by decide) (by decide) (fun q => ?_)
  obtain ⟨x1, e1, e2, e3⟩ := ad_up (ad := ad9) 5 q
  rw [e1]
  refine j_st (st' := [.ref (x1 5), .ref (x1 0)]) (by rw [e2, e3 0 (by decide)]) ?_
  refine j_L (L' := [some (.ref (x1 0))]) (by rw [e3 0 (by decide)]) ?_
  refine j_dupR (pc := 19) h dX7_init_19 ?_
  refine j_callI (pc := 20) h dX7_init_20 (k_X0_init (ad := x1) rfl (show va_up c0 5 _ 6 = none from u0 6 (by decide))) mi_X7_18 rfl rfl (by decide) (Nat.le_of_ble_eq_true rfl) (Nat.le_of_ble_eq_true rfl) (Nat.le_of_ble_eq_true rfl) (fun v20 ad20 C20 hp20 => ?_)
  obtain ⟨rfl, ⟨fr, fb⟩, gg⟩ := hp20
  have z1 : ad20 0 = ad9 0 := ((fr 0 (by decide)).1).trans (e3 0 (by decide))
  have v1 : ∀ i, (0 < i ∧ i < 5) ∨ 6 < i → ad20 i = ad9 i ∧ C20 i = c0 i := fun i hi => ⟨((fr i (by omega)).1).trans (e3 i (by omega)), ((fr i (by omega)).2).trans (va_up_ne _ _ (by omega))⟩
  have y1 : C20 0 = c0 0 := ((fr 0 (by decide)).2).trans (va_up_ne _ _ (by decide))
  have g1 := gg
  refine j_st (st' := [.ref (ad20 5), .ref (ad20 0)]) (by rw [fb, (fr 0 (by decide)).1]; rfl) ?_
  refine j_L (L' := [some (.ref (ad20 0))]) (by rw [(fr 0 (by decide)).1]) ?_
  clear fr fb gg e1 e2 e3
  refine j_putF (pc := 23) h rfl dX7_init_23 ((y1.trans w0)) pl_X7_19 rfl rfl rfl (Nat.le_of_ble_eq_true rfl) ?_
  obtain ⟨c1, hc1⟩ : ∃ c, c = va_up C20 0 (some (.inr (7, [.ref (ad9 1), .ref (ad20 5), .null, .null, .null, .null, .int 0, .int 0]))) := ⟨_, rfl⟩
  refine j_mem (C' := c1) (by rw [hc1]; rfl) ?_
  have w1 : c1 0 = some (.inr (7, [.ref (ad9 1), .ref (ad20 5), .null, .null, .null, .null, .int 0, .int 0])) := by rw [hc1]; exact up_eq
  have t1 : ∀ i, 0 < i → c1 i = C20 i := fun i hi => by rw [hc1]; exact va_up_ne _ _ (by omega)
  have u1 : ∀ i, 6 < i → c1 i = none := fun i hi => by rw [t1 i (by omega), (v1 i (by omega)).2]; exact u0 i (by omega)
  refine j_aload0 (pc := 26) h dX7_init_26 ?_
  refine j_new (pc := 27) (j := 7) h dX7_init_27 ((u1 7 (by decide))) nl_X7_23 (by decide) (by decide) (fun q => ?_)
  obtain ⟨x2, e1, e2, e3⟩ := ad_up (ad := ad20) 7 q
  rw [e1]
  refine j_st (st' := [.ref (x2 7), .ref (x2 0)]) (by rw [e2, e3 0 (by decide)]) ?_
  refine j_L (L' := [some (.ref (x2 0))]) (by rw [e3 0 (by decide)]) ?_
  refine j_dupR (pc := 30) h dX7_init_30 ?_
  refine j_callI (pc := 31) h dX7_init_31 (k_X3_init (ad := x2) rfl (show va_up c1 7 _ 8 = none from u1 8 (by decide)) (show va_up c1 7 _ 9 = none from u1 9 (by decide))) mi_X7_25 rfl rfl (by decide) (Nat.le_of_ble_eq_true rfl) (Nat.le_of_ble_eq_true rfl) (Nat.le_of_ble_eq_true rfl) (fun v31 ad31 C31 hp31 => ?_)
  obtain ⟨rfl, ⟨fr, fb⟩, gg⟩ := hp31
  have z2 : ad31 0 = ad20 0 := ((fr 0 (by decide)).1).trans (e3 0 (by decide))
  have v2 : ∀ i, (0 < i ∧ i < 7) ∨ 9 < i → ad31 i = ad20 i ∧ C31 i = c1 i := fun i hi => ⟨((fr i (by omega)).1).trans (e3 i (by omega)), ((fr i (by omega)).2).trans (va_up_ne _ _ (by omega))⟩
  have y2 : C31 0 = c1 0 := ((fr 0 (by decide)).2).trans (va_up_ne _ _ (by decide))
  have g2 := gg
  refine j_st (st' := [.ref (ad31 7), .ref (ad31 0)]) (by rw [fb, (fr 0 (by decide)).1]; rfl) ?_
  refine j_L (L' := [some (.ref (ad31 0))]) (by rw [(fr 0 (by decide)).1]) ?_
  clear fr fb gg e1 e2 e3
  refine j_putF (pc := 34) h rfl dX7_init_34 ((y2.trans w1)) pl_X7_26 rfl rfl rfl (Nat.le_of_ble_eq_true rfl) ?_
  obtain ⟨c2, hc2⟩ : ∃ c, c = va_up C31 0 (some (.inr (7, [.ref (ad9 1), .ref (ad20 5), .ref (ad31 7), .null, .null, .null, .int 0, .int 0]))) := ⟨_, rfl⟩
  refine j_mem (C' := c2) (by rw [hc2]; rfl) ?_
  have w2 : c2 0 = some (.inr (7, [.ref (ad9 1), .ref (ad20 5), .ref (ad31 7), .null, .null, .null, .int 0, .int 0])) := by rw [hc2]; exact up_eq
  have t2 : ∀ i, 0 < i → c2 i = C31 i := fun i hi => by rw [hc2]; exact va_up_ne _ _ (by omega)
  have u2 : ∀ i, 9 < i → c2 i = none := fun i hi => by rw [t2 i (by omega), (v2 i (by omega)).2]; exact u1 i (by omega)
  refine j_aload0 (pc := 37) h dX7_init_37 ?_
  refine j_new (pc := 38) (j := 10) h dX7_init_38 ((u2 10 (by decide))) nl_X7_30 (by decide) (by decide) (fun q => ?_)
  obtain ⟨x3, e1, e2, e3⟩ := ad_up (ad := ad31) 10 q
  rw [e1]
  refine j_st (st' := [.ref (x3 10), .ref (x3 0)]) (by rw [e2, e3 0 (by decide)]) ?_
  refine j_L (L' := [some (.ref (x3 0))]) (by rw [e3 0 (by decide)]) ?_
  refine j_dupR (pc := 41) h dX7_init_41 ?_
  refine j_callI (pc := 42) h dX7_init_42 (k_X5_init (ad := x3) rfl (show va_up c2 10 _ 11 = none from u2 11 (by decide)) (show va_up c2 10 _ 12 = none from u2 12 (by decide))) mi_X7_32 rfl rfl (by decide) (Nat.le_of_ble_eq_true rfl) (Nat.le_of_ble_eq_true rfl) (Nat.le_of_ble_eq_true rfl) (fun v42 ad42 C42 hp42 => ?_)
  obtain ⟨rfl, ⟨fr, fb⟩, gg⟩ := hp42
  have z3 : ad42 0 = ad31 0 := ((fr 0 (by decide)).1).trans (e3 0 (by decide))
  have v3 : ∀ i, (0 < i ∧ i < 10) ∨ 12 < i → ad42 i = ad31 i ∧ C42 i = c2 i := fun i hi => ⟨((fr i (by omega)).1).trans (e3 i (by omega)), ((fr i (by omega)).2).trans (va_up_ne _ _ (by omega))⟩
  have y3 : C42 0 = c2 0 := ((fr 0 (by decide)).2).trans (va_up_ne _ _ (by decide))
  have g3 := gg
  refine j_st (st' := [.ref (ad42 10), .ref (ad42 0)]) (by rw [fb, (fr 0 (by decide)).1]; rfl) ?_
  refine j_L (L' := [some (.ref (ad42 0))]) (by rw [(fr 0 (by decide)).1]) ?_
  clear fr fb gg e1 e2 e3
  refine j_putF (pc := 45) h rfl dX7_init_45 ((y3.trans w2)) pl_X7_33 rfl rfl rfl (Nat.le_of_ble_eq_true rfl) ?_
  obtain ⟨c3, hc3⟩ : ∃ c, c = va_up C42 0 (some (.inr (7, [.ref (ad9 1), .ref (ad20 5), .ref (ad31 7), .ref (ad42 10), .null, .null, .int 0, .int 0]))) := ⟨_, rfl⟩
  refine j_mem (C' := c3) (by rw [hc3]; rfl) ?_
  have w3 : c3 0 = some (.inr (7, [.ref (ad9 1), .ref (ad20 5), .ref (ad31 7), .ref (ad42 10), .null, .null, .int 0, .int 0])) := by rw [hc3]; exact up_eq
  have t3 : ∀ i, 0 < i → c3 i = C42 i := fun i hi => by rw [hc3]; exact va_up_ne _ _ (by omega)
  have u3 : ∀ i, 12 < i → c3 i = none := fun i hi => by rw [t3 i (by omega), (v3 i (by omega)).2]; exact u2 i (by omega)
  refine j_aload0 (pc := 48) h dX7_init_48 ?_
  refine j_new (pc := 49) (j := 13) h dX7_init_49 ((u3 13 (by decide))) nl_X7_37 (by decide) (by decide) (fun q => ?_)
  obtain ⟨x4, e1, e2, e3⟩ := ad_up (ad := ad42) 13 q
  rw [e1]
  refine j_st (st' := [.ref (x4 13), .ref (x4 0)]) (by rw [e2, e3 0 (by decide)]) ?_
  refine j_L (L' := [some (.ref (x4 0))]) (by rw [e3 0 (by decide)]) ?_
  refine j_dupR (pc := 52) h dX7_init_52 ?_
  refine j_callI (pc := 53) h dX7_init_53 (k_X2_init (ad := x4) rfl (show va_up c3 13 _ 14 = none from u3 14 (by decide)) (show va_up c3 13 _ 15 = none from u3 15 (by decide))) mi_X7_39 rfl rfl (by decide) (Nat.le_of_ble_eq_true rfl) (Nat.le_of_ble_eq_true rfl) (Nat.le_of_ble_eq_true rfl) (fun v53 ad53 C53 hp53 => ?_)
  obtain ⟨rfl, ⟨fr, fb⟩, gg⟩ := hp53
  have z4 : ad53 0 = ad42 0 := ((fr 0 (by decide)).1).trans (e3 0 (by decide))
  have v4 : ∀ i, (0 < i ∧ i < 13) ∨ 15 < i → ad53 i = ad42 i ∧ C53 i = c3 i := fun i hi => ⟨((fr i (by omega)).1).trans (e3 i (by omega)), ((fr i (by omega)).2).trans (va_up_ne _ _ (by omega))⟩
  have y4 : C53 0 = c3 0 := ((fr 0 (by decide)).2).trans (va_up_ne _ _ (by decide))
  have g4 := gg
  refine j_st (st' := [.ref (ad53 13), .ref (ad53 0)]) (by rw [fb, (fr 0 (by decide)).1]; rfl) ?_
  refine j_L (L' := [some (.ref (ad53 0))]) (by rw [(fr 0 (by decide)).1]) ?_
  clear fr fb gg e1 e2 e3
  refine j_putF (pc := 56) h rfl dX7_init_56 ((y4.trans w3)) pl_X7_40 rfl rfl rfl (Nat.le_of_ble_eq_true rfl) ?_
  obtain ⟨c4, hc4⟩ : ∃ c, c = va_up C53 0 (some (.inr (7, [.ref (ad9 1), .ref (ad20 5), .ref (ad31 7), .ref (ad42 10), .ref (ad53 13), .null, .int 0, .int 0]))) := ⟨_, rfl⟩
  refine j_mem (C' := c4) (by rw [hc4]; rfl) ?_
  have w4 : c4 0 = some (.inr (7, [.ref (ad9 1), .ref (ad20 5), .ref (ad31 7), .ref (ad42 10), .ref (ad53 13), .null, .int 0, .int 0])) := by rw [hc4]; exact up_eq
  have t4 : ∀ i, 0 < i → c4 i = C53 i := fun i hi => by rw [hc4]; exact va_up_ne _ _ (by omega)
  have u4 : ∀ i, 15 < i → c4 i = none := fun i hi => by rw [t4 i (by omega), (v4 i (by omega)).2]; exact u3 i (by omega)
  refine j_aload0 (pc := 59) h dX7_init_59 ?_
  refine j_new (pc := 60) (j := 16) h dX7_init_60 ((u4 16 (by decide))) nl_X7_44 (by decide) (by decide) (fun q => ?_)
  obtain ⟨x5, e1, e2, e3⟩ := ad_up (ad := ad53) 16 q
  rw [e1]
  refine j_st (st' := [.ref (x5 16), .ref (x5 0)]) (by rw [e2, e3 0 (by decide)]) ?_
  refine j_L (L' := [some (.ref (x5 0))]) (by rw [e3 0 (by decide)]) ?_
  refine j_dupR (pc := 63) h dX7_init_63 ?_
  refine j_callI (pc := 64) h dX7_init_64 (k_X4_init (ad := x5) rfl (show va_up c4 16 _ 17 = none from u4 17 (by decide)) (show va_up c4 16 _ 18 = none from u4 18 (by decide)) (show va_up c4 16 _ 19 = none from u4 19 (by decide))) mi_X7_46 rfl rfl (by decide) (Nat.le_of_ble_eq_true rfl) (Nat.le_of_ble_eq_true rfl) (Nat.le_of_ble_eq_true rfl) (fun v64 ad64 C64 hp64 => ?_)
  obtain ⟨rfl, ⟨fr, fb⟩, gg⟩ := hp64
  have z5 : ad64 0 = ad53 0 := ((fr 0 (by decide)).1).trans (e3 0 (by decide))
  have v5 : ∀ i, (0 < i ∧ i < 16) ∨ 19 < i → ad64 i = ad53 i ∧ C64 i = c4 i := fun i hi => ⟨((fr i (by omega)).1).trans (e3 i (by omega)), ((fr i (by omega)).2).trans (va_up_ne _ _ (by omega))⟩
  have y5 : C64 0 = c4 0 := ((fr 0 (by decide)).2).trans (va_up_ne _ _ (by decide))
  have g5 := gg
  refine j_st (st' := [.ref (ad64 16), .ref (ad64 0)]) (by rw [fb, (fr 0 (by decide)).1]; rfl) ?_
  refine j_L (L' := [some (.ref (ad64 0))]) (by rw [(fr 0 (by decide)).1]) ?_
  clear fr fb gg e1 e2 e3
  refine j_putF (pc := 67) h rfl dX7_init_67 ((y5.trans w4)) pl_X7_47 rfl rfl rfl (Nat.le_of_ble_eq_true rfl) ?_
  obtain ⟨c5, hc5⟩ : ∃ c, c = va_up C64 0 (some (.inr (7, [.ref (ad9 1), .ref (ad20 5), .ref (ad31 7), .ref (ad42 10), .ref (ad53 13), .ref (ad64 16), .int 0, .int 0]))) := ⟨_, rfl⟩
  refine j_mem (C' := c5) (by rw [hc5]; rfl) ?_
  have w5 : c5 0 = some (.inr (7, [.ref (ad9 1), .ref (ad20 5), .ref (ad31 7), .ref (ad42 10), .ref (ad53 13), .ref (ad64 16), .int 0, .int 0])) := by rw [hc5]; exact up_eq
  have t5 : ∀ i, 0 < i → c5 i = C64 i := fun i hi => by rw [hc5]; exact va_up_ne _ _ (by omega)
  have u5 : ∀ i, 19 < i → c5 i = none := fun i hi => by rw [t5 i (by omega), (v5 i (by omega)).2]; exact u4 i (by omega)
  have Z0 : ∀ i, 1 ≤ i → i ≤ 4 → ad64 i = ad9 i ∧ c5 i = C9 i := fun i h1 h2 => ⟨by rw [(v5 i (by omega)).1, (v4 i (by omega)).1, (v3 i (by omega)).1, (v2 i (by omega)).1, (v1 i (by omega)).1], by rw [t5 i (by omega), (v5 i (by omega)).2, t4 i (by omega), (v4 i (by omega)).2, t3 i (by omega), (v3 i (by omega)).2, t2 i (by omega), (v2 i (by omega)).2, t1 i (by omega), (v1 i (by omega)).2, t0 i (by omega)]⟩
  have Z1 : ∀ i, 5 ≤ i → i ≤ 6 → ad64 i = ad20 i ∧ c5 i = C20 i := fun i h1 h2 => ⟨by rw [(v5 i (by omega)).1, (v4 i (by omega)).1, (v3 i (by omega)).1, (v2 i (by omega)).1], by rw [t5 i (by omega), (v5 i (by omega)).2, t4 i (by omega), (v4 i (by omega)).2, t3 i (by omega), (v3 i (by omega)).2, t2 i (by omega), (v2 i (by omega)).2, t1 i (by omega)]⟩
  have Z2 : ∀ i, 7 ≤ i → i ≤ 9 → ad64 i = ad31 i ∧ c5 i = C31 i := fun i h1 h2 => ⟨by rw [(v5 i (by omega)).1, (v4 i (by omega)).1, (v3 i (by omega)).1], by rw [t5 i (by omega), (v5 i (by omega)).2, t4 i (by omega), (v4 i (by omega)).2, t3 i (by omega), (v3 i (by omega)).2, t2 i (by omega)]⟩
  have Z3 : ∀ i, 10 ≤ i → i ≤ 12 → ad64 i = ad42 i ∧ c5 i = C42 i := fun i h1 h2 => ⟨by rw [(v5 i (by omega)).1, (v4 i (by omega)).1], by rw [t5 i (by omega), (v5 i (by omega)).2, t4 i (by omega), (v4 i (by omega)).2, t3 i (by omega)]⟩
  have Z4 : ∀ i, 13 ≤ i → i ≤ 15 → ad64 i = ad53 i ∧ c5 i = C53 i := fun i h1 h2 => ⟨by rw [(v5 i (by omega)).1], by rw [t5 i (by omega), (v5 i (by omega)).2, t4 i (by omega)]⟩
  have Z5 : ∀ i, 16 ≤ i → i ≤ 19 → ad64 i = ad64 i ∧ c5 i = C64 i := fun i h1 h2 => ⟨rfl, by rw [t5 i (by omega)]⟩
  have K1 : c5 1 = some (oFo ad64 1) := by rw [(Z0 1 (by decide) (by decide)).2, g0.1]; unfold oFo; rw [(Z0 2 (by decide) (by decide)).1, (Z0 3 (by decide) (by decide)).1, (Z0 4 (by decide) (by decide)).1]
  have K2 := ((Z0 2 (by decide) (by decide)).2).trans g0.2.1
  have K3 := ((Z0 3 (by decide) (by decide)).2).trans g0.2.2.1
  have K4 := ((Z0 4 (by decide) (by decide)).2).trans g0.2.2.2
  have K5 : c5 5 = some (oFi ad64 0) := by rw [(Z1 5 (by decide) (by decide)).2, g1.1]; unfold oFi; rw [(Z1 6 (by decide) (by decide)).1]
  have K6 := ((Z1 6 (by decide) (by decide)).2).trans g1.2
  have K7 : c5 7 = some (oNa ad64 0) := by rw [(Z2 7 (by decide) (by decide)).2, g2.1]; unfold oNa; rw [(Z2 8 (by decide) (by decide)).1, (Z2 9 (by decide) (by decide)).1]
  have K8 := ((Z2 8 (by decide) (by decide)).2).trans g2.2.1
  have K9 := ((Z2 9 (by decide) (by decide)).2).trans g2.2.2
  have K10 : c5 10 = some (oSn ad64 ) := by rw [(Z3 10 (by decide) (by decide)).2, g3.1]; unfold oSn; rw [(Z3 11 (by decide) (by decide)).1, (Z3 12 (by decide) (by decide)).1]
  have K11 := ((Z3 11 (by decide) (by decide)).2).trans g3.2.1
  have K12 := ((Z3 12 (by decide) (by decide)).2).trans g3.2.2
  have K13 : c5 13 = some (oMa ad64 0) := by rw [(Z4 13 (by decide) (by decide)).2, g4.1]; unfold oMa; rw [(Z4 14 (by decide) (by decide)).1, (Z4 15 (by decide) (by decide)).1]
  have K14 := ((Z4 14 (by decide) (by decide)).2).trans g4.2.1
  have K15 := ((Z4 15 (by decide) (by decide)).2).trans g4.2.2
  have K16 : c5 16 = some (oPl ad64 0 0 0 0) := by rw [(Z5 16 (by decide) (by decide)).2, g5.1]
  have K17 := ((Z5 17 (by decide) (by decide)).2).trans g5.2.1
  have K18 := ((Z5 18 (by decide) (by decide)).2).trans g5.2.2.1
  have K19 := ((Z5 19 (by decide) (by decide)).2).trans g5.2.2.2
  have Kw : c5 0 = some (.inr (7, [.ref (ad64 1), .ref (ad64 5), .ref (ad64 7), .ref (ad64 10), .ref (ad64 13), .ref (ad64 16), .int 0, .int 0])) := w5.trans (by rw [(Z0 1 (by decide) (by decide)).1, (Z1 5 (by decide) (by decide)).1, (Z2 7 (by decide) (by decide)).1, (Z3 10 (by decide) (by decide)).1, (Z4 13 (by decide) (by decide)).1])
  have fr : ∀ i, 19 < i → ad64 i = ad i ∧ c5 i = C i := fun i hi => ⟨by rw [(v5 i (by omega)).1, (v4 i (by omega)).1, (v3 i (by omega)).1, (v2 i (by omega)).1, (v1 i (by omega)).1, (v0 i (by omega)).1], by rw [t5 i (by omega), (v5 i (by omega)).2, t4 i (by omega), (v4 i (by omega)).2, t3 i (by omega), (v3 i (by omega)).2, t2 i (by omega), (v2 i (by omega)).2, t1 i (by omega), (v1 i (by omega)).2, t0 i (by omega), (v0 i (by omega)).2]⟩
  have fz : ad64 0 = ad 0 := by rw [z5, z4, z3, z2, z1, z0]
  clear Z0 v0 t0 g0 y0 Z1 v1 t1 g1 y1 Z2 v2 t2 g2 y2 Z3 v3 t3 g3 y3 Z4 v4 t4 g4 y4 Z5 v5 t5 g5 y5
  refine j_aload0 (pc := 70) h dX7_init_70 ?_
  refine j_iconst (pc := 71) h dX7_init_71 ic_0 ?_
  refine j_putv (pc := 72) h dX7_init_72 (Kw) pl_X7_51 rfl rfl (Nat.le_of_ble_eq_true rfl) ?_
  refine j_aload0 (pc := 75) h dX7_init_75 ?_
  refine j_bipush (pc := 76) h dX7_init_76 bp_60 ?_
  refine j_putv (pc := 78) h dX7_init_78 (rfl) pl_X7_55 rfl rfl (Nat.le_of_ble_eq_true rfl) ?_
  refine j_vret (pc := 81) h dX7_init_81 (⟨rfl, ⟨fun i hi => ⟨(fr i (by omega)).1, ((va_up_ne _ _ (by omega)).trans (va_up_ne _ _ (by omega))).trans (fr i (by omega)).2⟩, fz⟩, rfl, K1, K2.trans (eI_c par0), K3, K4, K5, K6, K7, K8, K9, K10, K11, K12, K13, K14, K15, K16, K17, K18, K19, fun i hi => absurd hi (Nat.not_lt_zero i), fun k hk => absurd hk (Nat.not_lt_zero k), fun i hi => absurd hi (Nat.not_lt_zero i), fun i hi => absurd hi (Nat.not_lt_zero i), fun j hj => ((va_up_ne _ _ (by have : 39 ≤ j := hj; omega)).trans (va_up_ne _ _ (by have : 39 ≤ j := hj; omega))).trans (u5 j (by have : 39 ≤ j := hj; omega))⟩)
end CJ

