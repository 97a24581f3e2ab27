/-! The constructors -/
/-- the cells b to e are new, all else stays -/
def FrC (b e : Nat) (ad : AD) (C : CC) (ad' : AD) (C' : CC) : Prop := (∀ i, i < b ∨ e < i → ad' i = ad i ∧ C' i = C i) ∧ ad' b = ad b
section CI
variable {l : Launch} {g : GG} {ad : AD} {C : CC}
theorem k_X0_init (hj : C 5 = some (.inr (0, [.null, .int 0]))) (n6 : C 6 = none) : Ct l g yX0_init cX0_init 1 none 2 1 40 [.ref (ad 5)] ad C (fun r ad' C' => r = none ∧ FrC 5 6 ad C ad' C' ∧ C' 5 = some (oFi ad' 0) ∧ C' 6 = some (eO g 40 (fun _ => none))) := by
  refine Ct_of [some (.ref (ad 5))] (by decide) rfl rfl (Nat.le_of_ble_eq_true rfl) rfl rfl (fun X hX h => ?_)
  subst hX
  refine j_aload0 (pc := 0) h dX0_init_0 ?_
  refine j_objInit (pc := 1) h dX0_init_1 oi_X0_3 tw_oi tw_oc (by decide) (Nat.le_of_ble_eq_true rfl) ?_
  refine j_aload0 (pc := 4) h dX0_init_4 ?_
  refine j_bipush (pc := 5) h dX0_init_5 bp_40 ?_
  refine j_newO (pc := 7) (j := 6) h dX0_init_7 (n6) tl_X0_9 tw_ao (by decide) (by decide) (by decide) (fun q6 => ?_)
  refine j_putF (pc := 10) (j := 5) h rfl dX0_init_10 (hj) pl_X0_11 rfl rfl rfl (Nat.le_of_ble_eq_true rfl) ?_
  refine j_vret (pc := 13) h dX0_init_13 (⟨rfl, ⟨fun i hi => ⟨by repeat rw [va_up_ne _ _ (by omega)], by repeat rw [va_up_ne _ _ (by omega)]⟩, rfl⟩, rfl, rfl⟩)
theorem k_X3_init (hj : C 7 = some (.inr (3, [.null, .null, .int 0]))) (n8 : C 8 = none) (n9 : C 9 = none) : Ct l g yX3_init cX3_init 1 none 2 2 200 [.ref (ad 7)] ad C (fun r ad' C' => r = none ∧ FrC 7 9 ad C ad' C' ∧ C' 7 = some (oNa ad' 0) ∧ C' 8 = some (eI g 100 (fun _ => 0)) ∧ C' 9 = some (eI g 100 (fun _ => 0))) := by
  refine Ct_of [some (.ref (ad 7))] (by decide) rfl rfl (Nat.le_of_ble_eq_true rfl) rfl rfl (fun X hX h => ?_)
  subst hX
  refine j_aload0 (pc := 0) h dX3_init_0 ?_
  refine j_objInit (pc := 1) h dX3_init_1 oi_X3_3 tw_oi tw_oc (by decide) (Nat.le_of_ble_eq_true rfl) ?_
  refine j_aload0 (pc := 4) h dX3_init_4 ?_
  refine j_bipush (pc := 5) h dX3_init_5 bp_100 ?_
  refine j_newI (pc := 7) (j := 8) h dX3_init_7 (n8) tw_ac_int (by decide) (by decide) (by decide) (fun q8 => ?_)
  refine j_putF (pc := 9) (j := 7) h rfl dX3_init_9 (hj) pl_X3_9 rfl rfl rfl (Nat.le_of_ble_eq_true rfl) ?_
  refine j_aload0 (pc := 12) h dX3_init_12 ?_
  refine j_bipush (pc := 13) h dX3_init_13 bp_100 ?_
  refine j_newI (pc := 15) (j := 9) h dX3_init_15 (n9) tw_ac_int (by decide) (by decide) (by decide) (fun q9 => ?_)
  refine j_putF (pc := 17) (j := 7) h rfl dX3_init_17 (rfl) pl_X3_15 rfl rfl rfl (Nat.le_of_ble_eq_true rfl) ?_
  refine j_vret (pc := 20) h dX3_init_20 (⟨rfl, ⟨fun i hi => ⟨by repeat rw [va_up_ne _ _ (by omega)], by repeat rw [va_up_ne _ _ (by omega)]⟩, rfl⟩, rfl, rfl, rfl⟩)
theorem k_X5_init (hj : C 10 = some (.inr (5, [.null, .null]))) (n11 : C 11 = none) (n12 : C 12 = none) : Ct l g yX5_init cX5_init 1 none 2 2 16 [.ref (ad 10)] ad C (fun r ad' C' => r = none ∧ FrC 10 12 ad C ad' C' ∧ C' 10 = some (oSn ad') ∧ C' 11 = some (eZ g 8 (fun _ => 0)) ∧ C' 12 = some (eJ g 8 (fun _ => 0))) := by
  refine Ct_of [some (.ref (ad 10))] (by decide) rfl rfl (Nat.le_of_ble_eq_true rfl) rfl rfl (fun X hX h => ?_)
  subst hX
  refine j_aload0 (pc := 0) h dX5_init_0 ?_
  refine j_objInit (pc := 1) h dX5_init_1 oi_X5_3 tw_oi tw_oc (by decide) (Nat.le_of_ble_eq_true rfl) ?_
  refine j_aload0 (pc := 4) h dX5_init_4 ?_
  refine j_bipush (pc := 5) h dX5_init_5 bp_8 ?_
  refine j_newZ (pc := 7) (j := 11) h dX5_init_7 (n11) tw_ac_boolean (by decide) (by decide) (by decide) (fun q11 => ?_)
  refine j_putF (pc := 9) (j := 10) h rfl dX5_init_9 (hj) pl_X5_9 rfl rfl rfl (Nat.le_of_ble_eq_true rfl) ?_
  refine j_aload0 (pc := 12) h dX5_init_12 ?_
  refine j_bipush (pc := 13) h dX5_init_13 bp_8 ?_
  refine j_newJ (pc := 15) (j := 12) h dX5_init_15 (n12) tw_ac_long (by decide) (by decide) (by decide) (fun q12 => ?_)
  refine j_putF (pc := 17) (j := 10) h rfl dX5_init_17 (rfl) pl_X5_15 rfl rfl rfl (Nat.le_of_ble_eq_true rfl) ?_
  refine j_vret (pc := 20) h dX5_init_20 (⟨rfl, ⟨fun i hi => ⟨by repeat rw [va_up_ne _ _ (by omega)], by repeat rw [va_up_ne _ _ (by omega)]⟩, rfl⟩, rfl, rfl, rfl⟩)
theorem k_X2_init (hj : C 13 = some (.inr (2, [.null, .null, .int 0]))) (n14 : C 14 = none) (n15 : C 15 = none) : Ct l g yX2_init cX2_init 1 none 2 2 620 [.ref (ad 13)] ad C (fun r ad' C' => r = none ∧ FrC 13 15 ad C ad' C' ∧ C' 13 = some (oMa ad' 0) ∧ C' 14 = some (eI g 20 (fun _ => 0)) ∧ C' 15 = some (eI g 600 (fun _ => 0))) := by
  refine Ct_of [some (.ref (ad 13))] (by decide) rfl rfl (Nat.le_of_ble_eq_true rfl) rfl rfl (fun X hX h => ?_)
  subst hX
  refine j_aload0 (pc := 0) h dX2_init_0 ?_
  refine j_objInit (pc := 1) h dX2_init_1 oi_X2_3 tw_oi tw_oc (by decide) (Nat.le_of_ble_eq_true rfl) ?_
  refine j_aload0 (pc := 4) h dX2_init_4 ?_
  refine j_bipush (pc := 5) h dX2_init_5 bp_20 ?_
  refine j_newI (pc := 7) (j := 14) h dX2_init_7 (n14) tw_ac_int (by decide) (by decide) (by decide) (fun q14 => ?_)
  refine j_putF (pc := 9) (j := 13) h rfl dX2_init_9 (hj) pl_X2_9 rfl rfl rfl (Nat.le_of_ble_eq_true rfl) ?_
  refine j_aload0 (pc := 12) h dX2_init_12 ?_
  refine j_sipush (pc := 13) h dX2_init_13 sp_600 ?_
  refine j_newI (pc := 16) (j := 15) h dX2_init_16 (n15) tw_ac_int (by decide) (by decide) (by decide) (fun q15 => ?_)
  refine j_putF (pc := 18) (j := 13) h rfl dX2_init_18 (rfl) pl_X2_15 rfl rfl rfl (Nat.le_of_ble_eq_true rfl) ?_
  refine j_vret (pc := 21) h dX2_init_21 (⟨rfl, ⟨fun i hi => ⟨by repeat rw [va_up_ne _ _ (by omega)], by repeat rw [va_up_ne _ _ (by omega)]⟩, rfl⟩, rfl, rfl, rfl⟩)
theorem k_X4_init (hj : C 16 = some (.inr (4, [.null, .null, .null, .int 0, .int 0, .int 0, .long 0]))) (n17 : C 17 = none) (n18 : C 18 = none) (n19 : C 19 = none) : Ct l g yX4_init cX4_init 1 none 2 3 36 [.ref (ad 16)] ad C (fun r ad' C' => r = none ∧ FrC 16 19 ad C ad' C' ∧ C' 16 = some (oPl ad' 0 0 0 0) ∧ C' 17 = some (eI g 12 (fun _ => 0)) ∧ C' 18 = some (eI g 12 (fun _ => 0)) ∧ C' 19 = some (eJ g 12 (fun _ => 0))) := by
  refine Ct_of [some (.ref (ad 16))] (by decide) rfl rfl (Nat.le_of_ble_eq_true rfl) rfl rfl (fun X hX h => ?_)
  subst hX
  refine j_aload0 (pc := 0) h dX4_init_0 ?_
  refine j_objInit (pc := 1) h dX4_init_1 oi_X4_3 tw_oi tw_oc (by decide) (Nat.le_of_ble_eq_true rfl) ?_
  refine j_aload0 (pc := 4) h dX4_init_4 ?_
  refine j_bipush (pc := 5) h dX4_init_5 bp_12 ?_
  refine j_newI (pc := 7) (j := 17) h dX4_init_7 (n17) tw_ac_int (by decide) (by decide) (by decide) (fun q17 => ?_)
  refine j_putF (pc := 9) (j := 16) h rfl dX4_init_9 (hj) pl_X4_9 rfl rfl rfl (Nat.le_of_ble_eq_true rfl) ?_
  refine j_aload0 (pc := 12) h dX4_init_12 ?_
  refine j_bipush (pc := 13) h dX4_init_13 bp_12 ?_
  refine j_newI (pc := 15) (j := 18) h dX4_init_15 (n18) tw_ac_int (by decide) (by decide) (by decide) (fun q18 => ?_)
  refine j_putF (pc := 17) (j := 16) h rfl dX4_init_17 (rfl) pl_X4_15 rfl rfl rfl (Nat.le_of_ble_eq_true rfl) ?_
  refine j_aload0 (pc := 20) h dX4_init_20 ?_
  refine j_bipush (pc := 21) h dX4_init_21 bp_12 ?_
  refine j_newJ (pc := 23) (j := 19) h dX4_init_23 (n19) tw_ac_long (by decide) (by decide) (by decide) (fun q19 => ?_)
  refine j_putF (pc := 25) (j := 16) h rfl dX4_init_25 (rfl) pl_X4_18 rfl rfl rfl (Nat.le_of_ble_eq_true rfl) ?_
  refine j_vret (pc := 28) h dX4_init_28 (⟨rfl, ⟨fun i hi => ⟨by repeat rw [va_up_ne _ _ (by omega)], by repeat rw [va_up_ne _ _ (by omega)]⟩, rfl⟩, rfl, rfl, rfl, rfl⟩)
theorem k_X1_init (hj : C 1 = some (.inr (1, [.null, .null, .null, .int 0]))) (n2 : C 2 = none) (n3 : C 3 = none) (n4 : C 4 = none) : Ct l g yX1_init cX1_init 1 none 2 3 90 [.ref (ad 1)] ad C (fun r ad' C' => r = none ∧ FrC 1 4 ad C ad' C' ∧ C' 1 = some (oFo ad' 1) ∧ C' 2 = some (eI g 30 (upd (fun _ => 0) 0 (-1))) ∧ C' 3 = some (eI g 30 (fun _ => 0)) ∧ C' 4 = some (eZ g 30 (fun _ => 0))) := by
  refine Ct_of [some (.ref (ad 1))] (by decide) rfl rfl (Nat.le_of_ble_eq_true rfl) rfl rfl (fun X hX h => ?_)
  subst hX
  refine j_aload0 (pc := 0) h dX1_init_0 ?_
  refine j_objInit (pc := 1) h dX1_init_1 oi_X1_3 tw_oi tw_oc (by decide) (Nat.le_of_ble_eq_true rfl) ?_
  refine j_aload0 (pc := 4) h dX1_init_4 ?_
  refine j_bipush (pc := 5) h dX1_init_5 bp_30 ?_
  refine j_newI (pc := 7) (j := 2) h dX1_init_7 (n2) tw_ac_int (by decide) (by decide) (by decide) (fun q2 => ?_)
  refine j_putF (pc := 9) (j := 1) h rfl dX1_init_9 (hj) pl_X1_9 rfl rfl rfl (Nat.le_of_ble_eq_true rfl) ?_
  refine j_aload0 (pc := 12) h dX1_init_12 ?_
  refine j_bipush (pc := 13) h dX1_init_13 bp_30 ?_
  refine j_newI (pc := 15) (j := 3) h dX1_init_15 (n3) tw_ac_int (by decide) (by decide) (by decide) (fun q3 => ?_)
  refine j_putF (pc := 17) (j := 1) h rfl dX1_init_17 (rfl) pl_X1_15 rfl rfl rfl (Nat.le_of_ble_eq_true rfl) ?_
  refine j_aload0 (pc := 20) h dX1_init_20 ?_
  refine j_bipush (pc := 21) h dX1_init_21 bp_30 ?_
  refine j_newZ (pc := 23) (j := 4) h dX1_init_23 (n4) tw_ac_boolean (by decide) (by decide) (by decide) (fun q4 => ?_)
  refine j_putF (pc := 25) (j := 1) h rfl dX1_init_25 (rfl) pl_X1_18 rfl rfl rfl (Nat.le_of_ble_eq_true rfl) ?_
  refine j_aload0 (pc := 28) h dX1_init_28 ?_
  refine j_getf (pc := 29) (j := 1) h dX1_init_29 (rfl) fl_X1_9 rfl ?_
  refine j_iconst (pc := 32) h dX1_init_32 ic_0 ?_
  refine j_iconst (pc := 33) h dX1_init_33 ic_m1 ?_
  refine j_iast (pc := 34) (j := 2) h dX1_init_34 (rfl) (by omega) (by decide) ?_
  refine j_aload0 (pc := 35) h dX1_init_35 ?_
  refine j_iconst (pc := 36) h dX1_init_36 ic_1 ?_
  refine j_putv (pc := 37) (j := 1) h dX1_init_37 (rfl) pl_X1_22 rfl rfl (Nat.le_of_ble_eq_true rfl) ?_
  refine j_vret (pc := 40) h dX1_init_40 (⟨rfl, ⟨fun i hi => ⟨by repeat rw [va_up_ne _ _ (by omega)], by repeat rw [va_up_ne _ _ (by omega)]⟩, rfl⟩, rfl, rfl, rfl, rfl⟩)
end CI

