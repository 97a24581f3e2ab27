/-! New files: the class's file and copy -/
theorem j_st {X : CX} {g : GG} {nL : Nat} {Q : State → Prop} {k n : Nat} {ad : AD} {C : CC} {pc : Nat} {L : List (Option Value)} {st st' : List Value} (e : st = st') (kk : J X g nL Q k n ad C pc L st') : J X g nL Q k n ad C pc L st := e ▸ kk
/-- a new file's own end: the cells j and j + 1 come, all else stays -/
def PNw (g : GG) (ad : AD) (C : CC) (j : Nat) (ow wo : Int32) (ln : Nat) (ch : Int32) (bl : Int64) (pl : Nat → Int32) : AD → CC → Prop := fun ad' C' => (∀ i, i ≠ j → i ≠ j + 1 → ad' i = ad i ∧ C' i = C i) ∧ C' j = some (oSt ad' j ow wo ln ch bl) ∧ C' (j + 1) = some (eI g 60 pl)
theorem ad_up {ad : AD} (k q : Nat) : ∃ ad1 : AD, va_up ad k q = ad1 ∧ ad1 k = q ∧ ∀ i, i ≠ k → ad1 i = ad i := ⟨_, rfl, up_eq, fun i h => va_up_ne _ _ h⟩
section CN
variable {l : Launch} {g : GG} {ad : AD} {C : CC} {σ : Sg} {ρ : Rm}
theorem k_X6_init {j : Nat} {x y z : Int32} (hj : C j = some (.inr (6, [.int 0, .int 0, .null, .int 0, .int 0, .long 0]))) (hj1 : C (j + 1) = none) : Ct l g yX6_init cX6_init 4 none 2 1 60 [.ref (ad j), .int x, .int y, .int z] ad C (fun r ad' C' => r = none ∧ ad' j = ad j ∧ PNw g ad C j x y 0 z 0 (fun _ => 0) ad' C') := by
  refine Ct_of [some (.ref (ad j)), some (.int x), some (.int y), some (.int z)] (by decide) rfl rfl (Nat.le_of_ble_eq_true rfl) rfl rfl (fun X hX h => ?_)
  subst hX
  refine j_aload0 (pc := 0) h dX6_init_0 ?_
  refine j_objInit (pc := 1) h dX6_init_1 oi_X6_3 tw_oi tw_oc (by decide) (Nat.le_of_ble_eq_true rfl) ?_
  refine j_aload0 (pc := 4) h dX6_init_4 ?_
  refine j_bipush (pc := 5) h dX6_init_5 bp_60 ?_
  refine j_newI (pc := 7) (j := (j + 1)) h dX6_init_7 (hj1) tw_ac_int (by decide) (by decide) (by decide) (fun q => ?_)
  obtain ⟨ad1, e1, e2, e3⟩ := ad_up (ad := ad) (j + 1) q
  rw [e1]
  have ej : ad j = ad1 j := (e3 j (by omega)).symm
  refine j_st (st' := [.ref (ad1 (j + 1)), .ref (ad1 j)]) (by rw [e2, ej]) ?_
  refine j_L (L' := [some (.ref (ad1 j)), some (.int x), some (.int y), some (.int z)]) (by rw [ej]) ?_
  refine j_putF (pc := 9) h rfl dX6_init_9 ((va_up_ne _ _ (by omega)).trans hj) pl_X6_9 rfl rfl rfl (Nat.le_of_ble_eq_true rfl) ?_
  refine j_aload0 (pc := 12) h dX6_init_12 ?_
  refine j_iload1 (pc := 13) h dX6_init_13 ?_
  refine j_putF (pc := 14) h rfl dX6_init_14 (up_eq) pl_X6_15 rfl rfl rfl (Nat.le_of_ble_eq_true rfl) ?_
  refine j_aload0 (pc := 17) h dX6_init_17 ?_
  refine j_iload2 (pc := 18) h dX6_init_18 ?_
  refine j_putF (pc := 19) h rfl dX6_init_19 (up_eq) pl_X6_19 rfl rfl rfl (Nat.le_of_ble_eq_true rfl) ?_
  refine j_aload0 (pc := 22) h dX6_init_22 ?_
  refine j_iload3 (pc := 23) h dX6_init_23 ?_
  refine j_putv (pc := 24) h dX6_init_24 (up_eq) pl_X6_22 rfl rfl (Nat.le_of_ble_eq_true rfl) ?_
  refine j_vret (pc := 27) h dX6_init_27 (⟨rfl, ej.symm, fun i h1 h2 => ⟨e3 i h2, by rw [va_up_ne _ _ h1, va_up_ne _ _ h1, va_up_ne _ _ h1, va_up_ne _ _ h1, va_up_ne _ _ h2]⟩, up_eq, by rw [va_up_ne _ _ (by omega), va_up_ne _ _ (by omega), va_up_ne _ _ (by omega), va_up_ne _ _ (by omega)]; exact up_eq⟩)
theorem k_X6_duplicate {j t : Nat} {ow wo z : Int32} {ln : Nat} {ch : Int32} {bl : Int64} {pl : Nat → Int32} (fs : C j = some (oSt ad j ow wo ln ch bl)) (fsp : C (j + 1) = some (eI g 60 pl)) (hl : ln ≤ 60) (ht : C t = none) (ht1 : C (t + 1) = none) (htj : j + 1 < t) : Ct l g yX6_duplicate cX6_duplicate 4 (some (.object "RoomGone$StoredFile")) 3 2 66 [.ref (ad j), .int z] ad C (fun r ad' C' => r = some (.ref (ad' t)) ∧ ∃ pl', PNw g ad C t ow wo ln z bl pl' ad' C' ∧ ∀ p, p < ln → pl' p = pl p) := by
  refine Ct_of [some (.ref (ad j)), some (.int z), none, none] (by decide) rfl rfl (Nat.le_of_ble_eq_true rfl) rfl rfl (fun X hX h => ?_)
  subst hX
  have lp : ∀ n i (ad2 : AD) (C2 : CC) pl2, i + n = ln → PNw g ad C t ow wo 0 z 0 pl2 ad2 C2 → (∀ p, p < i → pl2 p = pl p) → J X g 4 (QX X g 2 66 (fun r ad' C' => r = some (.ref (ad' t)) ∧ ∃ pl', PNw g ad C t ow wo ln z bl pl' ad' C' ∧ ∀ p, p < ln → pl' p = pl p)) 2 66 ad2 C2 19 [some (.ref (ad2 j)), some (.int z), some (.ref (ad2 t)), some (.int (nI i))] [] := by
    intro n
    induction n with
    | zero =>
      intro i ad2 C2 pl2 hi hP hpl
      obtain ⟨q1, q2, q3⟩ := hP
      have gs : C2 j = some (oSt ad2 j ow wo ln ch bl) := by rw [(q1 j (by omega) (by omega)).2, fs]; unfold oSt; rw [(q1 (j + 1) (by omega) (by omega)).1]
      refine j_iload3 (pc := 19) h dX6_duplicate_19 ?_
      refine j_aload0 (pc := 20) h dX6_duplicate_20 ?_
      refine j_getf (pc := 21) h dX6_duplicate_21 (gs) fl_X6_28 rfl ?_
      refine j_icmp_ge (pc := 24) (tgt := 51) h dX6_duplicate_24 (by decide) (fun c24 => ?_) (fun c24 => absurd (nI_le (by omega) (by omega)) c24)
      refine j_aload2 (pc := 51) h dX6_duplicate_51 ?_
      refine j_aload0 (pc := 52) h dX6_duplicate_52 ?_
      refine j_getf (pc := 53) h dX6_duplicate_53 (gs) fl_X6_28 rfl ?_
      refine j_putv (pc := 56) h dX6_duplicate_56 (q2) pl_X6_28 rfl rfl (Nat.le_of_ble_eq_true rfl) ?_
      refine j_aload2 (pc := 59) h dX6_duplicate_59 ?_
      refine j_aload0 (pc := 60) h dX6_duplicate_60 ?_
      refine j_getf (pc := 61) h dX6_duplicate_61 ((va_up_ne _ _ (by omega)).trans gs) fl_X6_31 rfl ?_
      refine j_putv (pc := 64) h dX6_duplicate_64 (up_eq) pl_X6_31 rfl rfl (Nat.le_of_ble_eq_true rfl) ?_
      refine j_aload2 (pc := 67) h dX6_duplicate_67 ?_
      refine j_aret (pc := 68) (v := some (ad2 t)) h dX6_duplicate_68 (⟨rfl, pl2, ⟨fun i h1 h2 => ⟨(q1 i h1 h2).1, by rw [va_up_ne _ _ h1, va_up_ne _ _ h1]; exact (q1 i h1 h2).2⟩, up_eq, by rw [va_up_ne _ _ (by omega), va_up_ne _ _ (by omega)]; exact q3⟩, fun p hp => hpl p (by omega)⟩)
    | succ n ih =>
      intro i ad2 C2 pl2 hi hP hpl
      obtain ⟨q1, q2, q3⟩ := hP
      have gs : C2 j = some (oSt ad2 j ow wo ln ch bl) := by rw [(q1 j (by omega) (by omega)).2, fs]; unfold oSt; rw [(q1 (j + 1) (by omega) (by omega)).1]
      have gsp : C2 (j + 1) = some (eI g 60 pl) := by rw [(q1 (j + 1) (by omega) (by omega)).2, fsp]
      refine j_iload3 (pc := 19) h dX6_duplicate_19 ?_
      refine j_aload0 (pc := 20) h dX6_duplicate_20 ?_
      refine j_getf (pc := 21) h dX6_duplicate_21 (gs) fl_X6_28 rfl ?_
      refine j_icmp_ge (pc := 24) (tgt := 51) h dX6_duplicate_24 (by decide) (fun c24 => absurd c24 (nI_ge (by omega) (by omega))) (fun c24 => ?_)
      refine j_iload3 (pc := 27) h dX6_duplicate_27 ?_
      refine j_bipush (pc := 28) h dX6_duplicate_28 bp_60 ?_
      refine j_icmp_ge (pc := 30) (tgt := 51) h dX6_duplicate_30 (by decide) (fun c30 => absurd c30 (nI_ge (by omega) (by omega))) (fun c30 => ?_)
      refine j_aload2 (pc := 33) h dX6_duplicate_33 ?_
      refine j_getf (pc := 34) h dX6_duplicate_34 (q2) fl_X6_9 rfl ?_
      refine j_iload3 (pc := 37) h dX6_duplicate_37 ?_
      refine j_aload0 (pc := 38) h dX6_duplicate_38 ?_
      refine j_getf (pc := 39) h dX6_duplicate_39 (gs) fl_X6_9 rfl ?_
      refine j_iload3 (pc := 42) h dX6_duplicate_42 ?_
      refine j_iald (pc := 43) h dX6_duplicate_43 (gsp) (by omega) (by decide) ?_
      refine j_iast (pc := 44) h dX6_duplicate_44 (q3) (by omega) (by decide) ?_
      refine j_iinc3 (pc := 45) h dX6_duplicate_45 rfl (inc_n _) ?_
      refine j_goto (pc := 48) (tgt := 19) h dX6_duplicate_48 (by decide) ?_
      refine ih (i + 1) ad2 _ (upd pl2 i (pl i)) (by omega) ⟨fun k h1 h2 => ⟨(q1 k h1 h2).1, by rw [va_up_ne _ _ h2]; exact (q1 k h1 h2).2⟩, by rw [va_up_ne _ _ (by omega)]; exact q2, up_eq⟩ (fun p hp => ?_)
      by_cases e : p = i
      · subst e; simp [upd]
      · rw [show upd pl2 i (pl i) p = pl2 p from by simp [upd, e]]; exact hpl p (by omega)
  refine j_new (pc := 0) (j := t) h dX6_duplicate_0 (ht) nl_X6_10 (by decide) (by decide) (fun q => ?_)
  obtain ⟨ad1, e1, e2, e3⟩ := ad_up (ad := ad) t q
  rw [e1]
  have ej : ad j = ad1 j := (e3 j (by omega)).symm
  have gs : va_up C t (some (Sum.inr (6, [.int 0, .int 0, .null, .int 0, .int 0, .long 0]))) j = some (oSt ad1 j ow wo ln ch bl) := by rw [va_up_ne _ _ (by omega), fs]; unfold oSt; rw [e3 (j + 1) (by omega)]
  refine j_st (st' := [.ref (ad1 t)]) (by rw [e2]) ?_
  refine j_L (L' := [some (.ref (ad1 j)), some (.int z), none, none]) (by rw [ej]) ?_
  refine j_dupR (pc := 3) h dX6_duplicate_3 ?_
  refine j_aload0 (pc := 4) h dX6_duplicate_4 ?_
  refine j_getf (pc := 5) h dX6_duplicate_5 (gs) fl_X6_15 rfl ?_
  refine j_aload0 (pc := 8) h dX6_duplicate_8 ?_
  refine j_getf (pc := 9) h dX6_duplicate_9 (gs) fl_X6_19 rfl ?_
  refine j_iload1 (pc := 12) h dX6_duplicate_12 ?_
  refine j_callI (pc := 13) h dX6_duplicate_13 (k_X6_init (j := t) up_eq (by rw [va_up_ne _ _ (by omega)]; exact ht1)) mi_X6_25 rfl rfl (by decide) (Nat.le_of_ble_eq_true rfl) (Nat.le_of_ble_eq_true rfl) (Nat.le_of_ble_eq_true rfl) (fun v13 ad13 C13 hp13 => ?_)
  obtain ⟨rfl, h1, hP⟩ := hp13
  refine j_st (st' := [.ref (ad13 t)]) (by rw [h1]; rfl) ?_
  refine j_L (L' := [some (.ref (ad13 j)), some (.int z), none, none]) (by rw [(hP.1 j (by omega) (by omega)).1]) ?_
  refine j_astore2 (pc := 16) h dX6_duplicate_16 rfl ?_
  refine j_iconst (pc := 17) h dX6_duplicate_17 ic_0 ?_
  refine j_istore3 (pc := 18) h dX6_duplicate_18 rfl ?_
  exact lp ln 0 ad13 C13 (fun _ => 0) (by omega) ⟨fun i h1 h2 => ⟨((hP.1 i h1 h2).1).trans (e3 i h1), ((hP.1 i h1 h2).2).trans (va_up_ne _ _ h1)⟩, hP.2.1, hP.2.2⟩ (fun p hp => by omega)
end CN

