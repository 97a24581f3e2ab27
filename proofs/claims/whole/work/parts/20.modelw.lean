/-! The reference: its changes -/
/-- the reference's end: an answer, a new state, the class's cells as they were -/
def PMo (g : GG) (ad : AD) (C : CC) (v : Value) (σ' : Sg) : Option Value → AD → CC → Prop := fun r ad' C' => r = some v ∧ ad' = ad ∧ (∃ τ', MW g ad σ' τ' C') ∧ frM C C'
theorem Ct.mono {l : Launch} {g : GG} {y : MethodName} {cc : ByteArray} {nL : Nat} {ret : Option FieldType} {d mc ms : Nat} {as : List Value} {ad : AD} {C : CC} {post post' : Option Value → AD → CC → Prop} (h : Ct l g y cc nL ret d mc ms as ad C post) (hp : ∀ r ad' C', post r ad' C' → post' r ad' C') : Ct l g y cc nL ret d mc ms as ad C post' := by
  intro p e ha hc hk s m args below hf happ hP hK
  obtain ⟨n, o, h1, h2, h3, ⟨⟨⟨v, ad', C', q1, q2, q3⟩, q4⟩, q5⟩⟩ := h p e ha hc hk s m args below hf happ hP hK
  exact ⟨n, o, h1, h2, h3, ⟨⟨⟨v, ad', C', q1, hp _ _ _ q2, q3⟩, q4⟩, q5⟩⟩
theorem Cr.toM {l : Launch} {g : GG} {y : MethodName} {cc : ByteArray} {nL : Nat} {ret : Option FieldType} {d : Nat} {as : List Value} {ad : AD} {C : CC} {v : Value} {σ : Sg} {τ : Tm} (h : Cr l g y cc nL ret d as ad C v) (m : MW g ad σ τ C) : Ct l g y cc nL ret d 0 0 as ad C (PMo g ad C v σ) := Ct.mono h (fun r ad' C' hp => by obtain ⟨rfl, rfl, rfl⟩ := hp; exact ⟨rfl, rfl, ⟨τ, m⟩, frM_rf _⟩)
theorem eI_c {g : GG} {n : Nat} {f f' : Nat → Int32} (h : f = f') : some (eI g n f) = some (eI g n f') := by rw [h]
theorem eZ_c {g : GG} {n : Nat} {f f' : Nat → Int32} (h : f = f') : some (eZ g n f) = some (eZ g n f') := by rw [h]
theorem eJ_c {g : GG} {n : Nat} {f f' : Nat → Int64} (h : f = f') : some (eJ g n f) = some (eJ g n f') := by rw [h]
theorem parF_up {pr : Nat → Nat} {k a : Nat} (hk : k ≠ 0) : upd (parF pr) k (nI a) = parF (va_up pr k a) := by
  funext j
  by_cases h : j = k
  · subst h; simp [upd, parF, va_up, hk]
  · simp [upd, parF, va_up, h]
theorem nF_up {f : Nat → Nat} {k v : Nat} : upd (fun i => nI (f i)) k (nI v) = fun i => nI (va_up f k v i) := by
  funext j
  by_cases h : j = k
  · subst h; simp [upd, va_up]
  · simp [upd, va_up, h]
theorem bF_up {f : Nat → Bool} {k : Nat} {b : Bool} : upd (bF f) k (bI b) = bF (va_up f k b) := by
  funext j
  by_cases h : j = k
  · subst h; simp [upd, bF, va_up]
  · simp [upd, bF, va_up, h]
theorem bF_up1 {f : Nat → Bool} {k : Nat} : upd (bF f) k (nI 1) = bF (va_up f k true) := bF_up (b := true)
theorem bF_up0 {f : Nat → Bool} {k : Nat} : upd (bF f) k (nI 0) = bF (va_up f k false) := bF_up (b := false)
theorem rF_up {f : Nat → Option Nat} {k : Nat} {c : Option Nat} : upd (fun i => rI (f i)) k (rI c) = fun i => rI (va_up f k c i) := by
  funext j
  by_cases h : j = k
  · subst h; simp [upd, va_up]
  · simp [upd, va_up, h]
theorem iF_up {f : Nat → Int32} {k : Nat} {x : Int32} : upd f k x = va_up f k x := rfl
theorem lF_up {f : Nat → Int64} {k : Nat} {x : Int64} : vp_updL f k x = va_up f k x := rfl
-- new states
def gw (σ : Sg) (i : Nat) : Nat := if 5000 < σ.now + i then 5000 else σ.now + i
def sGo (σ : Sg) (i : Nat) : Sg := σ.uK 4 (gw σ i)
def sFo (σ : Sg) (a : Nat) (y : Int32) (b : Bool) : Sg := (((σ.uN 0 (va_up σ.pr σ.nf a)).uI 0 (va_up σ.fow σ.nf y)).uB 0 (va_up σ.hd σ.nf b)).uK 0 (σ.nf + 1)
def sMv (σ : Sg) (a c : Nat) : Sg := σ.uN 0 (va_up σ.pr a c)
def sNa (σ : Sg) (f a : Nat) : Sg := (((σ.uN 3 (va_up σ.fl σ.nn f)).uN 4 (va_up σ.ni σ.nn a)).uB 1 (va_up σ.tb σ.nn true)).uK 2 (σ.nn + 1)
def sFi (σ : Sg) (y : Int32) (w : Nat) : Sg := (((σ.uI 1 (va_up σ.ow σ.nfl y)).uN 2 (va_up σ.wo σ.nfl w)).uI 2 (va_up σ.ch σ.nfl (nI σ.now))).uK 1 (σ.nfl + 1)
/-- n of a file's places, as the copy's -/
def rbC (rb : Nat → Option Nat) (f n m : Nat) : Nat → Option Nat := fun q => if 60 * n ≤ q ∧ q < 60 * n + m then rb (60 * f + (q - 60 * n)) else rb q
def sCo (σ : Sg) (f n : Nat) : Sg := (σ.uN 1 (va_up σ.ln n (σ.ln f))).uR (rbC σ.rb f n 60)
def sUn (σ : Sg) (k : Nat) : Sg := σ.uB 1 (va_up σ.tb k false)
def sPu (σ : Sg) (i p : Nat) (c : Option Nat) : Sg := ((σ.uR (va_up σ.rb (60 * i + p) c)).uN 1 (va_up σ.ln i (if p < σ.ln i then σ.ln i else p + 1))).uI 2 (va_up σ.ch i (nI σ.now))
def sCu (σ : Sg) (i n : Nat) : Sg := (σ.uN 1 (va_up σ.ln i n)).uI 2 (va_up σ.ch i (nI σ.now))
def sSn (σ : Sg) (a : Nat) : Sg := (σ.uB 2 (va_up σ.sb a true)).uS (va_up σ.sh a (allS σ))
def sDr (σ : Sg) (a : Nat) : Sg := σ.uB 2 (va_up σ.sb a false)
/-- the sums of the first n folders, as the new mark's -/
def mkT (σ : Sg) (n : Nat) : Nat → Nat := fun q => if 30 * σ.nm ≤ q ∧ q < 30 * σ.nm + n then (if q - 30 * σ.nm < σ.nf then tkS σ (q - 30 * σ.nm) else 0) else σ.mt q
def sMa (σ : Sg) : Sg := ((σ.uN 5 (va_up σ.md σ.nm σ.now)).uN 6 (mkT σ 30)).uK 3 (σ.nm + 1)
def sHo (σ : Sg) (n : Nat) : Sg := σ.uK 5 n
def had (σ : Sg) : Int64 := allS σ ||| shS σ (-1)
theorem lo60_had {σ : Sg} (h : Inv σ) : lo60 (had σ) := lo60_or (lo60_all h) (lo60_sh h _)
section MWr
variable {l : Launch} {g : GG} {ad : AD} {C : CC} {σ : Sg} {τ : Tm}
theorem k_X8_go_no {x : Int32} (m : MW g ad σ τ C) (hx : inN x 501 = false) : Cr l g yX8_go cX8_go 2 (some .int) 2 [.ref (ad 20), .int x] ad C (.int (-1)) := by
  refine Ct_of [some (.ref (ad 20)), some (.int x)] (by decide) rfl rfl (Nat.le_of_ble_eq_true rfl) rfl rfl (fun X hX h => ?_)
  subst hX
  refine j_iload1 (pc := 0) h dX8_go_0 ?_
  refine j_iconst (pc := 1) h dX8_go_1 ic_0 ?_
  refine j_sipush (pc := 2) h dX8_go_2 sp_500 ?_
  refine j_callSr (pc := 5) h dX8_go_5 (k_X8_in) ms_X8_73 rfl rfl (by decide) (Nat.le_of_ble_eq_true rfl) (Nat.le_of_ble_eq_true rfl) (Nat.le_of_ble_eq_true rfl) ?_
  refine j_if_neB (pc := 8) (tgt := 13) h dX8_go_8 (by decide) (fun c8 => absurd c8 (by rw [rng_m (by decide), hx]; decide)) (fun c8 => ?_)
  refine j_iconst (pc := 11) h dX8_go_11 ic_m1 ?_
  refine j_iretr (pc := 12) h dX8_go_12 (rfl)
theorem k_X8_go {i : Nat} (m : MW g ad σ τ C) (hI : Inv σ) (hi : i ≤ 500) : Ct l g yX8_go cX8_go 2 (some .int) 2 0 0 [.ref (ad 20), .int (nI i)] ad C (PMo g ad C (.int (nI (gw σ i))) (sGo σ i)) := by
  obtain ⟨f20, f21, f22, f23, f24, f25, f26, f27, f28, f29, f30, f31, f32, f33, f34, f35, f36, f37, f38⟩ := id m
  obtain ⟨hf1, hf2, hfl, hnn, hnm, hno, hc1, hc2⟩ := id hI.le
  refine Ct_of [some (.ref (ad 20)), some (.int (nI i))] (by decide) rfl rfl (Nat.le_of_ble_eq_true rfl) rfl rfl (fun X hX h => ?_)
  subst hX
  by_cases hq : 5000 < σ.now + i
  · have e : gw σ i = 5000 := if_pos hq
    refine j_iload1 (pc := 0) h dX8_go_0 ?_
    refine j_iconst (pc := 1) h dX8_go_1 ic_0 ?_
    refine j_sipush (pc := 2) h dX8_go_2 sp_500 ?_
    refine j_callSr (pc := 5) h dX8_go_5 (k_X8_in) ms_X8_73 rfl rfl (by decide) (Nat.le_of_ble_eq_true rfl) (Nat.le_of_ble_eq_true rfl) (Nat.le_of_ble_eq_true rfl) ?_
    refine j_if_neB (pc := 8) (tgt := 13) h dX8_go_8 (by decide) (fun c8 => ?_) (fun c8 => absurd c8 (by rw [rng_m (by decide), inN_nI (by omega)]; simp; omega))
    refine j_aload0 (pc := 13) h dX8_go_13 ?_
    refine j_aload0 (pc := 14) h dX8_go_14 ?_
    refine j_getf (pc := 15) h dX8_go_15 (f20) fl_X8_77 rfl ?_
    refine j_iload1 (pc := 18) h dX8_go_18 ?_
    refine j_iaddN (pc := 19) h dX8_go_19 ?_
    refine j_sipush (pc := 20) h dX8_go_20 sp_5000 ?_
    refine j_icmp_le (pc := 23) (tgt := 32) h dX8_go_23 (by decide) (fun c23 => absurd c23 (nI_ge hq (by omega))) (fun c23 => ?_)
    refine j_sipush (pc := 26) h dX8_go_26 sp_5000 ?_
    refine j_goto (pc := 29) (tgt := 38) h dX8_go_29 (by decide) ?_
    refine j_putv (pc := 38) h dX8_go_38 (f20) pl_X8_77 rfl rfl (Nat.le_of_ble_eq_true rfl) ?_
    refine j_aload0 (pc := 41) h dX8_go_41 ?_
    refine j_getf (pc := 42) h dX8_go_42 (rfl) fl_X8_77 rfl ?_
    refine j_iret (pc := 45) h dX8_go_45 (⟨by rw [e], rfl, ⟨τ, ⟨by unfold sGo; rw [e]; rfl, f21, f22, f23, f24, f25, f26, f27, f28, f29, f30, f31, f32, f33, f34, f35, f36, f37, f38⟩⟩, frM_up (frM_rf C) (by decide) (by decide)⟩)
  · have e : gw σ i = σ.now + i := if_neg hq
    refine j_iload1 (pc := 0) h dX8_go_0 ?_
    refine j_iconst (pc := 1) h dX8_go_1 ic_0 ?_
    refine j_sipush (pc := 2) h dX8_go_2 sp_500 ?_
    refine j_callSr (pc := 5) h dX8_go_5 (k_X8_in) ms_X8_73 rfl rfl (by decide) (Nat.le_of_ble_eq_true rfl) (Nat.le_of_ble_eq_true rfl) (Nat.le_of_ble_eq_true rfl) ?_
    refine j_if_neB (pc := 8) (tgt := 13) h dX8_go_8 (by decide) (fun c8 => ?_) (fun c8 => absurd c8 (by rw [rng_m (by decide), inN_nI (by omega)]; simp; omega))
    refine j_aload0 (pc := 13) h dX8_go_13 ?_
    refine j_aload0 (pc := 14) h dX8_go_14 ?_
    refine j_getf (pc := 15) h dX8_go_15 (f20) fl_X8_77 rfl ?_
    refine j_iload1 (pc := 18) h dX8_go_18 ?_
    refine j_iaddN (pc := 19) h dX8_go_19 ?_
    refine j_sipush (pc := 20) h dX8_go_20 sp_5000 ?_
    refine j_icmp_le (pc := 23) (tgt := 32) h dX8_go_23 (by decide) (fun c23 => ?_) (fun c23 => absurd (nI_le (by omega) (by omega)) c23)
    refine j_aload0 (pc := 32) h dX8_go_32 ?_
    refine j_getf (pc := 33) h dX8_go_33 (f20) fl_X8_77 rfl ?_
    refine j_iload1 (pc := 36) h dX8_go_36 ?_
    refine j_iaddN (pc := 37) h dX8_go_37 ?_
    refine j_putv (pc := 38) h dX8_go_38 (f20) pl_X8_77 rfl rfl (Nat.le_of_ble_eq_true rfl) ?_
    refine j_aload0 (pc := 41) h dX8_go_41 ?_
    refine j_getf (pc := 42) h dX8_go_42 (rfl) fl_X8_77 rfl ?_
    refine j_iret (pc := 45) h dX8_go_45 (⟨by rw [e], rfl, ⟨τ, ⟨by unfold sGo; rw [e]; rfl, f21, f22, f23, f24, f25, f26, f27, f28, f29, f30, f31, f32, f33, f34, f35, f36, f37, f38⟩⟩, frM_up (frM_rf C) (by decide) (by decide)⟩)
theorem k_X8_folder_no {x y z : Int32} (m : MW g ad σ τ C) (hI : Inv σ) (hx : (inN x σ.nf && inN y 6 && decide (σ.nf < 30)) = false) : Cr l g yX8_folder cX8_folder 4 (some .int) 3 [.ref (ad 20), .int x, .int y, .int z] ad C (.int (-1)) := by
  obtain ⟨f20, f21, f22, f23, f24, f25, f26, f27, f28, f29, f30, f31, f32, f33, f34, f35, f36, f37, f38⟩ := id m
  obtain ⟨hf1, hf2, hfl, hnn, hnm, hno, hc1, hc2⟩ := id hI.le
  refine Ct_of [some (.ref (ad 20)), some (.int x), some (.int y), some (.int z)] (by decide) rfl rfl (Nat.le_of_ble_eq_true rfl) rfl rfl (fun X hX h => ?_)
  subst hX
  refine j_aload0 (pc := 0) h dX8_folder_0 ?_
  refine j_iload1 (pc := 1) h dX8_folder_1 ?_
  refine j_callVr (pc := 2) h dX8_folder_2 (k_X8_isFolder m hI) mv_X8_80 (f20) rfl rfl (by decide) (Nat.le_of_ble_eq_true rfl) (Nat.le_of_ble_eq_true rfl) (Nat.le_of_ble_eq_true rfl) ?_
  refine j_if_eqB (pc := 5) (tgt := 26) h dX8_folder_5 (by decide) (fun c5 => ?_) (fun c5 => ?_)
  · refine j_iconst (pc := 26) h dX8_folder_26 ic_m1 ?_
    refine j_iretr (pc := 27) h dX8_folder_27 (rfl)
  · refine j_iload2 (pc := 8) h dX8_folder_8 ?_
    refine j_iconst (pc := 9) h dX8_folder_9 ic_0 ?_
    refine j_iconst (pc := 10) h dX8_folder_10 ic_5 ?_
    refine j_callSr (pc := 11) h dX8_folder_11 (k_X8_in) ms_X8_73 rfl rfl (by decide) (Nat.le_of_ble_eq_true rfl) (Nat.le_of_ble_eq_true rfl) (Nat.le_of_ble_eq_true rfl) ?_
    refine j_if_eqB (pc := 14) (tgt := 26) h dX8_folder_14 (by decide) (fun c14 => ?_) (fun c14 => ?_)
    · refine j_iconst (pc := 26) h dX8_folder_26 ic_m1 ?_
      refine j_iretr (pc := 27) h dX8_folder_27 (rfl)
    · rw [rng_m (by decide)] at c14
      rw [c5, c14] at hx
      refine j_aload0 (pc := 17) h dX8_folder_17 ?_
      refine j_getf (pc := 18) h dX8_folder_18 (f20) fl_X8_7 rfl ?_
      refine j_bipush (pc := 21) h dX8_folder_21 bp_30 ?_
      refine j_icmp_ne (pc := 23) (tgt := 28) h dX8_folder_23 (by decide) (fun c23 => absurd (by rw [show σ.nf = 30 by simp at hx; omega]) c23) (fun c23 => ?_)
      refine j_iconst (pc := 26) h dX8_folder_26 ic_m1 ?_
      refine j_iretr (pc := 27) h dX8_folder_27 (rfl)
theorem k_X8_folder {a : Nat} {y : Int32} {b : Bool} (m : MW g ad σ τ C) (hI : Inv σ) (ha : a < σ.nf) (hy : inN y 6 = true) (hf : σ.nf < 30) : Ct l g yX8_folder cX8_folder 4 (some .int) 3 0 0 [.ref (ad 20), .int (nI a), .int y, .int (bI b)] ad C (PMo g ad C (.int (nI σ.nf)) (sFo σ a y b)) := by
  obtain ⟨f20, f21, f22, f23, f24, f25, f26, f27, f28, f29, f30, f31, f32, f33, f34, f35, f36, f37, f38⟩ := id m
  obtain ⟨hf1, hf2, hfl, hnn, hnm, hno, hc1, hc2⟩ := id hI.le
  refine Ct_of [some (.ref (ad 20)), some (.int (nI a)), some (.int y), some (.int (bI b))] (by decide) rfl rfl (Nat.le_of_ble_eq_true rfl) rfl rfl (fun X hX h => ?_)
  subst hX
  refine j_aload0 (pc := 0) h dX8_folder_0 ?_
  refine j_iload1 (pc := 1) h dX8_folder_1 ?_
  refine j_callVr (pc := 2) h dX8_folder_2 (k_X8_isFolder m hI) mv_X8_80 (f20) rfl rfl (by decide) (Nat.le_of_ble_eq_true rfl) (Nat.le_of_ble_eq_true rfl) (Nat.le_of_ble_eq_true rfl) ?_
  refine j_if_eqB (pc := 5) (tgt := 26) h dX8_folder_5 (by decide) (fun c5 => absurd c5 (by rw [inN_nI (by omega)]; simp; omega)) (fun c5 => ?_)
  refine j_iload2 (pc := 8) h dX8_folder_8 ?_
  refine j_iconst (pc := 9) h dX8_folder_9 ic_0 ?_
  refine j_iconst (pc := 10) h dX8_folder_10 ic_5 ?_
  refine j_callSr (pc := 11) h dX8_folder_11 (k_X8_in) ms_X8_73 rfl rfl (by decide) (Nat.le_of_ble_eq_true rfl) (Nat.le_of_ble_eq_true rfl) (Nat.le_of_ble_eq_true rfl) ?_
  refine j_if_eqB (pc := 14) (tgt := 26) h dX8_folder_14 (by decide) (fun c14 => absurd c14 (by rw [rng_m (by decide), hy]; decide)) (fun c14 => ?_)
  refine j_aload0 (pc := 17) h dX8_folder_17 ?_
  refine j_getf (pc := 18) h dX8_folder_18 (f20) fl_X8_7 rfl ?_
  refine j_bipush (pc := 21) h dX8_folder_21 bp_30 ?_
  refine j_icmp_ne (pc := 23) (tgt := 28) h dX8_folder_23 (by decide) (fun c23 => ?_) (fun c23 => absurd c23 (fun q => absurd (nI_inj q (by omega) (by omega)) (by omega)))
  refine j_aload0 (pc := 28) h dX8_folder_28 ?_
  refine j_getf (pc := 29) h dX8_folder_29 (f20) fl_X8_13 rfl ?_
  refine j_aload0 (pc := 32) h dX8_folder_32 ?_
  refine j_getf (pc := 33) h dX8_folder_33 (f20) fl_X8_7 rfl ?_
  refine j_iload1 (pc := 36) h dX8_folder_36 ?_
  refine j_iast (pc := 37) h dX8_folder_37 (f21) (by omega) (by decide) ?_
  refine j_aload0 (pc := 38) h dX8_folder_38 ?_
  refine j_getf (pc := 39) h dX8_folder_39 (f20) fl_X8_17 rfl ?_
  refine j_aload0 (pc := 42) h dX8_folder_42 ?_
  refine j_getf (pc := 43) h dX8_folder_43 (f20) fl_X8_7 rfl ?_
  refine j_iload2 (pc := 46) h dX8_folder_46 ?_
  refine j_iast (pc := 47) h dX8_folder_47 (f22) (by omega) (by decide) ?_
  refine j_aload0 (pc := 48) h dX8_folder_48 ?_
  refine j_getf (pc := 49) h dX8_folder_49 (f20) fl_X8_20 rfl ?_
  refine j_aload0 (pc := 52) h dX8_folder_52 ?_
  refine j_getf (pc := 53) h dX8_folder_53 (f20) fl_X8_7 rfl ?_
  refine j_iload3 (pc := 56) h dX8_folder_56 ?_
  refine j_zast (pc := 57) h dX8_folder_57 (f23) (by omega) (by decide) (bI_nar b) ?_
  refine j_aload0 (pc := 58) h dX8_folder_58 ?_
  refine j_dupR (pc := 59) h dX8_folder_59 ?_
  refine j_getf (pc := 60) h dX8_folder_60 (f20) fl_X8_7 rfl ?_
  refine j_iconst (pc := 63) h dX8_folder_63 ic_1 ?_
  refine j_iaddN (pc := 64) h dX8_folder_64 ?_
  refine j_putv (pc := 65) h dX8_folder_65 (f20) pl_X8_7 rfl rfl (Nat.le_of_ble_eq_true rfl) ?_
  refine j_aload0 (pc := 68) h dX8_folder_68 ?_
  refine j_getf (pc := 69) h dX8_folder_69 (rfl) fl_X8_7 rfl ?_
  refine j_iconst (pc := 72) h dX8_folder_72 ic_1 ?_
  refine j_isubN (pc := 73) h dX8_folder_73 (by omega) ?_
  refine j_iret (pc := 74) h dX8_folder_74 (⟨rfl, rfl, ⟨τ, ⟨rfl, eI_c (parF_up (by omega)), rfl, eZ_c bF_up, f24, f25, f26, f27, f28, f29, f30, f31, f32, f33, f34, f35, f36, f37, f38⟩⟩, frM_up (frM_up (frM_up (frM_up (frM_rf C) (by decide) (by decide)) (by decide) (by decide)) (by decide) (by decide)) (by decide) (by decide)⟩)
theorem k_X8_move_no {x y : Int32} (m : MW g ad σ τ C) (hI : Inv σ) (hx : inN x σ.nf = false ∨ inN y σ.nf = false ∨ x = nI 0 ∨ ∃ a c, a < σ.nf ∧ c < σ.nf ∧ x = nI a ∧ y = nI c ∧ anc σ.pr 29 c a = true) : Cr l g yX8_move cX8_move 3 (some .boolean) 3 [.ref (ad 20), .int x, .int y] ad C (.int (bI false)) := by
  obtain ⟨f20, f21, f22, f23, f24, f25, f26, f27, f28, f29, f30, f31, f32, f33, f34, f35, f36, f37, f38⟩ := id m
  obtain ⟨hf1, hf2, hfl, hnn, hnm, hno, hc1, hc2⟩ := id hI.le
  refine Ct_of [some (.ref (ad 20)), some (.int x), some (.int y)] (by decide) rfl rfl (Nat.le_of_ble_eq_true rfl) rfl rfl (fun X hX h => ?_)
  subst hX
  refine j_aload0 (pc := 0) h dX8_move_0 ?_
  refine j_iload1 (pc := 1) h dX8_move_1 ?_
  refine j_callVr (pc := 2) h dX8_move_2 (k_X8_isFolder m hI) mv_X8_80 (f20) rfl rfl (by decide) (Nat.le_of_ble_eq_true rfl) (Nat.le_of_ble_eq_true rfl) (Nat.le_of_ble_eq_true rfl) ?_
  refine j_if_eqB (pc := 5) (tgt := 29) h dX8_move_5 (by decide) (fun c5 => ?_) (fun c5 => ?_)
  · refine j_iconst (pc := 29) h dX8_move_29 ic_0 ?_
    refine j_zretr (pc := 30) h dX8_move_30 (by decide) (rfl)
  · refine j_iload1 (pc := 8) h dX8_move_8 ?_
    refine j_if_eq (pc := 9) (tgt := 29) h dX8_move_9 (by decide) (fun c9 => ?_) (fun c9 => ?_)
    · refine j_iconst (pc := 29) h dX8_move_29 ic_0 ?_
      refine j_zretr (pc := 30) h dX8_move_30 (by decide) (rfl)
    · refine j_aload0 (pc := 12) h dX8_move_12 ?_
      refine j_iload2 (pc := 13) h dX8_move_13 ?_
      refine j_callVr (pc := 14) h dX8_move_14 (k_X8_isFolder m hI) mv_X8_80 (f20) rfl rfl (by decide) (Nat.le_of_ble_eq_true rfl) (Nat.le_of_ble_eq_true rfl) (Nat.le_of_ble_eq_true rfl) ?_
      refine j_if_eqB (pc := 17) (tgt := 29) h dX8_move_17 (by decide) (fun c17 => ?_) (fun c17 => ?_)
      · refine j_iconst (pc := 29) h dX8_move_29 ic_0 ?_
        refine j_zretr (pc := 30) h dX8_move_30 (by decide) (rfl)
      · rcases hx with hx | hx | hx | ⟨a, c, ha, hc, rfl, rfl, hx⟩
        · exact absurd (hx.symm.trans c5) (by decide)
        · exact absurd (hx.symm.trans c17) (by decide)
        · exact absurd hx c9
        · refine j_aload0 (pc := 20) h dX8_move_20 ?_
          refine j_iload2 (pc := 21) h dX8_move_21 ?_
          refine j_iload1 (pc := 22) h dX8_move_22 ?_
          refine j_callVr (pc := 23) h dX8_move_23 (k_X8_isOf m hI hc ha) mv_X8_84 (f20) rfl rfl (by decide) (Nat.le_of_ble_eq_true rfl) (Nat.le_of_ble_eq_true rfl) (Nat.le_of_ble_eq_true rfl) ?_
          refine j_if_eqB (pc := 26) (tgt := 31) h dX8_move_26 (by decide) (fun c26 => absurd c26 (by rw [hx]; decide)) (fun c26 => ?_)
          refine j_iconst (pc := 29) h dX8_move_29 ic_0 ?_
          refine j_zretr (pc := 30) h dX8_move_30 (by decide) (rfl)
theorem k_X8_move {a c : Nat} (m : MW g ad σ τ C) (hI : Inv σ) (ha : a < σ.nf) (hc : c < σ.nf) (h0 : a ≠ 0) (hx : anc σ.pr 29 c a = false) : Ct l g yX8_move cX8_move 3 (some .boolean) 3 0 0 [.ref (ad 20), .int (nI a), .int (nI c)] ad C (PMo g ad C (.int (bI true)) (sMv σ a c)) := by
  obtain ⟨f20, f21, f22, f23, f24, f25, f26, f27, f28, f29, f30, f31, f32, f33, f34, f35, f36, f37, f38⟩ := id m
  obtain ⟨hf1, hf2, hfl, hnn, hnm, hno, hc1, hc2⟩ := id hI.le
  refine Ct_of [some (.ref (ad 20)), some (.int (nI a)), some (.int (nI c))] (by decide) rfl rfl (Nat.le_of_ble_eq_true rfl) rfl rfl (fun X hX h => ?_)
  subst hX
  refine j_aload0 (pc := 0) h dX8_move_0 ?_
  refine j_iload1 (pc := 1) h dX8_move_1 ?_
  refine j_callVr (pc := 2) h dX8_move_2 (k_X8_isFolder m hI) mv_X8_80 (f20) rfl rfl (by decide) (Nat.le_of_ble_eq_true rfl) (Nat.le_of_ble_eq_true rfl) (Nat.le_of_ble_eq_true rfl) ?_
  refine j_if_eqB (pc := 5) (tgt := 29) h dX8_move_5 (by decide) (fun c5 => absurd c5 (by rw [inN_nI (by omega)]; simp; omega)) (fun c5 => ?_)
  refine j_iload1 (pc := 8) h dX8_move_8 ?_
  refine j_if_eq (pc := 9) (tgt := 29) h dX8_move_9 (by decide) (fun c9 => absurd c9 (nI_ne0 (by omega) (by omega))) (fun c9 => ?_)
  refine j_aload0 (pc := 12) h dX8_move_12 ?_
  refine j_iload2 (pc := 13) h dX8_move_13 ?_
  refine j_callVr (pc := 14) h dX8_move_14 (k_X8_isFolder m hI) mv_X8_80 (f20) rfl rfl (by decide) (Nat.le_of_ble_eq_true rfl) (Nat.le_of_ble_eq_true rfl) (Nat.le_of_ble_eq_true rfl) ?_
  refine j_if_eqB (pc := 17) (tgt := 29) h dX8_move_17 (by decide) (fun c17 => absurd c17 (by rw [inN_nI (by omega)]; simp; omega)) (fun c17 => ?_)
  refine j_aload0 (pc := 20) h dX8_move_20 ?_
  refine j_iload2 (pc := 21) h dX8_move_21 ?_
  refine j_iload1 (pc := 22) h dX8_move_22 ?_
  refine j_callVr (pc := 23) h dX8_move_23 (k_X8_isOf m hI hc ha) mv_X8_84 (f20) rfl rfl (by decide) (Nat.le_of_ble_eq_true rfl) (Nat.le_of_ble_eq_true rfl) (Nat.le_of_ble_eq_true rfl) ?_
  refine j_if_eqB (pc := 26) (tgt := 31) h dX8_move_26 (by decide) (fun c26 => ?_) (fun c26 => absurd c26 (by rw [hx]; decide))
  refine j_aload0 (pc := 31) h dX8_move_31 ?_
  refine j_getf (pc := 32) h dX8_move_32 (f20) fl_X8_13 rfl ?_
  refine j_iload1 (pc := 35) h dX8_move_35 ?_
  refine j_iload2 (pc := 36) h dX8_move_36 ?_
  refine j_iast (pc := 37) h dX8_move_37 (f21) (by omega) (by decide) ?_
  refine j_iconst (pc := 38) h dX8_move_38 ic_1 ?_
  refine j_zret (pc := 39) h dX8_move_39 (nar_1) (⟨rfl, rfl, ⟨τ, ⟨f20, eI_c (parF_up h0), f22, f23, f24, f25, f26, f27, f28, f29, f30, f31, f32, f33, f34, f35, f36, f37, f38⟩⟩, frM_up (frM_rf C) (by decide) (by decide)⟩)
theorem k_X8_newName {f a : Nat} (m : MW g ad σ τ C) (hI : σ.nn < 100) : Ct l g yX8_newName cX8_newName 3 (some .int) 1 0 0 [.ref (ad 20), .int (nI f), .int (nI a)] ad C (fun r ad' C' => r = some (.int (nI σ.nn)) ∧ ad' = ad ∧ MW g ad (sNa σ f a) τ C' ∧ frM C C') := by
  obtain ⟨f20, f21, f22, f23, f24, f25, f26, f27, f28, f29, f30, f31, f32, f33, f34, f35, f36, f37, f38⟩ := id m
  refine Ct_of [some (.ref (ad 20)), some (.int (nI f)), some (.int (nI a))] (by decide) rfl rfl (Nat.le_of_ble_eq_true rfl) rfl rfl (fun X hX h => ?_)
  subst hX
  refine j_aload0 (pc := 0) h dX8_newName_0 ?_
  refine j_getf (pc := 1) h dX8_newName_1 (f20) fl_X8_39 rfl ?_
  refine j_aload0 (pc := 4) h dX8_newName_4 ?_
  refine j_getf (pc := 5) h dX8_newName_5 (f20) fl_X8_88 rfl ?_
  refine j_iload1 (pc := 8) h dX8_newName_8 ?_
  refine j_iast (pc := 9) h dX8_newName_9 (f29) (by omega) (by decide) ?_
  refine j_aload0 (pc := 10) h dX8_newName_10 ?_
  refine j_getf (pc := 11) h dX8_newName_11 (f20) fl_X8_42 rfl ?_
  refine j_aload0 (pc := 14) h dX8_newName_14 ?_
  refine j_getf (pc := 15) h dX8_newName_15 (f20) fl_X8_88 rfl ?_
  refine j_iload2 (pc := 18) h dX8_newName_18 ?_
  refine j_iast (pc := 19) h dX8_newName_19 (f30) (by omega) (by decide) ?_
  refine j_aload0 (pc := 20) h dX8_newName_20 ?_
  refine j_getf (pc := 21) h dX8_newName_21 (f20) fl_X8_45 rfl ?_
  refine j_aload0 (pc := 24) h dX8_newName_24 ?_
  refine j_getf (pc := 25) h dX8_newName_25 (f20) fl_X8_88 rfl ?_
  refine j_iconst (pc := 28) h dX8_newName_28 ic_1 ?_
  refine j_zast (pc := 29) h dX8_newName_29 (f31) (by omega) (by decide) (nar_1) ?_
  refine j_aload0 (pc := 30) h dX8_newName_30 ?_
  refine j_dupR (pc := 31) h dX8_newName_31 ?_
  refine j_getf (pc := 32) h dX8_newName_32 (f20) fl_X8_88 rfl ?_
  refine j_iconst (pc := 35) h dX8_newName_35 ic_1 ?_
  refine j_iaddN (pc := 36) h dX8_newName_36 ?_
  refine j_putv (pc := 37) h dX8_newName_37 (f20) pl_X8_88 rfl rfl (Nat.le_of_ble_eq_true rfl) ?_
  refine j_aload0 (pc := 40) h dX8_newName_40 ?_
  refine j_getf (pc := 41) h dX8_newName_41 (rfl) fl_X8_88 rfl ?_
  refine j_iconst (pc := 44) h dX8_newName_44 ic_1 ?_
  refine j_isubN (pc := 45) h dX8_newName_45 (by omega) ?_
  refine j_iret (pc := 46) h dX8_newName_46 (⟨rfl, rfl, ⟨rfl, f21, f22, f23, f24, f25, f26, f27, f28, eI_c nF_up, eI_c nF_up, eZ_c bF_up1, f32, f33, f34, f35, f36, f37, f38⟩, frM_up (frM_up (frM_up (frM_up (frM_rf C) (by decide) (by decide)) (by decide) (by decide)) (by decide) (by decide)) (by decide) (by decide)⟩)
theorem frM_tr {C C' C'' : CC} (h : frM C C') (h2 : frM C' C'') : frM C C'' := fun j hj => (h2 j hj).trans (h j hj)
theorem k_X8_file_no {x y z : Int32} (m : MW g ad σ τ C) (hI : Inv σ) (hx : (inN x σ.nf && inN y 6 && inN z 1000 && decide (σ.nfl < 40) && decide (σ.nn < 100)) = false) : Cr l g yX8_file cX8_file 4 (some .int) 3 [.ref (ad 20), .int x, .int y, .int z] ad C (.int (-1)) := by
  obtain ⟨f20, f21, f22, f23, f24, f25, f26, f27, f28, f29, f30, f31, f32, f33, f34, f35, f36, f37, f38⟩ := id m
  obtain ⟨hf1, hf2, hfl, hnn, hnm, hno, hc1, hc2⟩ := id hI.le
  refine Ct_of [some (.ref (ad 20)), some (.int x), some (.int y), some (.int z)] (by decide) rfl rfl (Nat.le_of_ble_eq_true rfl) rfl rfl (fun X hX h => ?_)
  subst hX
  refine j_aload0 (pc := 0) h dX8_file_0 ?_
  refine j_iload1 (pc := 1) h dX8_file_1 ?_
  refine j_callVr (pc := 2) h dX8_file_2 (k_X8_isFolder m hI) mv_X8_80 (f20) rfl rfl (by decide) (Nat.le_of_ble_eq_true rfl) (Nat.le_of_ble_eq_true rfl) (Nat.le_of_ble_eq_true rfl) ?_
  refine j_if_eqB (pc := 5) (tgt := 46) h dX8_file_5 (by decide) (fun c5 => ?_) (fun c5 => ?_)
  · refine j_iconst (pc := 46) h dX8_file_46 ic_m1 ?_
    refine j_iretr (pc := 47) h dX8_file_47 (rfl)
  · refine j_iload2 (pc := 8) h dX8_file_8 ?_
    refine j_iconst (pc := 9) h dX8_file_9 ic_0 ?_
    refine j_iconst (pc := 10) h dX8_file_10 ic_5 ?_
    refine j_callSr (pc := 11) h dX8_file_11 (k_X8_in) ms_X8_73 rfl rfl (by decide) (Nat.le_of_ble_eq_true rfl) (Nat.le_of_ble_eq_true rfl) (Nat.le_of_ble_eq_true rfl) ?_
    refine j_if_eqB (pc := 14) (tgt := 46) h dX8_file_14 (by decide) (fun c14 => ?_) (fun c14 => ?_)
    · refine j_iconst (pc := 46) h dX8_file_46 ic_m1 ?_
      refine j_iretr (pc := 47) h dX8_file_47 (rfl)
    · refine j_iload3 (pc := 17) h dX8_file_17 ?_
      refine j_iconst (pc := 18) h dX8_file_18 ic_0 ?_
      refine j_sipush (pc := 19) h dX8_file_19 sp_999 ?_
      refine j_callSr (pc := 22) h dX8_file_22 (k_X8_in) ms_X8_73 rfl rfl (by decide) (Nat.le_of_ble_eq_true rfl) (Nat.le_of_ble_eq_true rfl) (Nat.le_of_ble_eq_true rfl) ?_
      refine j_if_eqB (pc := 25) (tgt := 46) h dX8_file_25 (by decide) (fun c25 => ?_) (fun c25 => ?_)
      · refine j_iconst (pc := 46) h dX8_file_46 ic_m1 ?_
        refine j_iretr (pc := 47) h dX8_file_47 (rfl)
      · rw [rng_m (by decide)] at c14 c25
        rw [c5, c14, c25] at hx
        refine j_aload0 (pc := 28) h dX8_file_28 ?_
        refine j_getf (pc := 29) h dX8_file_29 (f20) fl_X8_91 rfl ?_
        refine j_bipush (pc := 32) h dX8_file_32 bp_40 ?_
        refine j_icmp_eq (pc := 34) (tgt := 46) h dX8_file_34 (by decide) (fun c34 => ?_) (fun c34 => ?_)
        · refine j_iconst (pc := 46) h dX8_file_46 ic_m1 ?_
          refine j_iretr (pc := 47) h dX8_file_47 (rfl)
        · have h4 : ¬ σ.nfl = 40 := fun q => c34 (by rw [q])
          refine j_aload0 (pc := 37) h dX8_file_37 ?_
          refine j_getf (pc := 38) h dX8_file_38 (f20) fl_X8_88 rfl ?_
          refine j_bipush (pc := 41) h dX8_file_41 bp_100 ?_
          refine j_icmp_ne (pc := 43) (tgt := 48) h dX8_file_43 (by decide) (fun c43 => absurd (by rw [show σ.nn = 100 by simp at hx; omega]) c43) (fun c43 => ?_)
          refine j_iconst (pc := 46) h dX8_file_46 ic_m1 ?_
          refine j_iretr (pc := 47) h dX8_file_47 (rfl)
theorem k_X8_file {a w : Nat} {y : Int32} (m : MW g ad σ τ C) (hI : Inv σ) (ha : a < σ.nf) (hy : inN y 6 = true) (hw : w < 1000) (hf : σ.nfl < 40) (hn : σ.nn < 100) : Ct l g yX8_file cX8_file 4 (some .int) 3 0 0 [.ref (ad 20), .int (nI a), .int y, .int (nI w)] ad C (fun r ad' C' => r = some (.int (nI σ.nn)) ∧ ad' = ad ∧ MW g ad (sNa (sFi σ y w) σ.nfl a) τ C' ∧ frM C C') := by
  obtain ⟨f20, f21, f22, f23, f24, f25, f26, f27, f28, f29, f30, f31, f32, f33, f34, f35, f36, f37, f38⟩ := id m
  obtain ⟨hf1, hf2, hfl, hnn, hnm, hno, hc1, hc2⟩ := id hI.le
  refine Ct_of [some (.ref (ad 20)), some (.int (nI a)), some (.int y), some (.int (nI w))] (by decide) rfl rfl (Nat.le_of_ble_eq_true rfl) rfl rfl (fun X hX h => ?_)
  subst hX
  refine j_aload0 (pc := 0) h dX8_file_0 ?_
  refine j_iload1 (pc := 1) h dX8_file_1 ?_
  refine j_callVr (pc := 2) h dX8_file_2 (k_X8_isFolder m hI) mv_X8_80 (f20) rfl rfl (by decide) (Nat.le_of_ble_eq_true rfl) (Nat.le_of_ble_eq_true rfl) (Nat.le_of_ble_eq_true rfl) ?_
  refine j_if_eqB (pc := 5) (tgt := 46) h dX8_file_5 (by decide) (fun c5 => absurd c5 (by rw [inN_nI (by omega)]; simp; omega)) (fun c5 => ?_)
  refine j_iload2 (pc := 8) h dX8_file_8 ?_
  refine j_iconst (pc := 9) h dX8_file_9 ic_0 ?_
  refine j_iconst (pc := 10) h dX8_file_10 ic_5 ?_
  refine j_callSr (pc := 11) h dX8_file_11 (k_X8_in) ms_X8_73 rfl rfl (by decide) (Nat.le_of_ble_eq_true rfl) (Nat.le_of_ble_eq_true rfl) (Nat.le_of_ble_eq_true rfl) ?_
  refine j_if_eqB (pc := 14) (tgt := 46) h dX8_file_14 (by decide) (fun c14 => absurd c14 (by rw [rng_m (by decide), hy]; decide)) (fun c14 => ?_)
  refine j_iload3 (pc := 17) h dX8_file_17 ?_
  refine j_iconst (pc := 18) h dX8_file_18 ic_0 ?_
  refine j_sipush (pc := 19) h dX8_file_19 sp_999 ?_
  refine j_callSr (pc := 22) h dX8_file_22 (k_X8_in) ms_X8_73 rfl rfl (by decide) (Nat.le_of_ble_eq_true rfl) (Nat.le_of_ble_eq_true rfl) (Nat.le_of_ble_eq_true rfl) ?_
  refine j_if_eqB (pc := 25) (tgt := 46) h dX8_file_25 (by decide) (fun c25 => absurd c25 (by rw [rng_m (by decide), inN_nI (by omega)]; simp; omega)) (fun c25 => ?_)
  refine j_aload0 (pc := 28) h dX8_file_28 ?_
  refine j_getf (pc := 29) h dX8_file_29 (f20) fl_X8_91 rfl ?_
  refine j_bipush (pc := 32) h dX8_file_32 bp_40 ?_
  refine j_icmp_eq (pc := 34) (tgt := 46) h dX8_file_34 (by decide) (fun c34 => absurd c34 (fun q => absurd (nI_inj q (by omega) (by omega)) (by omega))) (fun c34 => ?_)
  refine j_aload0 (pc := 37) h dX8_file_37 ?_
  refine j_getf (pc := 38) h dX8_file_38 (f20) fl_X8_88 rfl ?_
  refine j_bipush (pc := 41) h dX8_file_41 bp_100 ?_
  refine j_icmp_ne (pc := 43) (tgt := 48) h dX8_file_43 (by decide) (fun c43 => ?_) (fun c43 => absurd c43 (fun q => absurd (nI_inj q (by omega) (by omega)) (by omega)))
  refine j_aload0 (pc := 48) h dX8_file_48 ?_
  refine j_getf (pc := 49) h dX8_file_49 (f20) fl_X8_30 rfl ?_
  refine j_aload0 (pc := 52) h dX8_file_52 ?_
  refine j_getf (pc := 53) h dX8_file_53 (f20) fl_X8_91 rfl ?_
  refine j_iload2 (pc := 56) h dX8_file_56 ?_
  refine j_iast (pc := 57) h dX8_file_57 (f26) (by omega) (by decide) ?_
  refine j_aload0 (pc := 58) h dX8_file_58 ?_
  refine j_getf (pc := 59) h dX8_file_59 (f20) fl_X8_33 rfl ?_
  refine j_aload0 (pc := 62) h dX8_file_62 ?_
  refine j_getf (pc := 63) h dX8_file_63 (f20) fl_X8_91 rfl ?_
  refine j_iload3 (pc := 66) h dX8_file_66 ?_
  refine j_iast (pc := 67) h dX8_file_67 (f27) (by omega) (by decide) ?_
  refine j_aload0 (pc := 68) h dX8_file_68 ?_
  refine j_getf (pc := 69) h dX8_file_69 (f20) fl_X8_36 rfl ?_
  refine j_aload0 (pc := 72) h dX8_file_72 ?_
  refine j_getf (pc := 73) h dX8_file_73 (f20) fl_X8_91 rfl ?_
  refine j_aload0 (pc := 76) h dX8_file_76 ?_
  refine j_getf (pc := 77) h dX8_file_77 (f20) fl_X8_77 rfl ?_
  refine j_iast (pc := 80) h dX8_file_80 (f28) (by omega) (by decide) ?_
  refine j_aload0 (pc := 81) h dX8_file_81 ?_
  refine j_dupR (pc := 82) h dX8_file_82 ?_
  refine j_getf (pc := 83) h dX8_file_83 (f20) fl_X8_91 rfl ?_
  refine j_iconst (pc := 86) h dX8_file_86 ic_1 ?_
  refine j_iaddN (pc := 87) h dX8_file_87 ?_
  refine j_putv (pc := 88) h dX8_file_88 (f20) pl_X8_91 rfl rfl (Nat.le_of_ble_eq_true rfl) ?_
  have m1 : MW g ad (sFi σ y w) τ (va_up (va_up (va_up (va_up C 26 (some (eI g 40 (upd σ.ow σ.nfl y)))) 27 (some (eI g 40 (upd (fun i => nI (σ.wo i)) σ.nfl (nI w))))) 28 (some (eI g 40 (upd σ.ch σ.nfl (nI σ.now))))) 20 (some (oMo ad (sFi σ y w) τ))) := ⟨rfl, f21, f22, f23, f24, f25, rfl, eI_c nF_up, rfl, f29, f30, f31, f32, f33, f34, f35, f36, f37, f38⟩
  refine j_aload0 (pc := 91) h dX8_file_91 ?_
  refine j_aload0 (pc := 92) h dX8_file_92 ?_
  refine j_getf (pc := 93) h dX8_file_93 (m1.1) fl_X8_91 rfl ?_
  refine j_iconst (pc := 96) h dX8_file_96 ic_1 ?_
  refine j_isub1 (pc := 97) h dX8_file_97 ?_
  refine j_iload1 (pc := 98) h dX8_file_98 ?_
  refine j_callV (pc := 99) h dX8_file_99 (k_X8_newName (f := σ.nfl) (a := a) (σ := sFi σ y w) (τ := τ) m1 hn) mv_X8_98 (m1.1) rfl rfl (by decide) (Nat.le_of_ble_eq_true rfl) (Nat.le_of_ble_eq_true rfl) (Nat.le_of_ble_eq_true rfl) (fun v99 ad99 C99 hp99 => ?_)
  obtain ⟨rfl, rfl, h1, h2⟩ := hp99
  refine j_iret (pc := 102) h dX8_file_102 (⟨rfl, rfl, h1, frM_tr (frM_up (frM_up (frM_up (frM_up (frM_rf C) (by decide) (by decide)) (by decide) (by decide)) (by decide) (by decide)) (by decide) (by decide)) h2⟩)
theorem k_X8_link_no {x y : Int32} (m : MW g ad σ τ C) (hI : Inv σ) (hx : inN x σ.nfl = false ∨ (∃ i, i < σ.nfl ∧ x = nI i ∧ lv σ i = false) ∨ inN y σ.nf = false ∨ σ.nn = 100) : Cr l g yX8_link cX8_link 3 (some .int) 3 [.ref (ad 20), .int x, .int y] ad C (.int (-1)) := by
  obtain ⟨f20, f21, f22, f23, f24, f25, f26, f27, f28, f29, f30, f31, f32, f33, f34, f35, f36, f37, f38⟩ := id m
  obtain ⟨hf1, hf2, hfl, hnn, hnm, hno, hc1, hc2⟩ := id hI.le
  refine Ct_of [some (.ref (ad 20)), some (.int x), some (.int y)] (by decide) rfl rfl (Nat.le_of_ble_eq_true rfl) rfl rfl (fun X hX h => ?_)
  subst hX
  rcases inN_cases x σ.nfl with hz | ⟨i, hi, rfl⟩
  · refine j_aload0 (pc := 0) h dX8_link_0 ?_
    refine j_iload1 (pc := 1) h dX8_link_1 ?_
    refine j_callVr (pc := 2) h dX8_link_2 (k_X8_isFile_no m hI hz) mv_X8_109 (f20) rfl rfl (by decide) (Nat.le_of_ble_eq_true rfl) (Nat.le_of_ble_eq_true rfl) (Nat.le_of_ble_eq_true rfl) ?_
    refine j_if_eqB (pc := 5) (tgt := 34) h dX8_link_5 (by decide) (fun c5 => ?_) (fun c5 => absurd c5 (by decide))
    refine j_iconst (pc := 34) h dX8_link_34 ic_m1 ?_
    refine j_iretr (pc := 35) h dX8_link_35 (rfl)
  · refine j_aload0 (pc := 0) h dX8_link_0 ?_
    refine j_iload1 (pc := 1) h dX8_link_1 ?_
    refine j_callVr (pc := 2) h dX8_link_2 (k_X8_isFile m hI hi) mv_X8_109 (f20) rfl rfl (by decide) (Nat.le_of_ble_eq_true rfl) (Nat.le_of_ble_eq_true rfl) (Nat.le_of_ble_eq_true rfl) ?_
    refine j_if_eqB (pc := 5) (tgt := 34) h dX8_link_5 (by decide) (fun c5 => ?_) (fun c5 => ?_)
    · refine j_iconst (pc := 34) h dX8_link_34 ic_m1 ?_
      refine j_iretr (pc := 35) h dX8_link_35 (rfl)
    · refine j_aload0 (pc := 8) h dX8_link_8 ?_
      refine j_iload2 (pc := 9) h dX8_link_9 ?_
      refine j_callVr (pc := 10) h dX8_link_10 (k_X8_isFolder m hI) mv_X8_80 (f20) rfl rfl (by decide) (Nat.le_of_ble_eq_true rfl) (Nat.le_of_ble_eq_true rfl) (Nat.le_of_ble_eq_true rfl) ?_
      refine j_if_eqB (pc := 13) (tgt := 34) h dX8_link_13 (by decide) (fun c13 => ?_) (fun c13 => ?_)
      · refine j_iconst (pc := 34) h dX8_link_34 ic_m1 ?_
        refine j_iretr (pc := 35) h dX8_link_35 (rfl)
      · rcases hx with hx | ⟨j, hj, he, hx⟩ | hx | hx
        · rw [inN_nI (by omega)] at hx; simp at hx; omega
        · have := nI_inj he (by omega) (by omega); subst this; rw [hx] at c5; cases c5
        · exact absurd (hx.symm.trans c13) (by decide)
        · refine j_aload0 (pc := 16) h dX8_link_16 ?_
          refine j_getf (pc := 17) h dX8_link_17 (f20) fl_X8_88 rfl ?_
          refine j_bipush (pc := 20) h dX8_link_20 bp_100 ?_
          refine j_icmp_ge (pc := 22) (tgt := 34) h dX8_link_22 (by decide) (fun c22 => ?_) (fun c22 => absurd (nI_le (by omega) (by omega)) c22)
          refine j_iconst (pc := 34) h dX8_link_34 ic_m1 ?_
          refine j_iretr (pc := 35) h dX8_link_35 (rfl)
theorem k_X8_link {i a : Nat} (m : MW g ad σ τ C) (hI : Inv σ) (hi : i < σ.nfl) (hl : lv σ i = true) (ha : a < σ.nf) (hn : σ.nn < 100) : Ct l g yX8_link cX8_link 3 (some .int) 3 0 0 [.ref (ad 20), .int (nI i), .int (nI a)] ad C (PMo g ad C (.int (nI σ.nn)) (sNa σ i a)) := by
  obtain ⟨f20, f21, f22, f23, f24, f25, f26, f27, f28, f29, f30, f31, f32, f33, f34, f35, f36, f37, f38⟩ := id m
  obtain ⟨hf1, hf2, hfl, hnn, hnm, hno, hc1, hc2⟩ := id hI.le
  refine Ct_of [some (.ref (ad 20)), some (.int (nI i)), some (.int (nI a))] (by decide) rfl rfl (Nat.le_of_ble_eq_true rfl) rfl rfl (fun X hX h => ?_)
  subst hX
  refine j_aload0 (pc := 0) h dX8_link_0 ?_
  refine j_iload1 (pc := 1) h dX8_link_1 ?_
  refine j_callVr (pc := 2) h dX8_link_2 (k_X8_isFile m hI hi) mv_X8_109 (f20) rfl rfl (by decide) (Nat.le_of_ble_eq_true rfl) (Nat.le_of_ble_eq_true rfl) (Nat.le_of_ble_eq_true rfl) ?_
  refine j_if_eqB (pc := 5) (tgt := 34) h dX8_link_5 (by decide) (fun c5 => absurd c5 (by rw [hl]; decide)) (fun c5 => ?_)
  refine j_aload0 (pc := 8) h dX8_link_8 ?_
  refine j_iload2 (pc := 9) h dX8_link_9 ?_
  refine j_callVr (pc := 10) h dX8_link_10 (k_X8_isFolder m hI) mv_X8_80 (f20) rfl rfl (by decide) (Nat.le_of_ble_eq_true rfl) (Nat.le_of_ble_eq_true rfl) (Nat.le_of_ble_eq_true rfl) ?_
  refine j_if_eqB (pc := 13) (tgt := 34) h dX8_link_13 (by decide) (fun c13 => absurd c13 (by rw [inN_nI (by omega)]; simp; omega)) (fun c13 => ?_)
  refine j_aload0 (pc := 16) h dX8_link_16 ?_
  refine j_getf (pc := 17) h dX8_link_17 (f20) fl_X8_88 rfl ?_
  refine j_bipush (pc := 20) h dX8_link_20 bp_100 ?_
  refine j_icmp_ge (pc := 22) (tgt := 34) h dX8_link_22 (by decide) (fun c22 => absurd c22 (nI_ge hn (by omega))) (fun c22 => ?_)
  refine j_aload0 (pc := 25) h dX8_link_25 ?_
  refine j_iload1 (pc := 26) h dX8_link_26 ?_
  refine j_iload2 (pc := 27) h dX8_link_27 ?_
  refine j_callV (pc := 28) h dX8_link_28 (k_X8_newName (f := i) (a := a) m hn) mv_X8_98 (f20) rfl rfl (by decide) (Nat.le_of_ble_eq_true rfl) (Nat.le_of_ble_eq_true rfl) (Nat.le_of_ble_eq_true rfl) (fun v28 ad28 C28 hp28 => ?_)
  obtain ⟨rfl, rfl, h1, h2⟩ := hp28
  refine j_goto (pc := 31) (tgt := 35) h dX8_link_31 (by decide) ?_
  refine j_iret (pc := 35) h dX8_link_35 (⟨rfl, rfl, ⟨τ, h1⟩, h2⟩)
theorem k_X8_unlink_no {x : Int32} (m : MW g ad σ τ C) (hI : Inv σ) (hx : inN x σ.nn = false ∨ ∃ k, k < σ.nn ∧ x = nI k ∧ σ.tb k = false) : Cr l g yX8_unlink cX8_unlink 2 (some .boolean) 3 [.ref (ad 20), .int x] ad C (.int (bI false)) := by
  obtain ⟨f20, f21, f22, f23, f24, f25, f26, f27, f28, f29, f30, f31, f32, f33, f34, f35, f36, f37, f38⟩ := id m
  obtain ⟨hf1, hf2, hfl, hnn, hnm, hno, hc1, hc2⟩ := id hI.le
  refine Ct_of [some (.ref (ad 20)), some (.int x)] (by decide) rfl rfl (Nat.le_of_ble_eq_true rfl) rfl rfl (fun X hX h => ?_)
  subst hX
  rcases hx with hx | ⟨k, hk, rfl, hx⟩
  · refine j_aload0 (pc := 0) h dX8_unlink_0 ?_
    refine j_iload1 (pc := 1) h dX8_unlink_1 ?_
    refine j_callVr (pc := 2) h dX8_unlink_2 (k_X8_of_no m hI hx) mv_X8_102 (f20) rfl rfl (by decide) (Nat.le_of_ble_eq_true rfl) (Nat.le_of_ble_eq_true rfl) (Nat.le_of_ble_eq_true rfl) ?_
    refine j_iconst (pc := 5) h dX8_unlink_5 ic_m1 ?_
    refine j_icmp_ne (pc := 6) (tgt := 11) h dX8_unlink_6 (by decide) (fun c6 => absurd (rfl) c6) (fun c6 => ?_)
    refine j_iconst (pc := 9) h dX8_unlink_9 ic_0 ?_
    refine j_zretr (pc := 10) h dX8_unlink_10 (by decide) (rfl)
  · refine j_aload0 (pc := 0) h dX8_unlink_0 ?_
    refine j_iload1 (pc := 1) h dX8_unlink_1 ?_
    refine j_callVr (pc := 2) h dX8_unlink_2 (k_X8_of m hI hk) mv_X8_102 (f20) rfl rfl (by decide) (Nat.le_of_ble_eq_true rfl) (Nat.le_of_ble_eq_true rfl) (Nat.le_of_ble_eq_true rfl) ?_
    refine j_iconst (pc := 5) h dX8_unlink_5 ic_m1 ?_
    refine j_icmp_ne (pc := 6) (tgt := 11) h dX8_unlink_6 (by decide) (fun c6 => absurd (by rw [hx]; rfl) c6) (fun c6 => ?_)
    refine j_iconst (pc := 9) h dX8_unlink_9 ic_0 ?_
    refine j_zretr (pc := 10) h dX8_unlink_10 (by decide) (rfl)
theorem k_X8_unlink {k : Nat} (m : MW g ad σ τ C) (hI : Inv σ) (hk : k < σ.nn) (hx : σ.tb k = true) : Ct l g yX8_unlink cX8_unlink 2 (some .boolean) 3 0 0 [.ref (ad 20), .int (nI k)] ad C (PMo g ad C (.int (bI true)) (sUn σ k)) := by
  obtain ⟨f20, f21, f22, f23, f24, f25, f26, f27, f28, f29, f30, f31, f32, f33, f34, f35, f36, f37, f38⟩ := id m
  obtain ⟨hf1, hf2, hfl, hnn, hnm, hno, hc1, hc2⟩ := id hI.le
  have hfk := (hI.nam k hk).1
  refine Ct_of [some (.ref (ad 20)), some (.int (nI k))] (by decide) rfl rfl (Nat.le_of_ble_eq_true rfl) rfl rfl (fun X hX h => ?_)
  subst hX
  refine j_aload0 (pc := 0) h dX8_unlink_0 ?_
  refine j_iload1 (pc := 1) h dX8_unlink_1 ?_
  refine j_callVr (pc := 2) h dX8_unlink_2 (k_X8_of m hI hk) mv_X8_102 (f20) rfl rfl (by decide) (Nat.le_of_ble_eq_true rfl) (Nat.le_of_ble_eq_true rfl) (Nat.le_of_ble_eq_true rfl) ?_
  refine j_iconst (pc := 5) h dX8_unlink_5 ic_m1 ?_
  refine j_icmp_ne (pc := 6) (tgt := 11) h dX8_unlink_6 (by decide) (fun c6 => ?_) (fun c6 => absurd c6 (by rw [if_pos hx]; exact nI_m1 (by omega)))
  refine j_aload0 (pc := 11) h dX8_unlink_11 ?_
  refine j_getf (pc := 12) h dX8_unlink_12 (f20) fl_X8_45 rfl ?_
  refine j_iload1 (pc := 15) h dX8_unlink_15 ?_
  refine j_iconst (pc := 16) h dX8_unlink_16 ic_0 ?_
  refine j_zast (pc := 17) h dX8_unlink_17 (f31) (by omega) (by decide) (nar_0) ?_
  refine j_iconst (pc := 18) h dX8_unlink_18 ic_1 ?_
  refine j_zret (pc := 19) h dX8_unlink_19 (nar_1) (⟨rfl, rfl, ⟨τ, ⟨f20, f21, f22, f23, f24, f25, f26, f27, f28, f29, f30, eZ_c bF_up0, f32, f33, f34, f35, f36, f37, f38⟩⟩, frM_up (frM_rf C) (by decide) (by decide)⟩)
theorem k_X8_puts {i p : Nat} {c : Option Nat} (m : MW g ad σ τ C) (hI : Inv σ) (hi : i < σ.nfl) (hp : p < cpl (σ.ln i)) : Ct l g yX8_puts cX8_puts 4 none 1 0 0 [.ref (ad 20), .int (nI i), .int (nI p), .int (rI c)] ad C (fun r ad' C' => r = none ∧ ad' = ad ∧ MW g ad (sPu σ i p c) τ C' ∧ frM C C') := by
  obtain ⟨f20, f21, f22, f23, f24, f25, f26, f27, f28, f29, f30, f31, f32, f33, f34, f35, f36, f37, f38⟩ := id m
  obtain ⟨hf1, hf2, hfl, hnn, hnm, hno, hc1, hc2⟩ := id hI.le
  have hln := (hI.fil i hi).1
  have hp6 := cpl_le (σ.ln i)
  have hpl : p ≤ σ.ln i := by unfold cpl at hp; split at hp <;> omega
  refine Ct_of [some (.ref (ad 20)), some (.int (nI i)), some (.int (nI p)), some (.int (rI c))] (by decide) rfl rfl (Nat.le_of_ble_eq_true rfl) rfl rfl (fun X hX h => ?_)
  subst hX
  by_cases hq : p = σ.ln i
  · have e : (if p < σ.ln i then σ.ln i else p + 1) = σ.ln i + 1 := by rw [if_neg (by omega), hq]
    refine j_aload0 (pc := 0) h dX8_puts_0 ?_
    refine j_getf (pc := 1) h dX8_puts_1 (f20) fl_X8_27 rfl ?_
    refine j_bipush (pc := 4) h dX8_puts_4 bp_60 ?_
    refine j_iload1 (pc := 6) h dX8_puts_6 ?_
    refine j_imulN (pc := 7) h dX8_puts_7 ?_
    refine j_iload2 (pc := 8) h dX8_puts_8 ?_
    refine j_iaddN (pc := 9) h dX8_puts_9 ?_
    refine j_iload3 (pc := 10) h dX8_puts_10 ?_
    refine j_iast (pc := 11) h dX8_puts_11 (f25) (by omega) (by decide) ?_
    refine j_iload2 (pc := 12) h dX8_puts_12 ?_
    refine j_aload0 (pc := 13) h dX8_puts_13 ?_
    refine j_getf (pc := 14) h dX8_puts_14 (f20) fl_X8_24 rfl ?_
    refine j_iload1 (pc := 17) h dX8_puts_17 ?_
    refine j_iald (pc := 18) h dX8_puts_18 (f24) (by omega) (by decide) ?_
    refine j_icmp_ne (pc := 19) (tgt := 32) h dX8_puts_19 (by decide) (fun c19 => absurd (by rw [hq]) c19) (fun c19 => ?_)
    refine j_aload0 (pc := 22) h dX8_puts_22 ?_
    refine j_getf (pc := 23) h dX8_puts_23 (f20) fl_X8_24 rfl ?_
    refine j_iload1 (pc := 26) h dX8_puts_26 ?_
    refine j_dup2IR (pc := 27) h dX8_puts_27 ?_
    refine j_iald (pc := 28) h dX8_puts_28 (f24) (by omega) (by decide) ?_
    refine j_iconst (pc := 29) h dX8_puts_29 ic_1 ?_
    refine j_iaddN (pc := 30) h dX8_puts_30 ?_
    refine j_iast (pc := 31) h dX8_puts_31 (f24) (by omega) (by decide) ?_
    refine j_aload0 (pc := 32) h dX8_puts_32 ?_
    refine j_getf (pc := 33) h dX8_puts_33 (f20) fl_X8_36 rfl ?_
    refine j_iload1 (pc := 36) h dX8_puts_36 ?_
    refine j_aload0 (pc := 37) h dX8_puts_37 ?_
    refine j_getf (pc := 38) h dX8_puts_38 (f20) fl_X8_77 rfl ?_
    refine j_iast (pc := 41) h dX8_puts_41 (f28) (by omega) (by decide) ?_
    refine j_vret (pc := 42) h dX8_puts_42 (⟨rfl, rfl, ⟨f20, f21, f22, f23, eI_c (by show upd _ _ _ = fun j => nI (va_up σ.ln i (if p < σ.ln i then σ.ln i else p + 1) j); rw [e]; exact nF_up), eI_c rF_up, f26, f27, rfl, f29, f30, f31, f32, f33, f34, f35, f36, f37, f38⟩, frM_up (frM_up (frM_up (frM_rf C) (by decide) (by decide)) (by decide) (by decide)) (by decide) (by decide)⟩)
  · have e : va_up σ.ln i (if p < σ.ln i then σ.ln i else p + 1) = σ.ln := by
      rw [if_pos (by omega)]; funext j; by_cases h : j = i
      · subst h; rw [va_up_self]
      · rw [va_up_ne _ _ h]
    refine j_aload0 (pc := 0) h dX8_puts_0 ?_
    refine j_getf (pc := 1) h dX8_puts_1 (f20) fl_X8_27 rfl ?_
    refine j_bipush (pc := 4) h dX8_puts_4 bp_60 ?_
    refine j_iload1 (pc := 6) h dX8_puts_6 ?_
    refine j_imulN (pc := 7) h dX8_puts_7 ?_
    refine j_iload2 (pc := 8) h dX8_puts_8 ?_
    refine j_iaddN (pc := 9) h dX8_puts_9 ?_
    refine j_iload3 (pc := 10) h dX8_puts_10 ?_
    refine j_iast (pc := 11) h dX8_puts_11 (f25) (by omega) (by decide) ?_
    refine j_iload2 (pc := 12) h dX8_puts_12 ?_
    refine j_aload0 (pc := 13) h dX8_puts_13 ?_
    refine j_getf (pc := 14) h dX8_puts_14 (f20) fl_X8_24 rfl ?_
    refine j_iload1 (pc := 17) h dX8_puts_17 ?_
    refine j_iald (pc := 18) h dX8_puts_18 (f24) (by omega) (by decide) ?_
    refine j_icmp_ne (pc := 19) (tgt := 32) h dX8_puts_19 (by decide) (fun c19 => ?_) (fun c19 => absurd c19 (fun q => hq (nI_inj q (by omega) (by omega))))
    refine j_aload0 (pc := 32) h dX8_puts_32 ?_
    refine j_getf (pc := 33) h dX8_puts_33 (f20) fl_X8_36 rfl ?_
    refine j_iload1 (pc := 36) h dX8_puts_36 ?_
    refine j_aload0 (pc := 37) h dX8_puts_37 ?_
    refine j_getf (pc := 38) h dX8_puts_38 (f20) fl_X8_77 rfl ?_
    refine j_iast (pc := 41) h dX8_puts_41 (f28) (by omega) (by decide) ?_
    refine j_vret (pc := 42) h dX8_puts_42 (⟨rfl, rfl, ⟨f20, f21, f22, f23, by show C 24 = some (eI g 40 (fun j => nI (va_up σ.ln i (if p < σ.ln i then σ.ln i else p + 1) j))); rw [e]; exact f24, eI_c rF_up, f26, f27, rfl, f29, f30, f31, f32, f33, f34, f35, f36, f37, f38⟩, frM_up (frM_up (frM_rf C) (by decide) (by decide)) (by decide) (by decide)⟩)
end MWr

