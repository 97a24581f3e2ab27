/-! The reference: largest, full -/
theorem cnt_lt {p q : Nat → Bool} : ∀ {n k : Nat}, (∀ i, i < n → p i = true → q i = true) → k < n → p k = false → q k = true → cnt p n < cnt q n
  | 0, k, _, hk, _, _ => absurd hk (Nat.not_lt_zero k)
  | n + 1, k, h, hk, hp, hq => by
    have hm : ∀ {m : Nat}, m ≤ n + 1 → cnt p m ≤ cnt q m := by
      intro m hm
      induction m with
      | zero => exact Nat.le_refl _
      | succ m ih =>
        have := ih (by omega)
        rw [cnt, cnt]
        cases e : p m with
        | false => simp; split <;> omega
        | true => rw [h m (by omega) e]; simp; omega
    rw [cnt, cnt]
    rcases Nat.lt_or_ge k n with z | z
    · have := cnt_lt (n := n) (k := k) (fun i hi => h i (by omega)) z hp hq
      cases e : p n with
      | false => simp; split <;> omega
      | true => rw [h n (by omega) e]; simp; omega
    · obtain rfl : k = n := by omega
      have := hm (m := k) (by omega)
      rw [hp, hq]; simp; omega
/-- i's rank among p by size, then number -/
def rk (p : Nat → Bool) (sz : Nat → Nat) (n i : Nat) : Nat := cnt (fun j => p j && ahd sz i j) n
theorem ahd_tri {sz : Nat → Nat} {i j : Nat} (h : i ≠ j) : ahd sz i j = true ∨ ahd sz j i = true := by
  simp [ahd]
  omega
theorem ahd_lt {p : Nat → Bool} {sz : Nat → Nat} {n i j : Nat} (hj : j < n) (hp : p j = true) (h : ahd sz i j = true) : rk p sz n j < rk p sz n i := by
  refine cnt_lt (k := j) (fun q hq hh => ?_) hj ?_ ?_
  · simp [ahd] at hh h ⊢
    refine ⟨hh.1, ?_⟩
    omega
  · simp [ahd]
  · rw [hp, h]; rfl
theorem rk_inj {p : Nat → Bool} {sz : Nat → Nat} {n i j : Nat} (hi : i < n) (hj : j < n) (hpi : p i = true) (hpj : p j = true) (h : rk p sz n i = rk p sz n j) : i = j := by
  rcases Nat.decEq i j with q | q
  · rcases ahd_tri (sz := sz) q with z | z
    · have := ahd_lt hj hpj z; omega
    · have := ahd_lt hi hpi z; omega
  · exact q
theorem rnk_none {p : Nat → Bool} {a : Nat → Nat} {x : Int32} : ∀ {m i : Nat}, (∀ j, i ≤ j → j < i + m → p j = true → ¬ nI (a j) = x) → rnk p a x i m = -1
  | 0, _, _ => rfl
  | m + 1, i, h => by
    rw [rnk, if_neg (fun q => h i (by omega) (by omega) q.1 q.2)]
    exact rnk_none (fun j h1 h2 => h j (by omega) (by omega))
theorem rnk_hit {p : Nat → Bool} {a : Nat → Nat} {x : Int32} {f : Nat} (hp : p f = true) (ha : nI (a f) = x) : ∀ {m i : Nat}, i ≤ f → f < i + m → (∀ j, i ≤ j → j < f → p j = true → ¬ nI (a j) = x) → rnk p a x i m = nI f
  | 0, i, h1, h2, _ => by omega
  | m + 1, i, h1, h2, h => by
    rcases Nat.lt_or_ge i f with z | z
    · rw [rnk, if_neg (fun q => h i (by omega) z q.1 q.2)]
      exact rnk_hit hp ha (by omega) (by omega) (fun j h3 h4 => h j (by omega) h4)
    · obtain rfl : i = f := by omega
      rw [rnk, if_pos ⟨hp, ha⟩]
/-- those that come ahead of place f in the round of size z -/
def cz (p : Nat → Bool) (sz : Nat → Nat) (n z f : Nat) : Nat := cnt (fun j => p j && (decide (z < sz j) || (decide (sz j = z) && decide (j < f)))) n
theorem cz_rk {p : Nat → Bool} {sz : Nat → Nat} {n f : Nat} : cz p sz n (sz f) f = rk p sz n f := by
  unfold cz rk
  refine cnt_cong (fun j _ => ?_)
  simp [ahd]
theorem cnt_up {p q : Nat → Bool} {f : Nat} : ∀ {n : Nat}, f < n → (∀ j, j ≠ f → p j = q j) → p f = false → q f = true → cnt q n = cnt p n + 1
  | 0, h, _, _, _ => absurd h (Nat.not_lt_zero f)
  | n + 1, h, he, hp, hq => by
    rw [cnt, cnt]
    rcases Nat.lt_or_ge f n with z | z
    · rw [cnt_up z he hp hq, he n (by omega)]; omega
    · obtain rfl : f = n := by omega
      rw [hp, hq, cnt_cong (p := q) (q := p) (fun k hk => (he k (by omega)).symm)]; simp
theorem cz_y {p : Nat → Bool} {sz : Nat → Nat} {n z f : Nat} (hf : f < n) (hp : p f = true) (hs : sz f = z) : cz p sz n z (f + 1) = cz p sz n z f + 1 := by
  refine cnt_up hf (fun j hj => ?_) ?_ ?_
  · have : j < f + 1 ↔ j < f := by omega
    simp [this]
  · simp [hs]
  · simp [hp, hs]
theorem cz_n {p : Nat → Bool} {sz : Nat → Nat} {n z f : Nat} (h : ¬ (p f = true ∧ sz f = z)) : cz p sz n z (f + 1) = cz p sz n z f := by
  refine cnt_cong (fun j _ => ?_)
  by_cases hj : j = f
  · subst hj
    cases e : p j with
    | false => simp
    | true =>
      have : ¬ sz j = z := fun q => h ⟨e, q⟩
      simp [this]
  · have : j < f + 1 ↔ j < f := by omega
    simp [this]
theorem cz_d {p : Nat → Bool} {sz : Nat → Nat} {n z : Nat} : cz p sz n (z + 1) n = cz p sz n z 0 := by
  refine cnt_cong (fun j hj => ?_)
  congr 1
  rw [Bool.eq_iff_iff]
  simp [hj]
  omega
theorem dec_z (z : Nat) : nI z + Int32.ofInt (-1) = if z = 0 then -1 else nI (z - 1) := by
  cases z with
  | zero => decide
  | succ z => rw [if_neg (by omega)]; exact dec_n z
/-- sizes; the answer -/
def szS (σ : Sg) (i : Nat) : Nat := pcn (bk σ i)
def lgS (σ : Sg) (t : Nat) (x : Int32) : Int32 := rnk (fun i => isn σ i t) (rk (fun i => isn σ i t) (szS σ) σ.nfl) x 0 σ.nfl
theorem szS_le {σ : Sg} (hI : Inv σ) (i : Nat) : szS σ i ≤ 60 := by
  unfold szS
  rw [← p60_eq (lo60_bk hI i)]
  exact cnt_le _ _
section MP
variable {l : Launch} {g : GG} {ad : AD} {C : CC} {σ : Sg} {τ : Tm}
theorem k_X8_largest_no {x y : Int32} (m : MW g ad σ τ C) (hI : Inv σ) (hx : inN x σ.nf = false ∨ y < 0) : Cr l g yX8_largest cX8_largest 6 (some .int) 4 [.ref (ad 20), .int x, .int y] ad C (.int (-1)) := by
  obtain ⟨f20, f21, f22, f23, f24, f25, f26, f27, f28, f29, f30, f31, f32, f33, f34, f35, f36, f37, f38⟩ := id m
  obtain ⟨hf1, hf2, hfl, hnn, hnm, hno, hc1, hc2⟩ := id hI.le
  refine Ct_of [some (.ref (ad 20)), some (.int x), some (.int y), none, none, none] (by decide) rfl rfl (Nat.le_of_ble_eq_true rfl) rfl rfl (fun X hX h => ?_)
  subst hX
  refine j_aload0 (pc := 0) h dX8_largest_0 ?_
  refine j_iload1 (pc := 1) h dX8_largest_1 ?_
  refine j_callVr (pc := 2) h dX8_largest_2 (k_X8_isFolder m hI) mv_X8_80 (f20) rfl rfl (by decide) (Nat.le_of_ble_eq_true rfl) (Nat.le_of_ble_eq_true rfl) (Nat.le_of_ble_eq_true rfl) ?_
  refine j_if_eqB (pc := 5) (tgt := 12) h dX8_largest_5 (by decide) (fun c5 => ?_) (fun c5 => ?_)
  · refine j_iconst (pc := 12) h dX8_largest_12 ic_m1 ?_
    refine j_iretr (pc := 13) h dX8_largest_13 (rfl)
  · refine j_iload2 (pc := 8) h dX8_largest_8 ?_
    refine j_if_ge (pc := 9) (tgt := 14) h dX8_largest_9 (by decide) (fun c9 => absurd c9 (by rcases hx with hx|hx; exact absurd (hx.symm.trans c5) (by decide); rw [Int32.le_iff_toInt_le]; rw [Int32.lt_iff_toInt_lt] at hx; omega)) (fun c9 => ?_)
    refine j_iconst (pc := 12) h dX8_largest_12 ic_m1 ?_
    refine j_iretr (pc := 13) h dX8_largest_13 (rfl)
theorem k_X8_largest {t K : Nat} (m : MW g ad σ τ C) (hI : Inv σ) (ht : t < σ.nf) (hK : K < 2 ^ 31) : Cr l g yX8_largest cX8_largest 6 (some .int) 4 [.ref (ad 20), .int (nI t), .int (nI K)] ad C (.int (lgS σ t (nI K))) := by
  obtain ⟨f20, f21, f22, f23, f24, f25, f26, f27, f28, f29, f30, f31, f32, f33, f34, f35, f36, f37, f38⟩ := id m
  obtain ⟨hf1, hf2, hfl, hnn, hnm, hno, hc1, hc2⟩ := id hI.le
  refine Ct_of [some (.ref (ad 20)), some (.int (nI t)), some (.int (nI K)), none, none, none] (by decide) rfl rfl (Nat.le_of_ble_eq_true rfl) rfl rfl (fun X hX h => ?_)
  subst hX
  have hrl : ∀ j, rk (fun i => isn σ i t) (szS σ) σ.nfl j ≤ σ.nfl := fun j => cnt_le _ _
  have inn : ∀ z, z ≤ 60 → (∀ w, (∀ j, j < σ.nfl → isn σ j t = true → z ≤ szS σ j → rk (fun i => isn σ i t) (szS σ) σ.nfl j ≠ K) → K = cz (fun i => isn σ i t) (szS σ) σ.nfl z σ.nfl + w → J X g 6 (QR X g ad C (.int (lgS σ t (nI K)))) 0 0 ad C 80 [some (.ref (ad 20)), some (.int (nI t)), some (.int (nI K)), some (.int (nI w)), some (.int (nI z)), some (.int (nI σ.nfl))] []) →
      ∀ n f w, f + n = σ.nfl → (∀ j, j < σ.nfl → isn σ j t = true → (z < szS σ j ∨ (szS σ j = z ∧ j < f)) → rk (fun i => isn σ i t) (szS σ) σ.nfl j ≠ K) → K = cz (fun i => isn σ i t) (szS σ) σ.nfl z f + w → J X g 6 (QR X g ad C (.int (lgS σ t (nI K)))) 0 0 ad C 28 [some (.ref (ad 20)), some (.int (nI t)), some (.int (nI K)), some (.int (nI w)), some (.int (nI z)), some (.int (nI f))] [] := by
    intro z hz hend n
    induction n with
    | zero =>
      intro f w hf hno hw
      obtain rfl : f = σ.nfl := by omega
      refine j_iload5 (pc := 28) h dX8_largest_28 ?_
      refine j_aload0 (pc := 30) h dX8_largest_30 ?_
      refine j_getf (pc := 31) h dX8_largest_31 (f20) fl_X8_91 rfl ?_
      refine j_icmp_ge (pc := 34) (tgt := 80) h dX8_largest_34 (by decide) (fun c34 => ?_) (fun c34 => absurd (nI_le (by omega) (by omega)) c34)
      exact hend w (fun j hj hp hs => hno j hj hp (by omega)) hw
    | succ n ih =>
      intro f w hf hno hw
      have hs := szS_le hI f
      have nx : ¬ (isn σ f t = true ∧ szS σ f = z) → J X g 6 (QR X g ad C (.int (lgS σ t (nI K)))) 0 0 ad C 74 [some (.ref (ad 20)), some (.int (nI t)), some (.int (nI K)), some (.int (nI w)), some (.int (nI z)), some (.int (nI f))] [] := by
        intro hq
        refine j_iinc5 (pc := 74) h dX8_largest_74 rfl (inc_n _) ?_
        refine j_goto (pc := 77) (tgt := 28) h dX8_largest_77 (by decide) ?_
        refine ih (f + 1) w (by omega) (fun j hj hp hc => hno j hj hp ?_) (by rw [cz_n hq]; exact hw)
        rcases hc with hc | hc
        · exact Or.inl hc
        · rcases Nat.lt_or_ge j f with h1 | h1
          · exact Or.inr ⟨hc.1, h1⟩
          · obtain rfl : j = f := by omega
            exact absurd ⟨hp, hc.1⟩ hq
      refine j_iload5 (pc := 28) h dX8_largest_28 ?_
      refine j_aload0 (pc := 30) h dX8_largest_30 ?_
      refine j_getf (pc := 31) h dX8_largest_31 (f20) fl_X8_91 rfl ?_
      refine j_icmp_ge (pc := 34) (tgt := 80) h dX8_largest_34 (by decide) (fun c34 => absurd c34 (nI_ge (by omega) (by omega))) (fun c34 => ?_)
      refine j_aload0 (pc := 37) h dX8_largest_37 ?_
      refine j_iload5 (pc := 38) h dX8_largest_38 ?_
      refine j_iload1 (pc := 40) h dX8_largest_40 ?_
      refine j_callVr (pc := 41) h dX8_largest_41 (k_X8_isIn m hI (by omega) ht) mv_X8_137 (f20) rfl rfl (by decide) (Nat.le_of_ble_eq_true rfl) (Nat.le_of_ble_eq_true rfl) (Nat.le_of_ble_eq_true rfl) ?_
      refine j_if_eqB (pc := 44) (tgt := 74) h dX8_largest_44 (by decide) (fun c44 => ?_) (fun c44 => ?_)
      · exact nx (fun q => by rw [c44] at q; cases q.1)
      · refine j_aload0 (pc := 47) h dX8_largest_47 ?_
        refine j_iload5 (pc := 48) h dX8_largest_48 ?_
        refine j_callVr (pc := 50) h dX8_largest_50 (k_X8_blocksOf m hI (by omega)) mv_X8_112 (f20) rfl rfl (by decide) (Nat.le_of_ble_eq_true rfl) (Nat.le_of_ble_eq_true rfl) (Nat.le_of_ble_eq_true rfl) ?_
        refine j_callSr (pc := 53) h dX8_largest_53 (k_X8_bits' (lo60_bk hI f)) ms_X8_126 rfl rfl (by decide) (Nat.le_of_ble_eq_true rfl) (Nat.le_of_ble_eq_true rfl) (Nat.le_of_ble_eq_true rfl) ?_
        refine j_iload4 (pc := 56) h dX8_largest_56 ?_
        refine j_icmp_eq (pc := 58) (tgt := 64) h dX8_largest_58 (by decide) (fun c58 => ?_) (fun c58 => ?_)
        · have he : szS σ f = z := nI_inj c58 (by show szS σ f < _; omega) (by omega)
          have hrk : cz (fun i => isn σ i t) (szS σ) σ.nfl z f = rk (fun i => isn σ i t) (szS σ) σ.nfl f := by rw [← he]; exact cz_rk
          cases w with
          | zero =>
            refine j_iload3 (pc := 64) h dX8_largest_64 ?_
            refine j_if_ne (pc := 65) (tgt := 71) h dX8_largest_65 (by decide) (fun c65 => absurd (rfl) c65) (fun c65 => ?_)
            refine j_iload5 (pc := 68) h dX8_largest_68 ?_
            refine j_iretr (pc := 70) h dX8_largest_70 ((rnk_hit (f := f) c44 (by rw [← hrk, show cz (fun i => isn σ i t) (szS σ) σ.nfl z f = K by omega]) (by omega) (by omega) (fun j h1 h2 hp hq => absurd (rk_inj (p := fun i => isn σ i t) (sz := szS σ) (n := σ.nfl) (i := j) (j := f) (by omega) (by omega) hp c44 (by have := nI_inj hq (by have := hrl j; omega) hK; omega)) (by omega))).symm)
          | succ w =>
            refine j_iload3 (pc := 64) h dX8_largest_64 ?_
            refine j_if_ne (pc := 65) (tgt := 71) h dX8_largest_65 (by decide) (fun c65 => ?_) (fun c65 => absurd c65 (nI_ne0 (by omega) (by omega)))
            refine j_iinc3 (pc := 71) h dX8_largest_71 rfl (dec_n w) ?_
            refine j_iinc5 (pc := 74) h dX8_largest_74 rfl (inc_n _) ?_
            refine j_goto (pc := 77) (tgt := 28) h dX8_largest_77 (by decide) ?_
            refine ih (f + 1) w (by omega) (fun j hj hp hc => ?_) (by rw [cz_y (p := fun i => isn σ i t) (by omega) c44 he]; omega)
            rcases hc with hc | hc
            · exact hno j hj hp (Or.inl hc)
            · rcases Nat.lt_or_ge j f with h1 | h1
              · exact hno j hj hp (Or.inr ⟨hc.1, h1⟩)
              · obtain rfl : j = f := by omega
                rw [← hrk]; omega
        · refine j_goto (pc := 61) (tgt := 74) h dX8_largest_61 (by decide) ?_
          exact nx (fun q => c58 (by rw [← q.2]; rfl))
  have out : ∀ q w, q ≤ 61 → (∀ j, j < σ.nfl → isn σ j t = true → q ≤ szS σ j → rk (fun i => isn σ i t) (szS σ) σ.nfl j ≠ K) → (∀ z, q = z + 1 → K = cz (fun i => isn σ i t) (szS σ) σ.nfl z 0 + w) → ∀ u, J X g 6 (QR X g ad C (.int (lgS σ t (nI K)))) 0 0 ad C 20 [some (.ref (ad 20)), some (.int (nI t)), some (.int (nI K)), some (.int (nI w)), some (.int (if q = 0 then -1 else nI (q - 1))), u] [] := by
    intro q
    induction q with
    | zero =>
      intro w hq hno hw u
      rw [if_pos rfl]
      refine j_iload4 (pc := 20) h dX8_largest_20 ?_
      refine j_if_lt (pc := 22) (tgt := 86) h dX8_largest_22 (by decide) (fun c22 => ?_) (fun c22 => absurd (by decide) c22)
      refine j_iconst (pc := 86) h dX8_largest_86 ic_m1 ?_
      refine j_iretr (pc := 87) h dX8_largest_87 ((rnk_none (fun j h1 h2 hp hq => hno j (by omega) hp (by omega) (nI_inj hq (by have := hrl j; omega) hK))).symm)
    | succ z ih =>
      intro w hq hno hw u
      rw [if_neg (by omega), show z + 1 - 1 = z from rfl]
      refine j_iload4 (pc := 20) h dX8_largest_20 ?_
      refine j_if_lt (pc := 22) (tgt := 86) h dX8_largest_22 (by decide) (fun c22 => absurd c22 (nI_pos (by omega))) (fun c22 => ?_)
      refine j_iconst (pc := 25) h dX8_largest_25 ic_0 ?_
      refine j_istore5 (pc := 26) h dX8_largest_26 rfl ?_
      refine inn z (by omega) (fun w' hno' hw' => ?_) σ.nfl 0 w (by omega) (fun j hj hp hc => hno j hj hp (by omega)) (hw z rfl)
      refine j_iinc4 (pc := 80) h dX8_largest_80 rfl (dec_z z) ?_
      refine j_goto (pc := 83) (tgt := 20) h dX8_largest_83 (by decide) ?_
      refine ih w' (by omega) (fun j hj hp hc => hno' j hj hp hc) (fun y hy => ?_) _
      subst hy
      rw [← cz_d]
      exact hw'
  have h60 : cz (fun i => isn σ i t) (szS σ) σ.nfl 60 0 = 0 := by
    unfold cz
    have e : ∀ n, cnt (fun j => isn σ j t && (decide (60 < szS σ j) || (decide (szS σ j = 60) && decide (j < 0)))) n = 0 := by
      intro n
      induction n with
      | zero => rfl
      | succ n ih => rw [cnt_f (by have := szS_le hI n; simp; omega), ih]
    exact e _
  refine j_aload0 (pc := 0) h dX8_largest_0 ?_
  refine j_iload1 (pc := 1) h dX8_largest_1 ?_
  refine j_callVr (pc := 2) h dX8_largest_2 (k_X8_isFolder m hI) mv_X8_80 (f20) rfl rfl (by decide) (Nat.le_of_ble_eq_true rfl) (Nat.le_of_ble_eq_true rfl) (Nat.le_of_ble_eq_true rfl) ?_
  refine j_if_eqB (pc := 5) (tgt := 12) h dX8_largest_5 (by decide) (fun c5 => absurd c5 (by rw [inN_nI (by omega)]; simp; omega)) (fun c5 => ?_)
  refine j_iload2 (pc := 8) h dX8_largest_8 ?_
  refine j_if_ge (pc := 9) (tgt := 14) h dX8_largest_9 (by decide) (fun c9 => ?_) (fun c9 => absurd (nI_pos' hK) c9)
  refine j_iload2 (pc := 14) h dX8_largest_14 ?_
  refine j_istore3 (pc := 15) h dX8_largest_15 rfl ?_
  refine j_bipush (pc := 16) h dX8_largest_16 bp_60 ?_
  refine j_istore4 (pc := 18) h dX8_largest_18 rfl ?_
  exact out 61 K (by omega) (fun j hj hp hs => by have := szS_le hI j; omega) (fun z hz => by obtain rfl : z = 60 := (by omega); omega) none
end MP

