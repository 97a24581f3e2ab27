/-! What every call keeps -/
theorem phole : ∀ (m n : Nat) (f : Nat → Nat), (∀ i, i < n → f i < m) → (∀ i j, i < j → j < n → f i ≠ f j) → n ≤ m
  | 0, n, f, h, _ => by
    cases n with
    | zero => exact Nat.le_refl 0
    | succ n => exact absurd (h 0 (by omega)) (by omega)
  | m + 1, n, f, h, hi => by
    cases n with
    | zero => omega
    | succ n =>
      have : n ≤ m := phole m n (fun i => if f i = m then f n else f i) (fun i q => by
        show (if f i = m then f n else f i) < m
        have h1 := h i (by omega)
        have h2 := h n (by omega)
        have h3 := hi i n q (by omega)
        by_cases e : f i = m
        · rw [if_pos e]; omega
        · rw [if_neg e]; omega) (fun i j q1 q2 => by
        show (if f i = m then f n else f i) ≠ (if f j = m then f n else f j)
        have h1 := hi i j q1 (by omega)
        have h2 := hi i n (by omega) (by omega)
        have h3 := hi j n q2 (by omega)
        by_cases e : f i = m
        · rw [if_pos e, if_neg (by omega)]; omega
        · rw [if_neg e]
          by_cases e2 : f j = m
          · rw [if_pos e2]; omega
          · rw [if_neg e2]; omega)
      omega
def itr (pr : Nat → Nat) : Nat → Nat → Nat
  | 0, j => j
  | n + 1, j => itr pr n (pr j)
theorem okc_0 {pr : Nat → Nat} {nf : Nat} : ∀ n, okc pr nf n 0
  | 0 => rfl
  | _ + 1 => Or.inl rfl
theorem okc_mono {pr : Nat → Nat} {nf : Nat} : ∀ {m n j : Nat}, okc pr nf m j → m ≤ n → okc pr nf n j
  | 0, n, j, h, _ => by obtain rfl : j = 0 := h; exact okc_0 n
  | m + 1, n, j, h, hmn => by
    obtain ⟨n', rfl⟩ : ∃ n', n = n' + 1 := ⟨n - 1, by omega⟩
    rcases h with h | ⟨h1, h2⟩
    · exact Or.inl h
    · exact Or.inr ⟨h1, okc_mono h2 (by omega)⟩
theorem okc_least {pr : Nat → Nat} {nf j : Nat} : ∀ {n : Nat}, okc pr nf n j → ∃ n0, okc pr nf n0 j ∧ ∀ m, m < n0 → ¬ okc pr nf m j
  | 0, h => ⟨0, h, fun m hm => by omega⟩
  | n + 1, h => by
    by_cases e : okc pr nf n j
    · exact okc_least e
    · exact ⟨n + 1, h, fun m hm q => e (okc_mono q (by omega))⟩
theorem okc_it {pr : Nat → Nat} {nf : Nat} : ∀ {i n j : Nat}, okc pr nf n j → j < nf → (∀ m, m < n → ¬ okc pr nf m j) → i ≤ n → okc pr nf (n - i) (itr pr i j) ∧ itr pr i j < nf
  | 0, n, j, h, hj, _, _ => ⟨h, hj⟩
  | i + 1, n, j, h, hj, hm, hi => by
    obtain ⟨n', rfl⟩ : ∃ n', n = n' + 1 := ⟨n - 1, by omega⟩
    rcases h with h | ⟨h1, h2⟩
    · exact absurd (show okc pr nf 0 j from h) (hm 0 (by omega))
    · have := okc_it (i := i) h2 h1 (fun m hm' q => hm (m + 1) (by omega) (Or.inr ⟨h1, q⟩)) (by omega)
      rw [show n' + 1 - (i + 1) = n' - i by omega]
      exact this
theorem okc_back {pr : Nat → Nat} {nf : Nat} (hpr : ∀ j, j < nf → j ≠ 0 → pr j < nf) : ∀ {i m j : Nat}, j < nf → okc pr nf m (itr pr i j) → okc pr nf (m + i) j
  | 0, m, j, _, h => h
  | i + 1, m, j, hj, h => by
    by_cases e : j = 0
    · subst e; exact okc_0 _
    · exact Or.inr ⟨hpr j hj e, okc_back hpr (i := i) (hpr j hj e) h⟩
theorem okc_ph {pr : Nat → Nat} {nf n j : Nat} (hpr : ∀ j, j < nf → j ≠ 0 → pr j < nf) (hn : nf ≤ 30) (hj : j < nf) (h : okc pr nf n j) : okc pr nf 29 j := by
  obtain ⟨n0, h0, hm⟩ := okc_least h
  have hit : ∀ i, i ≤ n0 → okc pr nf (n0 - i) (itr pr i j) ∧ itr pr i j < nf := fun i hi => okc_it h0 hj hm hi
  have := phole nf (n0 + 1) (fun i => itr pr i j) (fun i hi => (hit i (by omega)).2) (fun i k hik hk e => by
    have h1 := (hit k (by omega)).1
    rw [← (show itr pr i j = itr pr k j from e)] at h1
    exact hm (n0 - k + i) (by omega) (okc_back hpr hj h1))
  exact okc_mono h0 (by omega)
theorem Inv_go {σ : Sg} (hI : Inv σ) (i : Nat) : Inv (sGo σ i) := by
  obtain ⟨hf1, hf2, hfl, hnn, hnm, hno, hc1, hc2⟩ := hI.le
  exact ⟨⟨hf1, hf2, hfl, hnn, hnm, by show gw σ i ≤ 5000; unfold gw; split <;> omega, hc1, hc2⟩, hI.2⟩
theorem InvM_go {σ : Sg} (hI : Inv σ) (hM : InvM σ) (i : Nat) : InvM (sGo σ i) := by
  obtain ⟨hf1, hf2, hfl, hnn, hnm, hno, hc1, hc2⟩ := hI.le
  exact ⟨fun k hk => by
    have := hM.1 k hk
    show σ.md k ≤ gw σ i
    unfold gw; split <;> omega, hM.2⟩
theorem Inv_fo {σ : Sg} (hI : Inv σ) {a : Nat} {y : Int32} {b : Bool} (ha : a < σ.nf) (hf : σ.nf < 30) : Inv (sFo σ a y b) := by
  obtain ⟨hf1, hf2, hfl, hnn, hnm, hno, hc1, hc2⟩ := hI.le
  have hpr : ∀ j, j < σ.nf + 1 → j ≠ 0 → va_up σ.pr σ.nf a j < σ.nf + 1 := fun j hj h0 => by
    by_cases e : j = σ.nf
    · subst e; rw [up_eq]; omega
    · rw [va_up_ne _ _ e]; have := hI.pr j (by omega) h0; omega
  have ex : ∀ n j, okc σ.pr σ.nf n j → j < σ.nf → okc (va_up σ.pr σ.nf a) (σ.nf + 1) n j := by
    intro n
    induction n with
    | zero => intro j h _; exact h
    | succ n ih =>
      intro j h hj
      rcases h with h | ⟨h1, h2⟩
      · exact Or.inl h
      · refine Or.inr ?_
        rw [va_up_ne _ _ (by omega)]
        exact ⟨by omega, ih _ h2 h1⟩
  refine ⟨⟨by show 1 ≤ σ.nf + 1; omega, hf, hfl, hnn, hnm, hno, hc1, hc2⟩, fun j hj => ?_, hpr, fun k hk => ⟨(hI.nam k hk).1, Nat.lt_succ_of_lt (hI.nam k hk).2⟩, hI.2.2.2.2⟩
  have hj' : j < σ.nf + 1 := hj
  show okc (va_up σ.pr σ.nf a) (σ.nf + 1) 29 j
  by_cases e : j = σ.nf
  · refine okc_ph (n := 30) hpr (by omega) hj' (Or.inr ?_)
    rw [e, up_eq]
    exact ⟨by omega, ex 29 a (hI.ok a ha) ha⟩
  · exact ex 29 j (hI.ok j (by omega)) (by omega)
theorem Inv_mv {σ : Sg} (hI : Inv σ) {a c : Nat} (hc : c < σ.nf) (h0 : a ≠ 0) (hx : anc σ.pr 29 c a = false) : Inv (sMv σ a c) := by
  obtain ⟨hf1, hf2, hfl, hnn, hnm, hno, hc1, hc2⟩ := hI.le
  have hpr : ∀ j, j < σ.nf → j ≠ 0 → va_up σ.pr a c j < σ.nf := fun j hj q => by
    by_cases e : j = a
    · subst e; rw [up_eq]; exact hc
    · rw [va_up_ne _ _ e]; exact hI.pr j hj q
  have avoid : ∀ n j, okc σ.pr σ.nf n j → anc σ.pr n j a = false → okc (va_up σ.pr a c) σ.nf n j := by
    intro n
    induction n with
    | zero => intro j h _; exact h
    | succ n ih =>
      intro j h hA
      rcases h with h | ⟨h1, h2⟩
      · exact Or.inl h
      · by_cases hj0 : j = 0
        · exact Or.inl hj0
        · rw [anc, Bool.or_eq_false_iff] at hA
          have hja : j ≠ a := beq_eq_false_iff_ne.mp hA.1
          have hb : (j != 0) = true := bne_iff_ne.mpr hj0
          rw [hb, Bool.true_and] at hA
          refine Or.inr ?_
          rw [va_up_ne _ _ hja]
          exact ⟨h1, ih _ h2 hA.2⟩
  have hcc := avoid 29 c (hI.ok c hc) hx
  have ex : ∀ n j, okc σ.pr σ.nf n j → ∃ m, okc (va_up σ.pr a c) σ.nf m j := by
    intro n
    induction n with
    | zero => intro j h; exact ⟨0, h⟩
    | succ n ih =>
      intro j h
      by_cases e : j = a
      · refine ⟨30, Or.inr ?_⟩
        rw [e, up_eq]
        exact ⟨hc, hcc⟩
      · rcases h with h | ⟨h1, h2⟩
        · exact ⟨0, h⟩
        · obtain ⟨m, hm⟩ := ih _ h2
          refine ⟨m + 1, Or.inr ?_⟩
          rw [va_up_ne _ _ e]
          exact ⟨h1, hm⟩
  refine ⟨hI.1, fun j hj => ?_, hpr, hI.2.2.2⟩
  obtain ⟨m, hm⟩ := ex 29 j (hI.ok j hj)
  exact okc_ph hpr hf2 hj hm
theorem Inv_na {σ : Sg} (hI : Inv σ) {f a : Nat} (hf : f < σ.nfl) (ha : a < σ.nf) (hn : σ.nn < 100) : Inv (sNa σ f a) := by
  obtain ⟨hf1, hf2, hfl, hnn, hnm, hno, hc1, hc2⟩ := hI.le
  refine ⟨⟨hf1, hf2, hfl, hn, hnm, hno, hc1, hc2⟩, hI.2.1, hI.2.2.1, fun k hk => ?_, hI.2.2.2.2⟩
  have hk' : k < σ.nn + 1 := hk
  show va_up σ.fl σ.nn f k < σ.nfl ∧ va_up σ.ni σ.nn a k < σ.nf
  by_cases e : k = σ.nn
  · subst e; rw [up_eq, up_eq]; exact ⟨hf, ha⟩
  · rw [va_up_ne _ _ e, va_up_ne _ _ e]; exact hI.nam k (by omega)
theorem Inv_nw {σ : Sg} (hI : Inv σ) {y : Int32} {wv a L : Nat} {rb : Nat → Option Nat} (hf : σ.nfl < 40) (ha : a < σ.nf) (hn : σ.nn < 100) (hy : inN y 6 = true) (hw : wv ≤ 999) (hL : L ≤ 60) (hrb : ∀ q b, rb q = some b → b < 60) : Inv (sNw σ y wv a L rb) := by
  obtain ⟨hf1, hf2, hfl, hnn, hnm, hno, hc1, hc2⟩ := hI.le
  refine ⟨⟨hf1, hf2, hf, hn, hnm, hno, hc1, hc2⟩, hI.2.1, hI.2.2.1, fun k hk => ?_, fun i hi => ?_, fun i hi => ?_, hrb, hI.sh⟩
  · have hk' : k < σ.nn + 1 := hk
    show va_up σ.fl σ.nn σ.nfl k < σ.nfl + 1 ∧ va_up σ.ni σ.nn a k < σ.nf
    by_cases e : k = σ.nn
    · subst e; rw [up_eq, up_eq]; exact ⟨by omega, ha⟩
    · rw [va_up_ne _ _ e, va_up_ne _ _ e]; have := hI.nam k (by omega); exact ⟨by omega, this.2⟩
  · have hi' : i < σ.nfl + 1 := hi
    show va_up σ.ln σ.nfl L i ≤ 60 ∧ va_up σ.wo σ.nfl wv i ≤ 999 ∧ inN (va_up σ.ow σ.nfl y i) 6 = true
    by_cases e : i = σ.nfl
    · subst e; rw [up_eq, up_eq, up_eq]; exact ⟨hL, hw, hy⟩
    · rw [va_up_ne _ _ e, va_up_ne _ _ e, va_up_ne _ _ e]; exact hI.fil i (by omega)
  · have hi' : σ.nfl + 1 ≤ i := hi
    show va_up σ.ln σ.nfl L i = 0
    rw [va_up_ne _ _ (by omega)]; exact hI.ln0 i (by omega)
theorem Inv_st {σ : Sg} (hI : Inv σ) {i L : Nat} {rb : Nat → Option Nat} (hi : i < σ.nfl) (hL : L ≤ 60) (hrb : ∀ q b, rb q = some b → b < 60) : Inv (sSt σ i L rb) := by
  refine ⟨hI.1, hI.2.1, hI.2.2.1, hI.2.2.2.1, fun k hk => ?_, fun k hk => ?_, hrb, hI.sh⟩
  · have h1 := hI.fil k hk
    show va_up σ.ln i L k ≤ 60 ∧ _
    by_cases e : k = i
    · subst e; rw [up_eq]; exact ⟨hL, h1.2⟩
    · rw [va_up_ne _ _ e]; exact h1
  · have hk' : σ.nfl ≤ k := hk
    show va_up σ.ln i L k = 0
    rw [va_up_ne _ _ (by omega)]; exact hI.ln0 k hk'
theorem Inv_fi {σ : Sg} (hI : Inv σ) {y : Int32} {wv a : Nat} (hf : σ.nfl < 40) (ha : a < σ.nf) (hn : σ.nn < 100) (hy : inN y 6 = true) (hw : wv ≤ 999) : Inv (sNa (sFi σ y wv) σ.nfl a) := by
  rw [← sNw_fi hI]
  exact Inv_nw hI hf ha hn hy hw (by omega) hI.blk
theorem Inv_cp {σ : Sg} (hI : Inv σ) {f a : Nat} (hff : f < σ.nfl) (hf : σ.nfl < 40) (ha : a < σ.nf) (hn : σ.nn < 100) : Inv (sCp σ f a) := by
  have h1 := hI.fil f hff
  refine Inv_nw (L := σ.ln f) (rb := rbC σ.rb f σ.nfl 60) hI hf ha hn h1.2.2 h1.2.1 h1.1 (fun q b h => ?_)
  unfold rbC at h
  by_cases e : 60 * σ.nfl ≤ q ∧ q < 60 * σ.nfl + 60
  · rw [if_pos e] at h; exact hI.blk _ b h
  · rw [if_neg e] at h; exact hI.blk _ b h
theorem Inv_pu {σ : Sg} (hI : Inv σ) {i p : Nat} {c : Option Nat} (hi : i < σ.nfl) (hp : p < cpl (σ.ln i)) (hc : ∀ b, c = some b → b < 60) : Inv (sPu σ i p c) := by
  have hp6 := cpl_le (σ.ln i)
  have h1 := hI.fil i hi
  refine Inv_st (rb := va_up σ.rb (60 * i + p) c) hI hi (by split <;> omega) (fun q b h => ?_)
  by_cases e : q = 60 * i + p
  · subst e; rw [up_eq] at h; exact hc b h
  · rw [va_up_ne _ _ e] at h; exact hI.blk _ b h
theorem Inv_cu {σ : Sg} (hI : Inv σ) {i n : Nat} (hi : i < σ.nfl) (hn : n ≤ σ.ln i) : Inv (sCu σ i n) := by
  have h1 := hI.fil i hi
  exact Inv_st (rb := σ.rb) hI hi (by omega) hI.blk
theorem Inv_sn {σ : Sg} (hI : Inv σ) (a : Nat) : Inv (sSn σ a) := by
  refine ⟨hI.1, hI.2.1, hI.2.2.1, hI.2.2.2.1, hI.2.2.2.2.1, hI.2.2.2.2.2.1, hI.2.2.2.2.2.2.1, fun s => ?_⟩
  show lo60 (va_up σ.sh a (allS σ) s)
  by_cases e : s = a
  · subst e; rw [up_eq]; exact lo60_all hI
  · rw [va_up_ne _ _ e]; exact hI.sh s
theorem Inv_ma {σ : Sg} (hI : Inv σ) (hn : σ.nm < 20) : Inv (sMa σ) := Inv_mk hI hn 30
theorem InvM_ma {σ : Sg} (hI : Inv σ) (hM : InvM σ) : InvM (sMa σ) := by
  obtain ⟨m1, m2, m3, m4⟩ := hM
  refine ⟨fun k hk => ?_, fun k hk => ?_, fun q hq => ?_, fun q => ?_⟩
  · have hk' : k < σ.nm + 1 := hk
    show va_up σ.md σ.nm σ.now k ≤ σ.now
    by_cases e : k = σ.nm
    · subst e; rw [up_eq]; exact Nat.le_refl _
    · rw [va_up_ne _ _ e]; exact m1 k (by omega)
  · have hk' : k + 1 < σ.nm + 1 := hk
    show va_up σ.md σ.nm σ.now k ≤ va_up σ.md σ.nm σ.now (k + 1)
    rw [va_up_ne _ _ (show k ≠ σ.nm by omega)]
    by_cases e : k + 1 = σ.nm
    · rw [e, up_eq]; exact m1 k (by omega)
    · rw [va_up_ne _ _ e]; exact m2 k (by omega)
  · have hq' : 30 * (σ.nm + 1) ≤ q := hq
    show mkT σ 30 q = 0
    unfold mkT
    rw [if_neg (by omega)]; exact m3 q (by omega)
  · show mkT σ 30 q ≤ 64
    unfold mkT
    have := tkS_le σ (q - 30 * σ.nm)
    split
    · split <;> omega
    · exact m4 q
theorem Inv_ho {σ : Sg} (hI : Inv σ) {n : Nat} (h1 : 1 ≤ n) (h2 : n ≤ 60) : Inv (sHo σ n) := by
  obtain ⟨hf1, hf2, hfl, hnn, hnm, hno, hc1, hc2⟩ := hI.le
  exact ⟨⟨hf1, hf2, hfl, hnn, hnm, hno, h1, h2⟩, hI.2⟩

