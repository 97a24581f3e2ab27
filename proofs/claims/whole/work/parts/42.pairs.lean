/-! Class and reference, call by call: the same answer, the same new state -/
def Two (l : Launch) (g : GG) (yC : MethodName) (cC : ByteArray) (nC : Nat) (rC : Option FieldType) (dC : Nat) (yR : MethodName) (cR : ByteArray) (nR : Nat) (rR : Option FieldType) (dR : Nat) (args : List Value) (σ : Sg) : Prop :=
  ∃ (v : Int32) (σ' : Sg) (mc ms : Nat), mc ≤ 2 ∧ ms ≤ 66 ∧ Inv σ' ∧ InvM σ' ∧ (∀ {ad : AD} {C : CC} {ρ : Rm}, CW g ad σ ρ C → Ct l g yC cC nC rC dC mc ms (.ref (ad 0) :: args) ad C (PCl g ad C (.int v) σ')) ∧ (∀ {ad : AD} {C : CC} {τ : Tm}, MW g ad σ τ C → Ct l g yR cR nR rR dR 0 0 (.ref (ad 20) :: args) ad C (PMo g ad C (.int v) σ'))
section TW
variable {l : Launch} {g : GG} {yC yR : MethodName} {cC cR : ByteArray} {nC dC nR dR : Nat} {rC rR : Option FieldType} {args : List Value} {σ σ' : Sg} {v : Int32}
theorem two_r (hI : Inv σ) (hM : InvM σ) (hc : ∀ {ad : AD} {C : CC} {ρ : Rm}, CW g ad σ ρ C → Cr l g yC cC nC rC dC (.ref (ad 0) :: args) ad C (.int v)) (hr : ∀ {ad : AD} {C : CC} {τ : Tm}, MW g ad σ τ C → Cr l g yR cR nR rR dR (.ref (ad 20) :: args) ad C (.int v)) : Two l g yC cC nC rC dC yR cR nR rR dR args σ :=
  ⟨v, σ, 0, 0, by decide, by decide, hI, hM, fun w => (hc w).toC w, fun m => (hr m).toM m⟩
theorem two_m (hI : Inv σ) (hM : InvM σ) (hc : ∀ {ad : AD} {C : CC} {ρ : Rm}, CW g ad σ ρ C → Cr l g yC cC nC rC dC (.ref (ad 0) :: args) ad C (.int v)) (hr : ∀ {ad : AD} {C : CC} {τ : Tm}, MW g ad σ τ C → Ct l g yR cR nR rR dR 0 0 (.ref (ad 20) :: args) ad C (PMo g ad C (.int v) σ)) : Two l g yC cC nC rC dC yR cR nR rR dR args σ :=
  ⟨v, σ, 0, 0, by decide, by decide, hI, hM, fun w => (hc w).toC w, hr⟩
theorem two_w (hI : Inv σ') (hM : InvM σ') (hc : ∀ {ad : AD} {C : CC} {ρ : Rm}, CW g ad σ ρ C → Ct l g yC cC nC rC dC 0 0 (.ref (ad 0) :: args) ad C (PCl g ad C (.int v) σ')) (hr : ∀ {ad : AD} {C : CC} {τ : Tm}, MW g ad σ τ C → Ct l g yR cR nR rR dR 0 0 (.ref (ad 20) :: args) ad C (PMo g ad C (.int v) σ')) : Two l g yC cC nC rC dC yR cR nR rR dR args σ :=
  ⟨v, σ', 0, 0, by decide, by decide, hI, hM, hc, hr⟩
theorem two_n (hI : Inv σ') (hM : InvM σ') (hc : ∀ {ad : AD} {C : CC} {ρ : Rm}, CW g ad σ ρ C → Ct l g yC cC nC rC dC 2 66 (.ref (ad 0) :: args) ad C (PCl g ad C (.int v) σ')) (hr : ∀ {ad : AD} {C : CC} {τ : Tm}, MW g ad σ τ C → Ct l g yR cR nR rR dR 0 0 (.ref (ad 20) :: args) ad C (PMo g ad C (.int v) σ')) : Two l g yC cC nC rC dC yR cR nR rR dR args σ :=
  ⟨v, σ', 2, 66, by decide, by decide, hI, hM, hc, hr⟩
end TW
theorem least_f {p : Nat → Bool} : ∀ n, (∃ b, b < n ∧ p b = false ∧ ∀ c, c < b → p c = true) ∨ ∀ c, c < n → p c = true
  | 0 => Or.inr (fun c hc => absurd hc (Nat.not_lt_zero c))
  | n + 1 => by
    rcases least_f (p := p) n with ⟨b, h1, h2, h3⟩ | h
    · exact Or.inl ⟨b, by omega, h2, h3⟩
    · cases e : p n with
      | false => exact Or.inl ⟨n, by omega, e, h⟩
      | true =>
        refine Or.inr (fun c hc => ?_)
        by_cases q : c = n
        · subst q; exact e
        · exact h c (by omega)
theorem cnt_all {p : Nat → Bool} : ∀ {n : Nat}, (∀ c, c < n → p c = true) → cnt p n = n
  | 0, _ => rfl
  | n + 1, h => by rw [cnt_t (h n (by omega)), cnt_all (fun c hc => h c (by omega))]
theorem free_b {v : Int64} (h : pcn v < 60) : ∃ b, b < 60 ∧ v.toBitVec.getLsbD b = false ∧ ∀ c, c < b → v.toBitVec.getLsbD c = true := by
  rcases least_f (p := fun i => v.toBitVec.getLsbD i) 60 with q | q
  · exact q
  · have h1 := cnt_all (p := fun i => v.toBitVec.getLsbD i) q
    have h2 := cnt_mono (p := fun i => v.toBitVec.getLsbD i) (n := 64) (j := 60) (by omega)
    unfold pcn at h
    omega
theorem rng_60 {x : Int32} (h : rng x (nI 1) (nI 60) = true) : ∃ n, 1 ≤ n ∧ n ≤ 60 ∧ x = nI n := by
  unfold rng at h
  rw [Bool.and_eq_true, decide_eq_true_eq, decide_eq_true_eq, Int32.le_iff_toInt_le, Int32.le_iff_toInt_le, nI_toInt (by decide), nI_toInt (by decide)] at h
  have h0 : ¬ x < 0 := by rw [lt0_iff]; omega
  obtain ⟨j, hj, rfl⟩ := nI_of h0
  rw [nI_toInt hj] at h
  exact ⟨j, by omega, by omega, rfl⟩
theorem lg_neg {σ : Sg} {t : Nat} {y : Int32} (hI : Inv σ) (h : y < 0) : lgS σ t y = -1 := by
  have hle := hI.le
  refine rnk_none (fun j _ _ _ q => ?_)
  rw [← q] at h
  exact nI_pos (by have : rk (fun i => isn σ i t) (szS σ) σ.nfl j ≤ σ.nfl := cnt_le _ _; omega) h
section TP
variable {l : Launch} {g : GG} {σ : Sg}
theorem p_go {x : Int32} (hI : Inv σ) (hM : InvM σ) : Two l g yX7_go cX7_go 2 (some .int) 2 yX8_go cX8_go 2 (some .int) 2 [.int x] σ := by
  rcases inN_cases x 501 with h | ⟨i, hi, rfl⟩
  · exact two_r hI hM (fun w => k_X7_go_no w h) (fun m => k_X8_go_no m h)
  · exact two_w (Inv_go hI i) (InvM_go hI hM i) (fun w => k_X7_go w hI (by omega)) (fun m => k_X8_go m hI (by omega))
theorem p_folder {x y : Int32} {b : Bool} (hI : Inv σ) (hM : InvM σ) : Two l g yX7_folder cX7_folder 4 (some .int) 3 yX8_folder cX8_folder 4 (some .int) 3 [.int x, .int y, .int (bI b)] σ := by
  cases h : (inN x σ.nf && inN y 6 && decide (σ.nf < 30)) with
  | false => exact two_r hI hM (fun w => k_X7_folder_no w hI h) (fun m => k_X8_folder_no m hI h)
  | true =>
    rw [Bool.and_eq_true, Bool.and_eq_true, decide_eq_true_eq] at h
    obtain ⟨⟨h1, h2⟩, h3⟩ := h
    obtain ⟨a, ha, rfl⟩ := inN_of h1
    exact two_w (Inv_fo hI ha h3) hM (fun w => k_X7_folder w hI ha h2 h3) (fun m => k_X8_folder m hI ha h2 h3)
theorem p_move {x y : Int32} (hI : Inv σ) (hM : InvM σ) : Two l g yX7_move cX7_move 3 (some .boolean) 3 yX8_move cX8_move 3 (some .boolean) 3 [.int x, .int y] σ := by
  rcases inN_cases x σ.nf with h | ⟨a, ha, rfl⟩
  · exact two_r hI hM (fun w => k_X7_move_no w hI (Or.inl h)) (fun m => k_X8_move_no m hI (Or.inl h))
  rcases inN_cases y σ.nf with h | ⟨c, hc, rfl⟩
  · exact two_r hI hM (fun w => k_X7_move_no w hI (Or.inr (Or.inl h))) (fun m => k_X8_move_no m hI (Or.inr (Or.inl h)))
  by_cases h0 : a = 0
  · subst h0
    exact two_r hI hM (fun w => k_X7_move_no w hI (Or.inr (Or.inr (Or.inl rfl)))) (fun m => k_X8_move_no m hI (Or.inr (Or.inr (Or.inl rfl))))
  cases h : anc σ.pr 29 c a with
  | true => exact two_r hI hM (fun w => k_X7_move_no w hI (Or.inr (Or.inr (Or.inr ⟨a, c, ha, hc, rfl, rfl, h⟩)))) (fun m => k_X8_move_no m hI (Or.inr (Or.inr (Or.inr ⟨a, c, ha, hc, rfl, rfl, h⟩))))
  | false => exact two_w (Inv_mv hI hc h0 h) hM (fun w => k_X7_move w hI ha hc h0 h) (fun m => k_X8_move m hI ha hc h0 h)
theorem p_file {x y z : Int32} (hI : Inv σ) (hM : InvM σ) : Two l g yX7_file cX7_file 4 (some .int) 4 yX8_file cX8_file 4 (some .int) 3 [.int x, .int y, .int z] σ := by
  cases h : (inN x σ.nf && inN y 6 && inN z 1000 && decide (σ.nfl < 40) && decide (σ.nn < 100)) with
  | false => exact two_r hI hM (fun w => k_X7_file_no w hI h) (fun m => k_X8_file_no m hI h)
  | true =>
    rw [Bool.and_eq_true, Bool.and_eq_true, Bool.and_eq_true, Bool.and_eq_true, decide_eq_true_eq, decide_eq_true_eq] at h
    obtain ⟨⟨⟨⟨h1, h2⟩, h3⟩, h4⟩, h5⟩ := h
    obtain ⟨a, ha, rfl⟩ := inN_of h1
    obtain ⟨c, hc, rfl⟩ := inN_of h3
    exact two_n (Inv_fi hI h4 ha h5 h2 (by omega)) hM (fun w => k_X7_file w hI ha h2 hc h4 h5) (fun m => Ct.mono (k_X8_file m hI ha h2 hc h4 h5) (fun r ad' C' hp => ⟨hp.1, hp.2.1, ⟨_, hp.2.2.1⟩, hp.2.2.2⟩))
theorem p_copy {x y : Int32} (hI : Inv σ) (hM : InvM σ) : Two l g yX7_copy cX7_copy 4 (some .int) 4 yX8_copy cX8_copy 6 (some .int) 4 [.int x, .int y] σ := by
  have hle := hI.le
  have no : (inN x σ.nn = false ∨ (∃ k, k < σ.nn ∧ x = nI k ∧ σ.tb k = false) ∨ inN y σ.nf = false ∨ σ.nfl = 40 ∨ σ.nn = 100) → Two l g yX7_copy cX7_copy 4 (some .int) 4 yX8_copy cX8_copy 6 (some .int) 4 [.int x, .int y] σ := fun h => two_r hI hM (fun w => k_X7_copy_no w hI h) (fun m => k_X8_copy_no m hI h)
  rcases inN_cases x σ.nn with h | ⟨k, hk, rfl⟩
  · exact no (Or.inl h)
  cases ht : σ.tb k with
  | false => exact no (Or.inr (Or.inl ⟨k, hk, rfl, ht⟩))
  | true =>
    rcases inN_cases y σ.nf with h | ⟨a, ha, rfl⟩
    · exact no (Or.inr (Or.inr (Or.inl h)))
    by_cases h4 : σ.nfl = 40
    · exact no (Or.inr (Or.inr (Or.inr (Or.inl h4))))
    by_cases h5 : σ.nn = 100
    · exact no (Or.inr (Or.inr (Or.inr (Or.inr h5))))
    exact two_n (Inv_cp hI (hI.nam k hk).1 (by omega) ha (by omega)) hM (fun w => k_X7_copy w hI hk ht ha (by omega) (by omega)) (fun m => k_X8_copy m hI hk ht ha (by omega) (by omega))
theorem p_link {x y : Int32} (hI : Inv σ) (hM : InvM σ) : Two l g yX7_link cX7_link 3 (some .int) 3 yX8_link cX8_link 3 (some .int) 3 [.int x, .int y] σ := by
  have hle := hI.le
  have no : (inN x σ.nfl = false ∨ (∃ i, i < σ.nfl ∧ x = nI i ∧ lv σ i = false) ∨ inN y σ.nf = false ∨ σ.nn = 100) → Two l g yX7_link cX7_link 3 (some .int) 3 yX8_link cX8_link 3 (some .int) 3 [.int x, .int y] σ := fun h => two_r hI hM (fun w => k_X7_link_no w hI h) (fun m => k_X8_link_no m hI h)
  rcases inN_cases x σ.nfl with h | ⟨i, hi, rfl⟩
  · exact no (Or.inl h)
  cases hl : lv σ i with
  | false => exact no (Or.inr (Or.inl ⟨i, hi, rfl, hl⟩))
  | true =>
    rcases inN_cases y σ.nf with h | ⟨a, ha, rfl⟩
    · exact no (Or.inr (Or.inr (Or.inl h)))
    by_cases h5 : σ.nn = 100
    · exact no (Or.inr (Or.inr (Or.inr h5)))
    exact two_w (Inv_na hI hi ha (by omega)) hM (fun w => k_X7_link w hI hi hl ha (by omega)) (fun m => k_X8_link m hI hi hl ha (by omega))
theorem p_unlink {x : Int32} (hI : Inv σ) (hM : InvM σ) : Two l g yX7_unlink cX7_unlink 3 (some .boolean) 2 yX8_unlink cX8_unlink 2 (some .boolean) 3 [.int x] σ := by
  rcases inN_cases x σ.nn with h | ⟨k, hk, rfl⟩
  · exact two_r hI hM (fun w => k_X7_unlink_no w hI (Or.inl h)) (fun m => k_X8_unlink_no m hI (Or.inl h))
  cases ht : σ.tb k with
  | false => exact two_r hI hM (fun w => k_X7_unlink_no w hI (Or.inr ⟨k, hk, rfl, ht⟩)) (fun m => k_X8_unlink_no m hI (Or.inr ⟨k, hk, rfl, ht⟩))
  | true => exact two_w (σ' := sUn σ k) hI hM (fun w => k_X7_unlink w hI hk ht) (fun m => k_X8_unlink m hI hk ht)
theorem p_of {x : Int32} (hI : Inv σ) (hM : InvM σ) : Two l g yX7_of cX7_of 2 (some .int) 2 yX8_of cX8_of 2 (some .int) 2 [.int x] σ := by
  rcases inN_cases x σ.nn with h | ⟨k, hk, rfl⟩
  · exact two_r hI hM (fun w => k_X7_of_no w hI h) (fun m => k_X8_of_no m hI h)
  · exact two_r hI hM (fun w => k_X7_of w hI hk) (fun m => k_X8_of m hI hk)
theorem plc_c {x y : Int32} (hI : Inv σ) : (inN x σ.nfl = false ∨ ∃ i, i < σ.nfl ∧ x = nI i ∧ (lv σ i && inN y (cpl (σ.ln i))) = false) ∨ ∃ i p, i < σ.nfl ∧ x = nI i ∧ lv σ i = true ∧ p < cpl (σ.ln i) ∧ y = nI p := by
  rcases inN_cases x σ.nfl with h | ⟨i, hi, rfl⟩
  · exact Or.inl (Or.inl h)
  cases h : (lv σ i && inN y (cpl (σ.ln i))) with
  | false => exact Or.inl (Or.inr ⟨i, hi, rfl, h⟩)
  | true =>
    rw [Bool.and_eq_true] at h
    obtain ⟨p, hp, rfl⟩ := inN_of h.2
    exact Or.inr ⟨i, p, hi, rfl, h.1, hp, rfl⟩
theorem p_write {x y : Int32} (hI : Inv σ) (hM : InvM σ) : Two l g yX7_write cX7_write 7 (some .int) 5 yX8_write cX8_write 6 (some .int) 4 [.int x, .int y] σ := by
  have hle := hI.le
  rcases plc_c (x := x) (y := y) hI with h | ⟨i, p, hi, rfl, hl, hp, rfl⟩
  · exact two_r hI hM (fun w => k_X7_write_no w hI h) (fun m => k_X8_write_no m hI h)
  by_cases hf : σ.cap ≤ pcn (had σ)
  · exact two_r hI hM (fun w => k_X7_write_fu w hI hi hl hp hf) (fun m => k_X8_write_fu m hI hi hl hp hf)
  obtain ⟨b, h1, h2, h3⟩ := free_b (v := had σ) (by omega)
  exact two_w (Inv_pu hI hi hp (fun b' q => by cases q; exact h1)) hM (fun w => k_X7_write w hI hi hl hp (by omega) h1 h2 h3) (fun m => k_X8_write m hI hi hl hp (by omega) h1 h2 h3)
theorem p_hole {x y : Int32} (hI : Inv σ) (hM : InvM σ) : Two l g yX7_hole cX7_hole 4 (some .boolean) 4 yX8_hole cX8_hole 3 (some .boolean) 4 [.int x, .int y] σ := by
  rcases plc_c (x := x) (y := y) hI with h | ⟨i, p, hi, rfl, hl, hp, rfl⟩
  · exact two_r hI hM (fun w => k_X7_hole_no w hI h) (fun m => k_X8_hole_no m hI h)
  exact two_w (Inv_pu hI hi hp (fun b' q => by cases q)) hM (fun w => k_X7_hole w hI hi hl hp) (fun m => k_X8_hole m hI hi hl hp)
theorem p_share {x y z u : Int32} (hI : Inv σ) (hM : InvM σ) : Two l g yX7_share cX7_share 8 (some .boolean) 4 yX8_share cX8_share 5 (some .boolean) 5 [.int x, .int y, .int z, .int u] σ := by
  rcases plc_c (x := x) (y := y) hI with h | ⟨i, p, hi, rfl, hl, hp, rfl⟩
  · exact two_r hI hM (fun w => k_X7_share_no w hI h) (fun m => k_X8_share_no m hI h)
  have no : (inN z σ.nfl = false ∨ (∃ j, j < σ.nfl ∧ z = nI j ∧ (lv σ j && inN u (σ.ln j)) = false) ∨ ∃ j q, j < σ.nfl ∧ lv σ j = true ∧ q < σ.ln j ∧ z = nI j ∧ u = nI q ∧ σ.rb (60 * j + q) = none) → Two l g yX7_share cX7_share 8 (some .boolean) 4 yX8_share cX8_share 5 (some .boolean) 5 [.int (nI i), .int (nI p), .int z, .int u] σ := fun h => two_r hI hM (fun w => k_X7_share_nb w hI hi hl hp h) (fun m => k_X8_share_nb m hI hi hl hp h)
  rcases inN_cases z σ.nfl with h | ⟨j, hj, rfl⟩
  · exact no (Or.inl h)
  cases h : (lv σ j && inN u (σ.ln j)) with
  | false => exact no (Or.inr (Or.inl ⟨j, hj, rfl, h⟩))
  | true =>
    rw [Bool.and_eq_true] at h
    obtain ⟨h1, h2⟩ := h
    obtain ⟨q, hq, rfl⟩ := inN_of h2
    cases hb : σ.rb (60 * j + q) with
    | none => exact no (Or.inr (Or.inr ⟨j, q, hj, h1, hq, rfl, rfl, hb⟩))
    | some b =>
      have hk : blkAt σ (nI j) (nI q) b := ⟨j, q, hj, h1, hq, rfl, rfl, hb⟩
      exact two_w (Inv_pu hI hi hp (fun b' e => by cases e; exact hI.blk _ b hb)) hM (fun w => k_X7_share w hI hi hl hp hk) (fun m => k_X8_share m hI hi hl hp hk)
theorem p_cut {x y : Int32} (hI : Inv σ) (hM : InvM σ) : Two l g yX7_cut cX7_cut 4 (some .boolean) 4 yX8_cut cX8_cut 3 (some .boolean) 3 [.int x, .int y] σ := by
  rcases inN_cases x σ.nfl with h | ⟨i, hi, rfl⟩
  · exact two_r hI hM (fun w => k_X7_cut_no w hI (Or.inl h)) (fun m => k_X8_cut_no m hI (Or.inl h))
  cases h : (lv σ i && inN y (σ.ln i + 1)) with
  | false => exact two_r hI hM (fun w => k_X7_cut_no w hI (Or.inr ⟨i, hi, rfl, h⟩)) (fun m => k_X8_cut_no m hI (Or.inr ⟨i, hi, rfl, h⟩))
  | true =>
    rw [Bool.and_eq_true] at h
    obtain ⟨h1, h2⟩ := h
    obtain ⟨n, hn, rfl⟩ := inN_of h2
    exact two_w (Inv_cu hI hi (by omega)) hM (fun w => k_X7_cut w hI hi h1 (by omega)) (fun m => k_X8_cut m hI hi h1 (by omega))
theorem p_block {x y : Int32} (hI : Inv σ) (hM : InvM σ) : Two l g yX7_block cX7_block 4 (some .int) 2 yX8_block cX8_block 3 (some .int) 3 [.int x, .int y] σ := by
  rcases inN_cases x σ.nfl with h | ⟨i, hi, rfl⟩
  · exact two_r hI hM (fun w => k_X7_block_no w hI h) (fun m => k_X8_block_no m hI h)
  cases h : (lv σ i && inN y (σ.ln i)) with
  | false => exact two_r hI hM (fun w => k_X7_block_n w hI hi h) (fun m => k_X8_block_n m hI hi h)
  | true =>
    rw [Bool.and_eq_true] at h
    obtain ⟨h1, h2⟩ := h
    obtain ⟨n, hn, rfl⟩ := inN_of h2
    exact two_r hI hM (fun w => k_X7_block w hI hi h1 hn) (fun m => k_X8_block m hI hi h1 hn)
theorem p_sum {x y z : Int32} (hI : Inv σ) (hM : InvM σ) : Two l g yX7_sum cX7_sum 6 (some .int) 5 yX8_sum cX8_sum 6 (some .int) 4 [.int x, .int y, .int z] σ := by
  have no : (inN x σ.nf = false ∨ inN y 6 = false ∨ inN z 3 = false) → Two l g yX7_sum cX7_sum 6 (some .int) 5 yX8_sum cX8_sum 6 (some .int) 4 [.int x, .int y, .int z] σ := fun h => two_r hI hM (fun w => k_X7_sum_no w hI h) (fun m => k_X8_sum_no m hI h)
  rcases inN_cases x σ.nf with h | ⟨a, ha, rfl⟩
  · exact no (Or.inl h)
  cases hy : inN y 6 with
  | false => exact no (Or.inr (Or.inl hy))
  | true =>
    cases hz : inN z 3 with
    | false => exact no (Or.inr (Or.inr hz))
    | true =>
      cases hm : may σ y a with
      | false => exact two_r hI hM (fun w => k_X7_sum_nm w hI ha hy hm) (fun m => k_X8_sum_nm m hI ha hy hz hm)
      | true =>
        obtain ⟨q, hq, rfl⟩ := inN_of hz
        rcases (show q = 0 ∨ q = 1 ∨ q = 2 by omega) with rfl | rfl | rfl
        · exact two_r hI hM (fun w => k_X7_sum0 w hI ha hy hm) (fun m => k_X8_sum0 m hI ha hy hm)
        · exact two_r hI hM (fun w => k_X7_sum1 w hI ha hy hm) (fun m => k_X8_sum1 m hI ha hy hm)
        · exact two_r hI hM (fun w => k_X7_sum2 w hI ha hy hm) (fun m => k_X8_sum2 m hI ha hy hm)
theorem p_named {x y z : Int32} (hI : Inv σ) (hM : InvM σ) : Two l g yX7_named cX7_named 4 (some .int) 3 yX8_named cX8_named 6 (some .int) 3 [.int x, .int y, .int z] σ := by
  have no : (inN x σ.nf = false ∨ inN y 6 = false ∨ ∃ a, a < σ.nf ∧ x = nI a ∧ sees σ.pr σ.hd σ.fow y 29 a = false) → Two l g yX7_named cX7_named 4 (some .int) 3 yX8_named cX8_named 6 (some .int) 3 [.int x, .int y, .int z] σ := fun h => two_r hI hM (fun w => k_X7_named_no w hI h) (fun m => k_X8_named_no m hI h)
  rcases inN_cases x σ.nf with h | ⟨a, ha, rfl⟩
  · exact no (Or.inl h)
  cases hy : inN y 6 with
  | false => exact no (Or.inr (Or.inl hy))
  | true =>
    cases hs : sees σ.pr σ.hd σ.fow y 29 a with
    | false => exact no (Or.inr (Or.inr ⟨a, ha, rfl, hs⟩))
    | true => exact two_r hI hM (fun w => k_X7_named w hI ha hy hs) (fun m => k_X8_named m hI ha hy hs)
theorem p_snapshot (hI : Inv σ) (hM : InvM σ) : Two l g yX7_snapshot cX7_snapshot 1 (some .int) 3 yX8_snapshot cX8_snapshot 2 (some .int) 4 [] σ := by
  rcases least_f (p := σ.sb) 8 with ⟨b, h1, h2, h3⟩ | h
  · exact two_w (Inv_sn hI b) hM (fun w => k_X7_snapshot w hI h1 h2 h3) (fun m => k_X8_snapshot m hI h1 h2 h3)
  · exact two_r hI hM (fun w => k_X7_snapshot_no w hI h) (fun m => k_X8_snapshot_no m hI h)
theorem p_drop {x : Int32} (hI : Inv σ) (hM : InvM σ) : Two l g yX7_drop cX7_drop 3 (some .int) 6 yX8_drop cX8_drop 3 (some .int) 5 [.int x] σ := by
  rcases inN_cases x 8 with h | ⟨s, hs, rfl⟩
  · exact two_r hI hM (fun w => k_X7_drop_no w hI (Or.inl h)) (fun m => k_X8_drop_no m hI (Or.inl h))
  cases h : σ.sb s with
  | false => exact two_r hI hM (fun w => k_X7_drop_no w hI (Or.inr ⟨s, hs, rfl, h⟩)) (fun m => k_X8_drop_no m hI (Or.inr ⟨s, hs, rfl, h⟩))
  | true => exact two_w (σ' := sDr σ s) hI hM (fun w => k_X7_drop w hI hs h) (fun m => k_X8_drop m hI hs h)
theorem p_alone {x : Int32} (hI : Inv σ) (hM : InvM σ) : Two l g yX7_alone cX7_alone 2 (some .int) 6 yX8_alone cX8_alone 2 (some .int) 4 [.int x] σ := by
  rcases inN_cases x 8 with h | ⟨s, hs, rfl⟩
  · exact two_r hI hM (fun w => k_X7_alone_no w hI (Or.inl h)) (fun m => k_X8_alone_no m hI (Or.inl h))
  cases h : σ.sb s with
  | false => exact two_r hI hM (fun w => k_X7_alone_no w hI (Or.inr ⟨s, hs, rfl, h⟩)) (fun m => k_X8_alone_no m hI (Or.inr ⟨s, hs, rfl, h⟩))
  | true => exact two_r hI hM (fun w => k_X7_alone w hI hs h) (fun m => k_X8_alone m hI hs h)
theorem p_mark (hI : Inv σ) (hM : InvM σ) : Two l g yX7_mark cX7_mark 3 (some .int) 6 yX8_mark cX8_mark 2 (some .int) 4 [] σ := by
  have hle := hI.le
  by_cases h : σ.nm = 20
  · exact two_r hI hM (fun w => k_X7_mark_no w hI h) (fun m => k_X8_mark_no m h)
  · exact two_w (Inv_ma hI (by omega)) (InvM_ma hI hM) (fun w => k_X7_mark w hI hM (by omega)) (fun m => k_X8_mark m hI (by omega))
theorem p_grew {x y z : Int32} (hI : Inv σ) (hM : InvM σ) : Two l g yX7_grew cX7_grew 4 (some .int) 6 yX8_grew cX8_grew 4 (some .int) 4 [.int x, .int y, .int z] σ := by
  have no : (inN x σ.nf = false ∨ inN y σ.nm = false ∨ (inN z σ.nm = false ∧ ¬ z = -1)) → Two l g yX7_grew cX7_grew 4 (some .int) 6 yX8_grew cX8_grew 4 (some .int) 4 [.int x, .int y, .int z] σ := fun h => two_r hI hM (fun w => k_X7_grew_no w hI h) (fun m => k_X8_grew_no m hI h)
  rcases inN_cases x σ.nf with h | ⟨a, ha, rfl⟩
  · exact no (Or.inl h)
  rcases inN_cases y σ.nm with h | ⟨f, hf, rfl⟩
  · exact no (Or.inr (Or.inl h))
  by_cases h1 : z = -1
  · subst h1
    exact two_r hI hM (fun w => k_X7_grew_now w hI ha hf) (fun m => k_X8_grew_now m hI ha hf)
  rcases inN_cases z σ.nm with h | ⟨t, ht, rfl⟩
  · exact no (Or.inr (Or.inr ⟨h, h1⟩))
  exact two_r hI hM (fun w => k_X7_grew w hI ha hf ht) (fun m => k_X8_grew m hI ha hf ht)
theorem p_freed {x : Int32} (hI : Inv σ) (hM : InvM σ) : Two l g yX7_freed cX7_freed 5 (some .int) 5 yX8_freed cX8_freed 3 (some .int) 4 [.int x] σ := by
  rcases inN_cases x σ.nf with h | ⟨a, ha, rfl⟩
  · exact two_r hI hM (fun w => k_X7_freed_no w hI h) (fun m => k_X8_freed_no m hI h)
  exact two_m hI hM (fun w => k_X7_freed w hI ha) (fun m => k_X8_freed m hI ha)
theorem p_both {x y : Int32} (hI : Inv σ) (hM : InvM σ) : Two l g yX7_both cX7_both 3 (some .int) 5 yX8_both cX8_both 4 (some .int) 4 [.int x, .int y] σ := by
  have no : (inN x σ.nfl = false ∨ (∃ i, i < σ.nfl ∧ x = nI i ∧ lv σ i = false) ∨ inN y σ.nfl = false ∨ ∃ i, i < σ.nfl ∧ y = nI i ∧ lv σ i = false) → Two l g yX7_both cX7_both 3 (some .int) 5 yX8_both cX8_both 4 (some .int) 4 [.int x, .int y] σ := fun h => two_r hI hM (fun w => k_X7_both_no w hI h) (fun m => k_X8_both_no m hI h)
  rcases inN_cases x σ.nfl with h | ⟨i, hi, rfl⟩
  · exact no (Or.inl h)
  cases hl : lv σ i with
  | false => exact no (Or.inr (Or.inl ⟨i, hi, rfl, hl⟩))
  | true =>
    rcases inN_cases y σ.nfl with h | ⟨j, hj, rfl⟩
    · exact no (Or.inr (Or.inr (Or.inl h)))
    cases hlj : lv σ j with
    | false => exact no (Or.inr (Or.inr (Or.inr ⟨j, hj, rfl, hlj⟩)))
    | true => exact two_m hI hM (fun w => k_X7_both w hI hi hl hj hlj) (fun m => k_X8_both m hI hi hl hj hlj)
theorem p_plan {x y : Int32} (hI : Inv σ) (hM : InvM σ) : Two l g yX7_plan cX7_plan 3 (some .int) 18 yX8_plan cX8_plan 3 (some .int) 4 [.int x, .int y] σ := by
  rcases inN_cases x σ.nf with h | ⟨a, ha, rfl⟩
  · exact two_r hI hM (fun w => k_X7_plan_no w hI (Or.inl h)) (fun m => k_X8_plan_no m hI (Or.inl h))
  cases hy : rng y (nI 1) (nI 60) with
  | false => exact two_r hI hM (fun w => k_X7_plan_no w hI (Or.inr hy)) (fun m => k_X8_plan_no m hI (Or.inr hy))
  | true =>
    obtain ⟨n, h1, h2, rfl⟩ := rng_60 hy
    exact two_w hI hM (fun w => k_X7_plan w hI ha h1 h2) (fun m => k_X8_plan m hI ha h1 h2)
theorem p_planned {x y z : Int32} (hI : Inv σ) (hM : InvM σ) : Two l g yX7_planned cX7_planned 4 (some .int) 18 yX8_planned cX8_planned 7 (some .int) 4 [.int x, .int y, .int z] σ := by
  rcases inN_cases x σ.nf with h | ⟨a, ha, rfl⟩
  · exact two_r hI hM (fun w => k_X7_planned_no w hI (Or.inl h)) (fun m => k_X8_planned_no m hI (Or.inl h))
  cases hy : rng y (nI 1) (nI 60) with
  | false => exact two_r hI hM (fun w => k_X7_planned_no w hI (Or.inr hy)) (fun m => k_X8_planned_no m hI (Or.inr hy))
  | true =>
    obtain ⟨n, h1, h2, rfl⟩ := rng_60 hy
    exact two_w hI hM (fun w => k_X7_planned w hI ha h1 h2) (fun m => k_X8_planned m hI ha h1 h2)
theorem p_largest {x y : Int32} (hI : Inv σ) (hM : InvM σ) : Two l g yX7_largest cX7_largest 3 (some .int) 5 yX8_largest cX8_largest 6 (some .int) 4 [.int x, .int y] σ := by
  rcases inN_cases x σ.nf with h | ⟨a, ha, rfl⟩
  · exact two_r hI hM (fun w => k_X7_largest_nf w hI h) (fun m => k_X8_largest_no m hI (Or.inl h))
  by_cases hy : y < 0
  · exact two_r (v := -1) hI hM (fun w => by have := k_X7_largest (l := l) (t := a) (y := y) w hI ha; rw [lg_neg hI hy] at this; exact this) (fun m => k_X8_largest_no m hI (Or.inr hy))
  obtain ⟨K, hK, rfl⟩ := nI_of hy
  exact two_r hI hM (fun w => k_X7_largest w hI ha) (fun m => k_X8_largest m hI ha hK)
theorem p_holds {x : Int32} (hI : Inv σ) (hM : InvM σ) : Two l g yX7_holds cX7_holds 2 (some .boolean) 5 yX8_holds cX8_holds 2 (some .boolean) 4 [.int x] σ := by
  have hp := pcn_64 (had σ)
  cases hy : rng x (nI 1) (nI 60) with
  | false => exact two_r hI hM (fun w => k_X7_holds_no w hI (Or.inl hy)) (fun m => k_X8_holds_no m hI (Or.inl hy))
  | true =>
    obtain ⟨n, h1, h2, rfl⟩ := rng_60 hy
    by_cases h : pcn (had σ) ≤ n
    · exact two_w (Inv_ho hI h1 h2) hM (fun w => k_X7_holds w hI h1 h2 h) (fun m => k_X8_holds m hI h1 h2 h)
    · have hx := nI_lt (a := n) (b := pcn (had σ)) (by omega) (by omega)
      exact two_r hI hM (fun w => k_X7_holds_no w hI (Or.inr hx)) (fun m => k_X8_holds_no m hI (Or.inr hx))
theorem p_full {x : Int32} (hI : Inv σ) (hM : InvM σ) : Two l g yX7_full cX7_full 2 (some .int) 7 yX8_full cX8_full 8 (some .int) 4 [.int x] σ := by
  rcases inN_cases x 2 with h | ⟨q, hq, rfl⟩
  · exact two_r hI hM (fun w => k_X7_full_no w h) (fun m => k_X8_full_no m h)
  rcases (show q = 0 ∨ q = 1 by omega) with rfl | rfl
  · exact two_r hI hM (fun w => k_X7_full0 w hI hM) (fun m => k_X8_full0 m hI hM)
  · exact two_r hI hM (fun w => k_X7_full1 w hI hM) (fun m => k_X8_full1 m hI hM)
theorem p_told {x y : Int32} (hI : Inv σ) (hM : InvM σ) : Two l g yX7_told cX7_told 4 (some .int) 3 yX8_told cX8_told 5 (some .int) 4 [.int x, .int y] σ := by
  rcases inN_cases x σ.nfl with h | ⟨i, hi, rfl⟩
  · exact two_r hI hM (fun w => k_X7_told_no w hI (Or.inl h)) (fun m => k_X8_told_no m hI (Or.inl h))
  cases hl : lv σ i with
  | false => exact two_r hI hM (fun w => k_X7_told_no w hI (Or.inr ⟨i, hi, rfl, hl⟩)) (fun m => k_X8_told_no m hI (Or.inr ⟨i, hi, rfl, hl⟩))
  | true =>
    rcases inN_cases y 7 with h | ⟨q, hq, rfl⟩
    · exact two_r hI hM (fun w => k_X7_told_out w hI hi hl h) (fun m => k_X8_told_out m hI hi hl h)
    rcases (show q = 0 ∨ q = 1 ∨ q = 2 ∨ q = 3 ∨ q = 4 ∨ q = 5 ∨ q = 6 by omega) with rfl | rfl | rfl | rfl | rfl | rfl | rfl
    · exact two_r hI hM (fun w => k_X7_told0 w hI hi hl) (fun m => k_X8_told0 m hI hi hl)
    · exact two_r hI hM (fun w => k_X7_told1 w hI hi hl) (fun m => k_X8_told1 m hI hi hl)
    · exact two_r hI hM (fun w => k_X7_told2 w hI hi hl) (fun m => k_X8_told2 m hI hi hl)
    · exact two_r hI hM (fun w => k_X7_told3 w hI hi hl) (fun m => k_X8_told3 m hI hi hl)
    · exact two_r hI hM (fun w => k_X7_told4 w hI hi hl) (fun m => k_X8_told4 m hI hi hl)
    · exact two_r hI hM (fun w => k_X7_told5 w hI hi hl) (fun m => k_X8_told5 m hI hi hl)
    · exact two_r hI hM (fun w => k_X7_told6 w hI hi hl) (fun m => k_X8_told6 m hI hi hl)
theorem p_count {x : Int32} (hI : Inv σ) (hM : InvM σ) : Two l g yX7_count cX7_count 2 (some .int) 5 yX8_count cX8_count 4 (some .int) 4 [.int x] σ := by
  rcases inN_cases x 8 with h | ⟨q, hq, rfl⟩
  · exact two_r hI hM (fun w => k_X7_count_out w h) (fun m => k_X8_count_out m h)
  rcases (show q = 0 ∨ q = 1 ∨ q = 2 ∨ q = 3 ∨ q = 4 ∨ q = 5 ∨ q = 6 ∨ q = 7 by omega) with rfl | rfl | rfl | rfl | rfl | rfl | rfl | rfl
  · exact two_r hI hM (fun w => k_X7_count0 w hI) (fun m => k_X8_count0 m hI)
  · exact two_r hI hM (fun w => k_X7_count1 w hI) (fun m => k_X8_count1 m hI)
  · exact two_r hI hM (fun w => k_X7_count2 w hI) (fun m => k_X8_count2 m hI)
  · exact two_r hI hM (fun w => k_X7_count3 w hI) (fun m => k_X8_count3 m hI)
  · exact two_r hI hM (fun w => k_X7_count4 w hI) (fun m => k_X8_count4 m hI)
  · exact two_r hI hM (fun w => k_X7_count5 w hI) (fun m => k_X8_count5 m hI)
  · exact two_r hI hM (fun w => k_X7_count6 w hI) (fun m => k_X8_count6 m hI)
  · exact two_r hI hM (fun w => k_X7_count7 w hI) (fun m => k_X8_count7 m hI)
end TP

