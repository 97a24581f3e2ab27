/-! Plans: the sets of a tree's files, in the order of their numbers -/
/-- the k-th of those below n that have p -/
def fw (p : Nat → Bool) : Nat → Nat → Nat
  | 0, _ => 0
  | n + 1, k => if p n = true ∧ k = cnt p n then n else fw p n k
theorem fw_old {p : Nat → Bool} {n k : Nat} (h : k < cnt p n) : fw p (n + 1) k = fw p n k := by
  rw [fw, if_neg]; intro q; have := q.2; omega
theorem fw_new {p : Nat → Bool} {n : Nat} (h : p n = true) : fw p (n + 1) (cnt p n) = n := by rw [fw, if_pos ⟨h, rfl⟩]
theorem fw_sp {p : Nat → Bool} : ∀ {n k : Nat}, k < cnt p n → fw p n k < n ∧ p (fw p n k) = true ∧ cnt p (fw p n k) = k
  | 0, k, h => absurd h (Nat.not_lt_zero k)
  | n + 1, k, h => by
    by_cases q : p n = true ∧ k = cnt p n
    · rw [q.2, fw_new q.1]; exact ⟨by omega, q.1, rfl⟩
    · have h2 : k < cnt p n := by
        rw [cnt] at h
        cases e : p n with
        | false => rw [e] at h; simpa using h
        | true =>
          rw [e] at h
          have h3 : k < cnt p n + 1 := by simpa using h
          have : ¬ k = cnt p n := fun z => q ⟨e, z⟩
          omega
      rw [fw_old h2]
      have := fw_sp h2
      exact ⟨by omega, this.2⟩
theorem cnt_mono {p : Nat → Bool} : ∀ {n j : Nat}, j ≤ n → cnt p j ≤ cnt p n
  | 0, j, h => by obtain rfl : j = 0 := by omega
                  exact Nat.le_refl _
  | n + 1, j, h => by
    rcases Nat.lt_or_ge j (n + 1) with q | q
    · have := cnt_mono (p := p) (n := n) (j := j) (by omega)
      rw [cnt]; omega
    · obtain rfl : j = n + 1 := by omega
      exact Nat.le_refl _
theorem cnt_sub {p q : Nat → Bool} : ∀ {n : Nat}, (∀ i, i < n → p i = true → q i = true) → cnt p n ≤ cnt q n
  | 0, _ => Nat.le_refl _
  | n + 1, h => by
    have := cnt_sub (p := p) (q := q) (n := n) (fun i hi => h i (by omega))
    rw [cnt, cnt]
    cases e : p n with
    | false => simp; omega
    | true => rw [h n (by omega) e]; simp; omega
theorem fw_of {p : Nat → Bool} {n i : Nat} (hi : i < n) (h : p i = true) : fw p n (cnt p i) = i := by
  induction n with
  | zero => omega
  | succ n ih =>
    by_cases e : i = n
    · subst e; exact fw_new h
    · have h1 : cnt p i < cnt p n := by
        have := cnt_mono (p := p) (n := n) (j := i + 1) (by omega)
        rw [cnt_t h] at this; omega
      rw [fw_old h1]; exact ih (by omega)
/-- an or over those that have p is one over their list -/
theorem orr_fw {p : Nat → Bool} {G : Nat → Int64} : ∀ n, orr (fun i => if p i = true then G i else 0) n = orr (fun k => G (fw p n k)) (cnt p n)
  | 0 => rfl
  | n + 1 => by
    have e : orr (fun k => G (fw p (n + 1) k)) (cnt p n) = orr (fun k => G (fw p n k)) (cnt p n) := orr_cong (fun k hk => by rw [fw_old hk])
    rw [orr, orr_fw n]
    cases h : p n with
    | false => rw [cnt_f h, e]; simp
    | true => rw [cnt_t h, orr, e, fw_new h]; simp
theorem orr_one {f f' : Nat → Int64} {o : Nat} : ∀ {m : Nat}, o < m → (∀ k, k ≠ o → f k = f' k) → f' o = 0 → orr f m = f o ||| orr f' m
  | 0, h, _, _ => absurd h (Nat.not_lt_zero o)
  | m + 1, h, he, h0 => by
    rw [orr, orr]
    by_cases e : o = m
    · subst e
      rw [h0, orr_cong (p := f) (q := f') (fun k hk => he k (by omega)), Int64.or_zero, Int64.or_comm]
    · rw [orr_one (m := m) (by omega) he h0, he m (fun q => e q.symm), Int64.or_assoc]
theorem sumN_one {f f' : Nat → Nat} {o : Nat} : ∀ {m : Nat}, o < m → (∀ k, k ≠ o → f k = f' k) → f' o = 0 → sumN f m = sumN f' m + f o
  | 0, h, _, _ => absurd h (Nat.not_lt_zero o)
  | m + 1, h, he, h0 => by
    rw [sumN, sumN]
    by_cases e : o = m
    · subst e
      rw [h0, sumN_cong (f := f) (h := f') (fun k hk => he k (by omega))]; omega
    · rw [sumN_one (m := m) (by omega) he h0, he m (fun q => e q.symm)]; omega
theorem orr_split {B f h : Nat → Int64} : ∀ {m : Nat}, (∀ k, k < m → B k = f k ||| h k) → orr B m = orr f m ||| orr h m
  | 0, _ => by simp [orr]
  | m + 1, q => by
    rw [orr, orr, orr, orr_split (fun k hk => q k (by omega)), q m (by omega)]
    rw [Int64.or_assoc, Int64.or_assoc, ← Int64.or_assoc (orr h m), ← Int64.or_assoc (f m), Int64.or_comm (orr h m) (f m)]
/-- the number of a set is h, o files are still open: does file k go; is it kept -/
def sel (h o k : Nat) : Bool := decide (o ≤ k) && h.testBit (k - o)
def usl (h o k : Nat) : Bool := decide (o ≤ k) && !h.testBit (k - o)
theorem tb_e (h j : Nat) : (2 * h).testBit (j + 1) = h.testBit j := by rw [Nat.testBit_succ]; congr 1; omega
theorem tb_o (h j : Nat) : (2 * h + 1).testBit (j + 1) = h.testBit j := by rw [Nat.testBit_succ]; congr 1; omega
theorem tb_e0 (h : Nat) : (2 * h).testBit 0 = false := by rw [Nat.testBit_zero]; simp
theorem tb_o0 (h : Nat) : (2 * h + 1).testBit 0 = true := by rw [Nat.testBit_zero]; simp
theorem sel_k (h o : Nat) : sel h (o + 1) o = false := by have : ¬ o + 1 ≤ o := (by omega); simp [sel, this]
theorem usl_k (h o : Nat) : usl h (o + 1) o = false := by have : ¬ o + 1 ≤ o := (by omega); simp [usl, this]
theorem seo_e (h o k : Nat) (hk : k ≠ o) : sel (2 * h) o k = sel h (o + 1) k ∧ usl (2 * h) o k = usl h (o + 1) k ∧ sel (2 * h + 1) o k = sel h (o + 1) k ∧ usl (2 * h + 1) o k = usl h (o + 1) k := by
  unfold sel usl
  rcases Nat.lt_or_ge k o with q | q
  · have h1 : ¬ o ≤ k := by omega
    have h2 : ¬ o + 1 ≤ k := by omega
    simp [h1, h2]
  · have h1 : o ≤ k := q
    have h2 : o + 1 ≤ k := by omega
    obtain ⟨j, hj⟩ : ∃ j, k - o = j + 1 := ⟨k - o - 1, by omega⟩
    have hj2 : k - (o + 1) = j := by omega
    rw [hj, hj2, tb_e, tb_o]
    simp [h1, h2]
theorem sel_e (h o k : Nat) : sel (2 * h) o k = sel h (o + 1) k := by
  by_cases hk : k = o
  · subst hk; rw [sel_k]; unfold sel; rw [Nat.sub_self, tb_e0]; simp
  · exact (seo_e h o k hk).1
theorem usl_o (h o k : Nat) : usl (2 * h + 1) o k = usl h (o + 1) k := by
  by_cases hk : k = o
  · subst hk; rw [usl_k]; unfold usl; rw [Nat.sub_self, tb_o0]; simp
  · exact (seo_e h o k hk).2.2.2
theorem sel_oo (h o : Nat) : sel (2 * h + 1) o o = true := by unfold sel; rw [Nat.sub_self, tb_o0]; simp
theorem usl_ee (h o : Nat) : usl (2 * h) o o = true := by unfold usl; rw [Nat.sub_self, tb_e0]; simp
/-- the blocks of the kept, an or over those that go, the worth of those that go -/
def kpS (B : Nat → Int64) (m h o : Nat) : Int64 := orr (fun k => if usl h o k = true then B k else 0) m
def goS (G : Nat → Int64) (m h o : Nat) : Int64 := orr (fun k => if sel h o k = true then G k else 0) m
def wtS (W : Nat → Nat) (m h o : Nat) : Nat := sumN (fun k => if sel h o k = true then W k else 0) m
theorem kpS_e {B : Nat → Int64} {m h o : Nat} (ho : o < m) : kpS B m (2 * h) o = B o ||| kpS B m h (o + 1) := by
  unfold kpS
  rw [orr_one (f' := fun k => if usl h (o + 1) k = true then B k else 0) ho (fun k hk => by rw [(seo_e h o k hk).2.1]) (by rw [usl_k]; simp)]
  rw [usl_ee, if_pos rfl]
theorem kpS_o {B : Nat → Int64} {m h o : Nat} : kpS B m (2 * h + 1) o = kpS B m h (o + 1) := by
  unfold kpS
  exact orr_cong (fun k _ => by rw [usl_o])
theorem goS_e {G : Nat → Int64} {m h o : Nat} : goS G m (2 * h) o = goS G m h (o + 1) := by
  unfold goS
  exact orr_cong (fun k _ => by rw [sel_e])
theorem goS_o {G : Nat → Int64} {m h o : Nat} (ho : o < m) : goS G m (2 * h + 1) o = goS G m h (o + 1) ||| G o := by
  unfold goS
  rw [orr_one (f' := fun k => if sel h (o + 1) k = true then G k else 0) ho (fun k hk => by rw [(seo_e h o k hk).2.2.1]) (by rw [sel_k]; simp)]
  rw [sel_oo, if_pos rfl, Int64.or_comm]
theorem wtS_e {W : Nat → Nat} {m h o : Nat} : wtS W m (2 * h) o = wtS W m h (o + 1) := by
  unfold wtS
  exact sumN_cong (fun k _ => by rw [sel_e])
theorem wtS_o {W : Nat → Nat} {m h o : Nat} (ho : o < m) : wtS W m (2 * h + 1) o = wtS W m h (o + 1) + W o := by
  unfold wtS
  rw [sumN_one (f' := fun k => if sel h (o + 1) k = true then W k else 0) ho (fun k hk => by rw [(seo_e h o k hk).2.2.1]) (by rw [sel_k]; simp)]
  rw [sel_oo, if_pos rfl]
theorem sumN_le {f : Nat → Nat} {c : Nat} : ∀ {m : Nat}, (∀ k, k < m → f k ≤ c) → sumN f m ≤ c * m
  | 0, _ => Nat.zero_le _
  | m + 1, h => by
    have h1 := sumN_le (f := f) (c := c) (m := m) (fun k hk => h k (by omega))
    have h2 := h m (by omega)
    rw [sumN, Nat.mul_succ]; omega
theorem wtS_le {W : Nat → Nat} {m : Nat} (hW : ∀ k, k < m → W k ≤ 999) (hm : m ≤ 12) (h o : Nat) : wtS W m h o ≤ 11988 := by
  have : wtS W m h o ≤ 999 * m := sumN_le (fun k hk => by have := hW k hk; split <;> omega)
  omega
theorem orr_nil {f : Nat → Int64} : ∀ {m : Nat}, (∀ k, k < m → f k = 0) → orr f m = 0
  | 0, _ => rfl
  | m + 1, h => by rw [orr, orr_nil (fun k hk => h k (by omega)), h m (by omega)]; rfl
theorem sel_m {m h k : Nat} (hk : k < m) : sel h m k = false := by
  have : ¬ m ≤ k := by omega
  simp [sel, this]
theorem usl_m {m h k : Nat} (hk : k < m) : usl h m k = false := by
  have : ¬ m ≤ k := by omega
  simp [usl, this]
theorem kpS_m {B : Nat → Int64} {m h : Nat} : kpS B m h m = 0 := orr_nil (fun k hk => by rw [usl_m hk]; simp)
theorem goS_m {B : Nat → Int64} {m h : Nat} : goS B m h m = 0 := orr_nil (fun k hk => by rw [sel_m hk]; simp)
theorem wtS_m {W : Nat → Nat} {m h : Nat} : wtS W m h m = 0 := by
  have : wtS W m h m ≤ 0 * m := sumN_le (fun k hk => by rw [sel_m hk]; simp)
  omega
/-- the best set so far, and one more -/
def stp (fr : Nat → Int64) (w : Nat → Nat) (n s : Nat) : Option Nat → Option Nat
  | none => if n ≤ pcn (fr s) then some s else none
  | some b => if n ≤ pcn (fr s) ∧ w s < w b then some s else some b
def bst (fr : Nat → Int64) (w : Nat → Nat) (n : Nat) : Nat → Option Nat
  | 0 => none
  | s + 1 => stp fr w n s (bst fr w n s)
/-- the sets whose number begins with h, o files open -/
def rnS (fr : Nat → Int64) (w : Nat → Nat) (n : Nat) : Nat → Nat → Option Nat → Option Nat
  | 0, h, st => stp fr w n h st
  | o + 1, h, st => rnS fr w n o (2 * h + 1) (rnS fr w n o (2 * h) st)
theorem rnS_bst {fr : Nat → Int64} {w : Nat → Nat} {n : Nat} : ∀ o h, rnS fr w n o h (bst fr w n (h * 2 ^ o)) = bst fr w n ((h + 1) * 2 ^ o)
  | 0, h => by rw [rnS, Nat.pow_zero, Nat.mul_one, Nat.mul_one]; rfl
  | o + 1, h => by
    have e1 : h * 2 ^ (o + 1) = 2 * h * 2 ^ o := by rw [Nat.pow_succ, Nat.mul_comm (2 ^ o) 2, ← Nat.mul_assoc, Nat.mul_comm h 2]
    have e2 : (h + 1) * 2 ^ (o + 1) = (2 * h + 1 + 1) * 2 ^ o := by rw [Nat.pow_succ, Nat.mul_comm (2 ^ o) 2, ← Nat.mul_assoc, Nat.mul_comm (h + 1) 2]; rfl
    rw [rnS, e1, e2, rnS_bst o (2 * h), rnS_bst o (2 * h + 1)]
/-- what can free no more, or costs as much already, changes nothing -/
theorem rnS_pr {fr : Nat → Nat → Int64} {w : Nat → Nat → Nat} {n m : Nat} (hf : ∀ h o, o < m → pcn (fr (2 * h) o) ≤ pcn (fr h (o + 1)) ∧ pcn (fr (2 * h + 1) o) ≤ pcn (fr h (o + 1))) (hw : ∀ h o, o < m → w h (o + 1) ≤ w (2 * h) o ∧ w h (o + 1) ≤ w (2 * h + 1) o) : ∀ o h st, o ≤ m → (pcn (fr h o) < n ∨ ∃ b, st = some b ∧ w b 0 ≤ w h o) → rnS (fun s => fr s 0) (fun s => w s 0) n o h st = st
  | 0, h, st, _, hc => by
    rw [rnS]
    cases st with
    | none =>
      rcases hc with hc | ⟨b, hb, _⟩
      · rw [stp, if_neg (by omega)]
      · cases hb
    | some b =>
      rw [stp, if_neg]
      rintro ⟨h1, h2⟩
      rcases hc with hc | ⟨b', hb, hc⟩
      · omega
      · cases hb; omega
  | o + 1, h, st, ho, hc => by
    have h1 := hf h o (by omega)
    have h2 := hw h o (by omega)
    rw [rnS, rnS_pr hf hw o (2 * h) st (by omega) (by
      rcases hc with hc | ⟨b, hb, hc⟩
      · exact Or.inl (by omega)
      · exact Or.inr ⟨b, hb, by omega⟩)]
    exact rnS_pr hf hw o (2 * h + 1) st (by omega) (by
      rcases hc with hc | ⟨b, hb, hc⟩
      · exact Or.inl (by omega)
      · exact Or.inr ⟨b, hb, by omega⟩)
/-- of a tree: how many files, which, their blocks, their worth; what a set frees, costs, is -/
def plF (σ : Sg) (t : Nat) : Nat → Nat := fw (fun i => isn σ i t) σ.nfl
def plB (σ : Sg) (t k : Nat) : Int64 := bk σ (plF σ t k)
def plW (σ : Sg) (t k : Nat) : Nat := σ.wo (plF σ t k)
def plG (σ : Sg) (t k : Nat) : Int64 := b1 (nI (plF σ t k))
def plFr (σ : Sg) (t h o : Nat) : Int64 := frV σ (fun i => isn σ i t) &&& (kpS (plB σ t) (filS σ t) h o ^^^ (-1))
def plWt (σ : Sg) (t h o : Nat) : Nat := wtS (plW σ t) (filS σ t) h o
def plGo (σ : Sg) (t h o : Nat) : Int64 := goS (plG σ t) (filS σ t) h o
def plN (σ : Sg) (t n : Nat) : Nat → Option Nat := bst (fun s => plFr σ t s 0) (fun s => plWt σ t s 0) n
def plBt (σ : Sg) (t n : Nat) : Option Nat := if filS σ t ≤ 12 then plN σ t n (2 ^ filS σ t) else none
def wtO (σ : Sg) (t : Nat) : Option Nat → Int32
  | none => -1
  | some b => nI (plWt σ t b 0)
def plS (σ : Sg) (t n : Nat) : Int32 := wtO σ t (plBt σ t n)
def pdS (σ : Sg) (t n : Nat) (z : Int32) : Int32 := match plBt σ t n with
  | none => -1
  | some b => scan (fun i => mbr (plGo σ t b 0) (nI i)) z 0 40
theorem plF_sp {σ : Sg} {t k : Nat} (hk : k < filS σ t) : plF σ t k < σ.nfl ∧ isn σ (plF σ t k) t = true ∧ cnt (fun i => isn σ i t) (plF σ t k) = k := fw_sp (p := fun i => isn σ i t) hk
theorem plW_le {σ : Sg} (hI : Inv σ) {t k : Nat} (hk : k < filS σ t) : plW σ t k ≤ 999 := (hI.fil _ (plF_sp hk).1).2.1
theorem plWt_le {σ : Sg} (hI : Inv σ) {t : Nat} (hm : filS σ t ≤ 12) (h o : Nat) : plWt σ t h o ≤ 11988 := wtS_le (fun _ hk => plW_le hI hk) hm h o
theorem pcn_and (a b : Int64) : pcn (a &&& b) ≤ pcn a := cnt_sub (fun i _ h => by
  rw [Int64.toBitVec_and, BitVec.getLsbD_and] at h
  simp at h; exact h.1)
theorem plFr_e {σ : Sg} {t h o : Nat} (ho : o < filS σ t) : plFr σ t (2 * h) o = plFr σ t h (o + 1) &&& (plB σ t o ^^^ (-1)) := by
  unfold plFr
  rw [kpS_e ho]
  exact (and3 _ _ _).symm
theorem plFr_o {σ : Sg} {t h o : Nat} : plFr σ t (2 * h + 1) o = plFr σ t h (o + 1) := by
  unfold plFr
  rw [kpS_o]
theorem plFr_le {σ : Sg} {t : Nat} (h o : Nat) (ho : o < filS σ t) : pcn (plFr σ t (2 * h) o) ≤ pcn (plFr σ t h (o + 1)) ∧ pcn (plFr σ t (2 * h + 1) o) ≤ pcn (plFr σ t h (o + 1)) := by
  refine ⟨?_, ?_⟩
  · rw [plFr_e ho]; exact pcn_and _ _
  · rw [plFr_o]; exact Nat.le_refl _
theorem plWt_e {σ : Sg} {t h o : Nat} : plWt σ t (2 * h) o = plWt σ t h (o + 1) := wtS_e
theorem plWt_o {σ : Sg} {t h o : Nat} (ho : o < filS σ t) : plWt σ t (2 * h + 1) o = plWt σ t h (o + 1) + plW σ t o := wtS_o ho
theorem plWt_ge {σ : Sg} {t : Nat} (h o : Nat) (ho : o < filS σ t) : plWt σ t h (o + 1) ≤ plWt σ t (2 * h) o ∧ plWt σ t h (o + 1) ≤ plWt σ t (2 * h + 1) o := by
  rw [plWt_e, plWt_o ho]; omega
theorem plGo_e {σ : Sg} {t h o : Nat} : plGo σ t (2 * h) o = plGo σ t h (o + 1) := goS_e
theorem plGo_o {σ : Sg} {t h o : Nat} (ho : o < filS σ t) : plGo σ t (2 * h + 1) o = plGo σ t h (o + 1) ||| plG σ t o := goS_o ho
def plR (σ : Sg) (t n : Nat) : Nat → Nat → Option Nat → Option Nat := rnS (fun s => plFr σ t s 0) (fun s => plWt σ t s 0) n
theorem plR_pr {σ : Sg} {t n o h : Nat} {st : Option Nat} (ho : o ≤ filS σ t) (hc : pcn (plFr σ t h o) < n ∨ ∃ b, st = some b ∧ plWt σ t b 0 ≤ plWt σ t h o) : plR σ t n o h st = st :=
  rnS_pr (fr := plFr σ t) (w := plWt σ t) (m := filS σ t) plFr_le plWt_ge o h st ho hc
theorem plR_all {σ : Sg} {t n : Nat} : plR σ t n (filS σ t) 0 none = plN σ t n (2 ^ filS σ t) := by
  have := rnS_bst (fr := fun s => plFr σ t s 0) (w := fun s => plWt σ t s 0) (n := n) (filS σ t) 0
  rw [Nat.zero_mul, Nat.zero_add, Nat.one_mul] at this
  exact this
theorem xm1 : (0 : Int64) ^^^ (-1) = -1 := by decide
theorem and_m1 (a : Int64) : a &&& (-1) = a := by
  apply wb_inj
  rw [Int64.toBitVec_and, show (-1 : Int64).toBitVec = BitVec.allOnes 64 from by decide, BitVec.and_allOnes]
theorem plFr_m {σ : Sg} {t : Nat} : plFr σ t 0 (filS σ t) = frV σ (fun i => isn σ i t) := by
  unfold plFr
  rw [kpS_m, xm1, and_m1]
theorem plGo_m {σ : Sg} {t : Nat} : plGo σ t 0 (filS σ t) = 0 := goS_m
theorem plWt_m {σ : Sg} {t : Nat} : plWt σ t 0 (filS σ t) = 0 := wtS_m
/-- what the reference counts of a set -/
def rfG (σ : Sg) (t s : Nat) : Nat → Int64 := fun k => if s.testBit k = true then plB σ t k else 0
def rfK (σ : Sg) (t s : Nat) : Nat → Int64 := fun k => if s.testBit k = true then 0 else plB σ t k
def rfW (σ : Sg) (t s : Nat) : Nat → Nat := fun k => if s.testBit k = true then plW σ t k else 0
def otS (σ : Sg) (t : Nat) : Int64 := shS σ (-1) ||| orr (kep σ (fun i => isn σ i t)) σ.nfl
theorem and_or4 (a b c : Int64) : (a ||| b) &&& (c ^^^ (-1)) &&& (b ^^^ (-1)) = a &&& ((c ||| b) ^^^ (-1)) := by
  apply wb_inj
  apply BitVec.eq_of_getLsbD_eq
  intro i hi
  rw [Int64.toBitVec_and, Int64.toBitVec_and, Int64.toBitVec_and, Int64.toBitVec_or, BitVec.getLsbD_and, BitVec.getLsbD_and, BitVec.getLsbD_and, BitVec.getLsbD_or, not_bit b hi, not_bit c hi, not_bit _ hi, Int64.toBitVec_or, BitVec.getLsbD_or]
  cases a.toBitVec.getLsbD i <;> cases b.toBitVec.getLsbD i <;> cases c.toBitVec.getLsbD i <;> rfl
theorem rfF_eq {σ : Sg} {t s : Nat} : orr (rfG σ t s) (filS σ t) &&& ((otS σ t ||| orr (rfK σ t s) (filS σ t)) ^^^ (-1)) = plFr σ t s 0 := by
  have e1 : kpS (plB σ t) (filS σ t) s 0 = orr (rfK σ t s) (filS σ t) := orr_cong (fun k _ => by
    unfold usl rfK
    cases e : s.testBit k <;> simp [e])
  have e2 : orr (gon σ (fun i => isn σ i t)) σ.nfl = orr (rfG σ t s) (filS σ t) ||| orr (rfK σ t s) (filS σ t) := by
    have h1 : orr (gon σ (fun i => isn σ i t)) σ.nfl = orr (plB σ t) (filS σ t) := orr_fw (p := fun i => isn σ i t) (G := bk σ) σ.nfl
    rw [h1]
    refine orr_split (fun k _ => ?_)
    unfold rfG rfK
    cases e : s.testBit k <;> simp
  unfold plFr frV
  rw [e1, e2]
  exact (and_or4 _ _ _).symm
theorem rfW_eq {σ : Sg} {t s : Nat} : sumN (rfW σ t s) (filS σ t) = plWt σ t s 0 := sumN_cong (fun k _ => by
    unfold sel rfW
    cases e : s.testBit k <;> simp [e])
/-- the k-th of a set -/
def scm (p : Nat → Bool) (F : Nat → Nat) (x : Int32) : Nat → Nat → Int32
  | _, 0 => -1
  | i, m + 1 => if p i = true ∧ nI (cnt p i) = x then nI (F i) else scm p F x (i + 1) m
theorem cnt_q {p tb q : Nat → Bool} (hq : ∀ i, q i = (p i && tb (cnt p i))) : ∀ i, cnt q i = cnt tb (cnt p i)
  | 0 => rfl
  | i + 1 => by
    have ih := cnt_q hq i
    rw [cnt, ih, hq i]
    cases e : p i with
    | false => rw [cnt_f e]; simp
    | true => rw [cnt_t e, cnt]; simp
theorem scm_eq {p tb q : Nat → Bool} {F : Nat → Nat} {z : Int32} {M n : Nat} (hM : cnt p n = M) (hq : ∀ i, q i = (p i && tb (cnt p i))) (hF : ∀ i, i < n → p i = true → F (cnt p i) = i) : ∀ r i, i + r = n → scan q z i r = scm tb F z (cnt p i) (M - cnt p i)
  | 0, i, h => by
    obtain rfl : i = n := by omega
    rw [hM, Nat.sub_self]; rfl
  | r + 1, i, h => by
    have ih := scm_eq (z := z) hM hq hF r (i + 1) (by omega)
    cases e : p i with
    | false =>
      rw [scan_no (by rw [hq i, e]; rfl), ih, cnt_f e]
    | true =>
      have hlt : cnt p i < M := by
        have := cnt_mono (p := p) (n := n) (j := i + 1) (by omega)
        rw [cnt_t e] at this; omega
      obtain ⟨y, hy⟩ : ∃ y, M - cnt p i = y + 1 := ⟨M - cnt p i - 1, by omega⟩
      rw [cnt_t e, show M - (cnt p i + 1) = y by omega] at ih
      rw [hy, scan, scm, ih, cnt_q hq, hF i (by omega) e, hq i, e, Bool.true_and]
theorem pd_bit {σ : Sg} (hI : Inv σ) {t b i : Nat} (hi : i < 64) : mbr (plGo σ t b 0) (nI i) = (isn σ i t && b.testBit (cnt (fun j => isn σ j t) i)) := by
  have hle := hI.le
  rw [mbr_bit _ hi]
  unfold plGo goS
  rw [orr_bit, Bool.eq_iff_iff, anyN_iff]
  constructor
  · rintro ⟨k, hk, h⟩
    obtain ⟨h1, h2, h3⟩ := plF_sp hk
    have hs : sel b 0 k = b.testBit k := by simp [sel]
    rw [hs] at h
    cases e : b.testBit k with
    | false => rw [e] at h; simp at h
    | true =>
      rw [e, if_pos rfl] at h
      have h' : (b1 (nI (plF σ t k))).toBitVec.getLsbD i = true := h
      rw [b1_bit (by omega)] at h'
      have h4 : i = plF σ t k := of_decide_eq_true h'
      rw [h4, h2, h3, e]; rfl
  · intro h
    rw [Bool.and_eq_true] at h
    obtain ⟨h1, h2⟩ := h
    have hlt := isn_lt hI h1
    refine ⟨cnt (fun j => isn σ j t) i, ?_, ?_⟩
    · have := cnt_mono (p := fun j => isn σ j t) (n := σ.nfl) (j := i + 1) (by omega)
      rw [cnt_t (p := fun j => isn σ j t) h1] at this
      show _ < cnt (fun i => isn σ i t) σ.nfl
      omega
    · have hs : sel b 0 (cnt (fun j => isn σ j t) i) = b.testBit (cnt (fun j => isn σ j t) i) := by simp [sel]
      rw [hs, h2, if_pos rfl]
      show (b1 (nI (fw (fun j => isn σ j t) σ.nfl (cnt (fun j => isn σ j t) i)))).toBitVec.getLsbD i = true
      rw [fw_of (p := fun j => isn σ j t) hlt h1, b1_bit hi]; simp
theorem pd_eq {σ : Sg} (hI : Inv σ) {t b : Nat} {z : Int32} : scan (fun i => mbr (plGo σ t b 0) (nI i)) z 0 40 = scm (fun k => b.testBit k) (plF σ t) z 0 (filS σ t) := by
  have hle := hI.le
  have e40 : cnt (fun i => isn σ i t) 40 = filS σ t := by
    have e := cnt_split (fun i => isn σ i t) σ.nfl (40 - σ.nfl)
    rw [show σ.nfl + (40 - σ.nfl) = 40 by omega] at e
    rw [e, cnt_no (n := 40 - σ.nfl) (fun k _ => by
      cases h : isn σ (σ.nfl + k) t with
      | false => rfl
      | true => exact absurd (isn_lt hI h) (by omega))]
    rfl
  have h := scm_eq (p := fun i => isn σ i t) (tb := fun k => b.testBit k) (q := fun i => isn σ i t && b.testBit (cnt (fun j => isn σ j t) i)) (F := plF σ t) (z := z) (M := filS σ t) (n := 40) e40 (fun _ => rfl) (fun i _ hp => fw_of (p := fun j => isn σ j t) (isn_lt hI hp) hp) 40 0 (by omega)
  rw [scan_cong (q := fun i => isn σ i t && b.testBit (cnt (fun j => isn σ j t) i)) (fun k hk => pd_bit hI (by omega)), h]
  rfl

