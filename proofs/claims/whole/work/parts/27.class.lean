/-! The class: its cells; sets of files as longs -/
/-- the class's own rows beside the state: the files' slots, the names' files, the planner's rows and fields -/
def Rm : Type := (Nat → Option Nat) × (Nat → Int32) × (Nat → Int32) × (Nat → Int32) × (Nat → Int64) × Int32 × Int32 × Int32 × Int64
def Rm.al (ρ : Rm) : Nat → Option Nat := ρ.1
def Rm.fn (ρ : Rm) : Nat → Int32 := ρ.2.1
def Rm.nu (ρ : Rm) : Nat → Int32 := ρ.2.2.1
def Rm.pw (ρ : Rm) : Nat → Int32 := ρ.2.2.2.1
def Rm.pb (ρ : Rm) : Nat → Int64 := ρ.2.2.2.2.1
def Rm.sz (ρ : Rm) : Int32 := ρ.2.2.2.2.2.1
def Rm.wa (ρ : Rm) : Int32 := ρ.2.2.2.2.2.2.1
def Rm.lw (ρ : Rm) : Int32 := ρ.2.2.2.2.2.2.2.1
def Rm.be (ρ : Rm) : Int64 := ρ.2.2.2.2.2.2.2.2
def oRg (ad : AD) (now cap : Nat) : va_E := eC 7 [.ref (ad 1), .ref (ad 5), .ref (ad 7), .ref (ad 10), .ref (ad 13), .ref (ad 16), .int (nI now), .int (nI cap)]
def oPl (ad : AD) (sz wa lw : Int32) (be : Int64) : va_E := eC 4 [.ref (ad 17), .ref (ad 18), .ref (ad 19), .int sz, .int wa, .int lw, .long be]
def CW (g : GG) (ad : AD) (σ : Sg) (ρ : Rm) (C : CC) : Prop := C 0 = some (oRg ad σ.now σ.cap) ∧ C 1 = some (oFo ad σ.nf) ∧ C 2 = some (eI g 30 (parF σ.pr)) ∧ C 3 = some (eI g 30 σ.fow) ∧ C 4 = some (eZ g 30 (bF σ.hd)) ∧ C 5 = some (oFi ad σ.nfl) ∧ C 6 = some (eO g 40 ρ.al) ∧ C 7 = some (oNa ad σ.nn) ∧ C 8 = some (eI g 100 ρ.fn) ∧ C 9 = some (eI g 100 (fun k => nI (σ.ni k))) ∧ C 10 = some (oSn ad) ∧ C 11 = some (eZ g 8 (bF σ.sb)) ∧ C 12 = some (eJ g 8 σ.sh) ∧ C 13 = some (oMa ad σ.nm) ∧ C 14 = some (eI g 20 (fun i => nI (σ.md i))) ∧ C 15 = some (eI g 600 (fun q => nI (σ.mt q))) ∧ C 16 = some (oPl ad ρ.sz ρ.wa ρ.lw ρ.be) ∧ C 17 = some (eI g 12 ρ.nu) ∧ C 18 = some (eI g 12 ρ.pw) ∧ C 19 = some (eJ g 12 ρ.pb) ∧
  isAl ad σ.nfl (lv σ) ρ.al ∧ (∀ k, k < σ.nn → ρ.fn k = if σ.tb k = true then nI (σ.fl k) else -1) ∧
  (∀ i, i < σ.nfl → C (39 + 2 * i) = some (oSt ad (39 + 2 * i) (σ.ow i) (nI (σ.wo i)) (σ.ln i) (σ.ch i) (bkS σ i))) ∧
  (∀ i, i < σ.nfl → ∃ pl, C (39 + 2 * i + 1) = some (eI g 60 pl) ∧ ∀ p, p < σ.ln i → pl p = rI (σ.rb (60 * i + p))) ∧ (∀ j, 39 + 2 * σ.nfl ≤ j → C j = none)
/-- the class's end: an answer, a new state, the reference's cells as they were -/
def PCl (g : GG) (ad : AD) (C : CC) (v : Value) (σ' : Sg) : Option Value → AD → CC → Prop := fun r ad' C' => r = some v ∧ (∃ ρ', CW g ad' σ' ρ' C') ∧ (∀ j, 20 ≤ j → j < 39 → C' j = C j) ∧ ∀ j, C j ≠ none → ad' j = ad j
theorem Cr.toC {l : Launch} {g : GG} {y : MethodName} {cc : ByteArray} {nL : Nat} {ret : Option FieldType} {d : Nat} {as : List Value} {ad : AD} {C : CC} {v : Value} {σ : Sg} {ρ : Rm} (h : Cr l g y cc nL ret d as ad C v) (w : CW g ad σ ρ C) : Ct l g y cc nL ret d 0 0 as ad C (PCl g ad C v σ) := Ct.mono h (fun r ad' C' hp => by obtain ⟨rfl, rfl, rfl⟩ := hp; exact ⟨rfl, ⟨ρ, w⟩, fun _ _ _ => rfl, fun _ _ => rfl⟩)
/-- bits of sets -/
theorem cnt_pos {p : Nat → Bool} : ∀ {n k : Nat}, k < n → p k = true → 0 < cnt p n
  | n + 1, k, hk, h => by
    by_cases e : k = n
    · subst e; rw [cnt_t h]; omega
    · have := cnt_pos (n := n) (k := k) (by omega) h
      rw [cnt]; omega
theorem orr_bit {f : Nat → Int64} {i : Nat} : ∀ {n : Nat}, (orr f n).toBitVec.getLsbD i = anyN (fun k => (f k).toBitVec.getLsbD i) n
  | 0 => by simp [orr, anyN]
  | n + 1 => by rw [orr, Int64.toBitVec_or, BitVec.getLsbD_or, orr_bit, anyN]
theorem not_bit (v : Int64) {i : Nat} (hi : i < 64) : (v ^^^ (-1)).toBitVec.getLsbD i = !v.toBitVec.getLsbD i := by
  rw [Int64.toBitVec_xor, BitVec.getLsbD_xor]
  have : (-1 : Int64).toBitVec = BitVec.allOnes 64 := by decide
  rw [this, BitVec.getLsbD_allOnes]
  simp [hi]
theorem not_bit32 (v : Int32) {i : Nat} (hi : i < 32) : (v ^^^ (-1)).toBitVec.getLsbD i = !v.toBitVec.getLsbD i := by
  rw [Int32.toBitVec_xor, BitVec.getLsbD_xor]
  have : (-1 : Int32).toBitVec = BitVec.allOnes 32 := by decide
  rw [this, BitVec.getLsbD_allOnes]
  simp [hi]
theorem mbr_32 (x : Int32) {j : Nat} (hj : j < 32) : mbr x.toInt64 (nI j) = x.toBitVec.getLsbD j := by
  rw [mbr_bit _ (by omega), Int32.toBitVec_toInt64, BitVec.getLsbD_signExtend]
  simp [hj]; omega
theorem sh32 : ∀ n, n < 32 → nI 1 <<< (nI n &&& 31) = nI (2 ^ n) := by decide +kernel
theorem bitsI_bit {p : Nat → Bool} {j : Nat} : ∀ {n : Nat}, n ≤ 32 → (bitsI p n).toBitVec.getLsbD j = (decide (j < n) && p j)
  | 0, _ => by
    show (nI 0).toBitVec.getLsbD j = _
    simp [show (nI 0).toBitVec = 0#32 from rfl]
  | n + 1, h => by
    have ih := bitsI_bit (p := p) (j := j) (n := n) (by omega)
    rw [bitsI]
    by_cases hp : p n = true
    · rw [if_pos hp, Int32.toBitVec_or, BitVec.getLsbD_or, ih, sh32 n (by omega)]
      rw [show (nI (2 ^ n)).toBitVec = BitVec.ofNat 32 (2 ^ n) from rfl, BitVec.getLsbD_ofNat, Nat.testBit_two_pow]
      by_cases hj : j = n
      · subst hj; simp [hp]; omega
      · have e1 : decide (j < n + 1) = decide (j < n) := decide_eq_decide.mpr (by omega)
        have e2 : decide (n = j) = false := decide_eq_false (fun q => hj q.symm)
        rw [e1, e2]; simp
    · rw [if_neg hp, ih]
      by_cases hj : j = n
      · subst hj; simp [hp]
      · have e1 : decide (j < n + 1) = decide (j < n) := decide_eq_decide.mpr (by omega)
        rw [e1]
/-- the files that have a name in a set of folders -/
def fwS (fn fo : Nat → Int32) (x : Int32) (nn : Nat) : Int64 := orr (fun k => if (fn k != -1 && mbr x.toInt64 (fo k)) = true then b1 (fn k) else 0) nn
theorem fw_bit {σ : Sg} {fn : Nat → Int32} (hI : Inv σ) (hfn : ∀ k, k < σ.nn → fn k = if σ.tb k = true then nI (σ.fl k) else -1) {x : Int32} {p : Nat → Bool} (hp : ∀ j, j < σ.nf → x.toBitVec.getLsbD j = p j) (i : Nat) : (fwS fn (fun k => nI (σ.ni k)) x σ.nn).toBitVec.getLsbD i = anyN (fun k => σ.tb k && σ.fl k == i && p (σ.ni k)) σ.nn := by
  unfold fwS
  rw [orr_bit]
  refine anyN_cong (fun k hk => ?_)
  obtain ⟨h1, h2⟩ := hI.nam k hk
  have hle := hI.le
  show (if (fn k != -1 && mbr x.toInt64 (nI (σ.ni k))) = true then b1 (fn k) else 0).toBitVec.getLsbD i = _
  rw [hfn k hk]
  cases ht : σ.tb k with
  | false => simp
  | true =>
    have hm : mbr x.toInt64 (nI (σ.ni k)) = p (σ.ni k) := by rw [mbr_32 x (by omega), hp _ h2]
    have hne : (nI (σ.fl k) != -1) = true := bne_iff_ne.mpr (nI_m1 (by omega))
    rw [if_pos rfl, hne, hm]
    cases p (σ.ni k) with
    | false => simp
    | true =>
      show (b1 (nI (σ.fl k))).toBitVec.getLsbD i = _
      rw [b1_bit (by omega)]
      by_cases e : σ.fl k = i
      · subst e; simp
      · have e2 : ¬ i = σ.fl k := fun q => e q.symm
        simp [e, e2]
theorem isn_lv {σ : Sg} {i t : Nat} (h : isn σ i t = true) : lv σ i = true := by
  obtain ⟨k, hk, h1⟩ := anyN_iff.mp h
  simp at h1
  have : 0 < nms σ i := by
    have := cnt_pos (p := fun k => σ.tb k && σ.fl k == i) hk (by simp [h1.1])
    exact this
  simp [lv, this]
theorem isn_lt {σ : Sg} (hI : Inv σ) {i t : Nat} (h : isn σ i t = true) : i < σ.nfl := by
  obtain ⟨k, hk, h1⟩ := anyN_iff.mp h
  simp at h1
  rw [← h1.1.2]; exact (hI.nam k hk).1
theorem hb_eq {σ : Sg} {s : Int64} {i : Nat} (hi : i < 64) : hbF (lv σ) (bkS σ) s i = if s.toBitVec.getLsbD i = true then bk σ i else 0 := by
  unfold hbF bk
  rw [mbr_bit s hi]
  cases lv σ i <;> cases s.toBitVec.getLsbD i <;> simp
theorem hb_gon {σ : Sg} (hI : Inv σ) {s : Int64} {gs : Nat → Bool} (h : ∀ i, i < σ.nfl → s.toBitVec.getLsbD i = gs i) : orr (hbF (lv σ) (bkS σ) s) σ.nfl = orr (gon σ gs) σ.nfl :=
  orr_cong (fun i hi => by have := hI.le; rw [hb_eq (by omega), h i hi]; rfl)
theorem hb_kep {σ : Sg} (hI : Inv σ) {s : Int64} {gs : Nat → Bool} (h : ∀ i, i < σ.nfl → s.toBitVec.getLsbD i = gs i) : orr (hbF (lv σ) (bkS σ) (s ^^^ (-1))) σ.nfl = orr (kep σ gs) σ.nfl :=
  orr_cong (fun i hi => by have := hI.le; rw [hb_eq (by omega), not_bit s (by omega), h i hi]; unfold kep; cases gs i <;> simp)
theorem hb_all {σ : Sg} (hI : Inv σ) : orr (hbF (lv σ) (bkS σ) (-1)) σ.nfl = allS σ :=
  orr_cong (fun i hi => by
    have := hI.le
    rw [hb_eq (by omega), show (-1 : Int64).toBitVec = BitVec.allOnes 64 from by decide, BitVec.getLsbD_allOnes]
    simp; omega)

