/-! The store's state, as both programs hold it; what is asked of it. -/
def Sg : Type := (Nat → Nat) × (Nat → Nat → Nat) × (Nat → Nat → Bool) × (Nat → Nat → Int32) × (Nat → Option Nat) × (Nat → Int64)
def Sg.nf (σ : Sg) : Nat := σ.1 0
def Sg.nfl (σ : Sg) : Nat := σ.1 1
def Sg.nn (σ : Sg) : Nat := σ.1 2
def Sg.nm (σ : Sg) : Nat := σ.1 3
def Sg.now (σ : Sg) : Nat := σ.1 4
def Sg.cap (σ : Sg) : Nat := σ.1 5
def Sg.pr (σ : Sg) : Nat → Nat := σ.2.1 0
def Sg.ln (σ : Sg) : Nat → Nat := σ.2.1 1
def Sg.wo (σ : Sg) : Nat → Nat := σ.2.1 2
def Sg.fl (σ : Sg) : Nat → Nat := σ.2.1 3
def Sg.ni (σ : Sg) : Nat → Nat := σ.2.1 4
def Sg.md (σ : Sg) : Nat → Nat := σ.2.1 5
def Sg.mt (σ : Sg) : Nat → Nat := σ.2.1 6
def Sg.hd (σ : Sg) : Nat → Bool := σ.2.2.1 0
def Sg.tb (σ : Sg) : Nat → Bool := σ.2.2.1 1
def Sg.sb (σ : Sg) : Nat → Bool := σ.2.2.1 2
def Sg.fow (σ : Sg) : Nat → Int32 := σ.2.2.2.1 0
def Sg.ow (σ : Sg) : Nat → Int32 := σ.2.2.2.1 1
def Sg.ch (σ : Sg) : Nat → Int32 := σ.2.2.2.1 2
def Sg.rb (σ : Sg) : Nat → Option Nat := σ.2.2.2.2.1
def Sg.sh (σ : Sg) : Nat → Int64 := σ.2.2.2.2.2
def Sg.uK (σ : Sg) (i v : Nat) : Sg := (va_up σ.1 i v, σ.2)
def Sg.uN (σ : Sg) (i : Nat) (f : Nat → Nat) : Sg := (σ.1, va_up σ.2.1 i f, σ.2.2)
def Sg.uB (σ : Sg) (i : Nat) (f : Nat → Bool) : Sg := (σ.1, σ.2.1, va_up σ.2.2.1 i f, σ.2.2.2)
def Sg.uI (σ : Sg) (i : Nat) (f : Nat → Int32) : Sg := (σ.1, σ.2.1, σ.2.2.1, va_up σ.2.2.2.1 i f, σ.2.2.2.2)
def Sg.uR (σ : Sg) (f : Nat → Option Nat) : Sg := (σ.1, σ.2.1, σ.2.2.1, σ.2.2.2.1, f, σ.2.2.2.2.2)
def Sg.uS (σ : Sg) (f : Nat → Int64) : Sg := (σ.1, σ.2.1, σ.2.2.1, σ.2.2.2.1, σ.2.2.2.2.1, f)
/-- no bit from the sixtieth on -/
def lo60 (v : Int64) : Prop := ∀ i, 60 ≤ i → v.toBitVec.getLsbD i = false
/-- what holds in every state -/
def Inv (σ : Sg) : Prop := (1 ≤ σ.nf ∧ σ.nf ≤ 30 ∧ σ.nfl ≤ 40 ∧ σ.nn ≤ 100 ∧ σ.nm ≤ 20 ∧ σ.now ≤ 5000 ∧ 1 ≤ σ.cap ∧ σ.cap ≤ 60) ∧
  (∀ j, j < σ.nf → okc σ.pr σ.nf 29 j) ∧ (∀ j, j < σ.nf → j ≠ 0 → σ.pr j < σ.nf) ∧ (∀ k, k < σ.nn → σ.fl k < σ.nfl ∧ σ.ni k < σ.nf) ∧
  (∀ i, i < σ.nfl → σ.ln i ≤ 60 ∧ σ.wo i ≤ 999 ∧ inN (σ.ow i) 6 = true) ∧ (∀ i, σ.nfl ≤ i → σ.ln i = 0) ∧ (∀ q b, σ.rb q = some b → b < 60) ∧ (∀ s, lo60 (σ.sh s))
/-- and of the marks -/
def InvM (σ : Sg) : Prop := (∀ k, k < σ.nm → σ.md k ≤ σ.now) ∧ (∀ k, k + 1 < σ.nm → σ.md k ≤ σ.md (k + 1)) ∧ (∀ q, 30 * σ.nm ≤ q → σ.mt q = 0) ∧ (∀ q, σ.mt q ≤ 64)
/-- how many names a file has; whether it is there -/
def nms (σ : Sg) (i : Nat) : Nat := cnt (fun k => σ.tb k && σ.fl k == i) σ.nn
def lv (σ : Sg) (i : Nat) : Bool := decide (0 < nms σ i)
/-- the blocks of a file -/
def bkS (σ : Sg) (i : Nat) : Int64 := orr (fun p => bO (σ.rb (60 * i + p))) (σ.ln i)
def bk (σ : Sg) (i : Nat) : Int64 := if lv σ i = true then bkS σ i else 0
def allS (σ : Sg) : Int64 := orr (bk σ) σ.nfl
def shS (σ : Sg) (x : Int32) : Int64 := orr (shF σ.sb σ.sh x) 8
/-- file i has a name in t's tree; one outside of it -/
def isn (σ : Sg) (i t : Nat) : Bool := anyN (fun k => σ.tb k && σ.fl k == i && anc σ.pr 29 (σ.ni k) t) σ.nn
def iso (σ : Sg) (i t : Nat) : Bool := anyN (fun k => σ.tb k && σ.fl k == i && !anc σ.pr 29 (σ.ni k) t) σ.nn
def tkV (σ : Sg) (t : Nat) : Int64 := orr (fun i => if isn σ i t = true then bk σ i else 0) σ.nfl
def tkS (σ : Sg) (t : Nat) : Nat := pcn (tkV σ t)
/-- the reference's own rows beside the state: goes, few, blocks, best worth, best set -/
def Tm : Type := (Nat → Bool) × (Nat → Int32) × (Nat → Int64) × Int32 × Int32
def oMo (ad : AD) (σ : Sg) (τ : Tm) : va_E := eC 8 [.int (nI σ.now), .int (nI σ.nf), .ref (ad 21), .ref (ad 22), .ref (ad 23), .int (nI σ.nfl), .ref (ad 24), .ref (ad 25), .ref (ad 26), .ref (ad 27), .ref (ad 28), .int (nI σ.nn), .ref (ad 29), .ref (ad 30), .ref (ad 31), .ref (ad 32), .ref (ad 33), .int (nI σ.nm), .ref (ad 34), .ref (ad 35), .int (nI σ.cap), .ref (ad 36), .ref (ad 37), .ref (ad 38), .int τ.2.2.2.1, .int τ.2.2.2.2]
/-- the reference's cells -/
def MW (g : GG) (ad : AD) (σ : Sg) (τ : Tm) (C : CC) : Prop := C 20 = some (oMo ad σ τ) ∧ C 21 = some (eI g 30 (parF σ.pr)) ∧ C 22 = some (eI g 30 σ.fow) ∧ C 23 = some (eZ g 30 (bF σ.hd)) ∧ C 24 = some (eI g 40 (fun i => nI (σ.ln i))) ∧ C 25 = some (eI g 2400 (fun q => rI (σ.rb q))) ∧ C 26 = some (eI g 40 σ.ow) ∧ C 27 = some (eI g 40 (fun i => nI (σ.wo i))) ∧ C 28 = some (eI g 40 σ.ch) ∧ C 29 = some (eI g 100 (fun k => nI (σ.fl k))) ∧ C 30 = some (eI g 100 (fun k => nI (σ.ni k))) ∧ C 31 = some (eZ g 100 (bF σ.tb)) ∧ C 32 = some (eZ g 8 (bF σ.sb)) ∧ C 33 = some (eJ g 8 σ.sh) ∧ C 34 = some (eI g 20 (fun i => nI (σ.md i))) ∧ C 35 = some (eI g 600 (fun q => nI (σ.mt q))) ∧ C 36 = some (eZ g 40 (bF τ.1)) ∧ C 37 = some (eI g 12 τ.2.1) ∧ C 38 = some (eJ g 40 τ.2.2.1)
/-- the class's cells stay -/
def frM (C C' : CC) : Prop := ∀ j, (j < 20 ∨ 39 ≤ j) → C' j = C j
theorem frM_up {C C' : CC} {k : Nat} {v : Option va_E} (h : frM C C') (h1 : 20 ≤ k) (h2 : k < 39) : frM C (va_up C' k v) := fun j hj => by rw [va_up_ne _ _ (by omega)]; exact h j hj
theorem frM_rf (C : CC) : frM C C := fun _ _ => rfl
theorem Inv.le {σ : Sg} (h : Inv σ) : 1 ≤ σ.nf ∧ σ.nf ≤ 30 ∧ σ.nfl ≤ 40 ∧ σ.nn ≤ 100 ∧ σ.nm ≤ 20 ∧ σ.now ≤ 5000 ∧ 1 ≤ σ.cap ∧ σ.cap ≤ 60 := h.1
theorem Inv.ok {σ : Sg} (h : Inv σ) : ∀ j, j < σ.nf → okc σ.pr σ.nf 29 j := h.2.1
theorem Inv.pr {σ : Sg} (h : Inv σ) : ∀ j, j < σ.nf → j ≠ 0 → σ.pr j < σ.nf := h.2.2.1
theorem Inv.nam {σ : Sg} (h : Inv σ) : ∀ k, k < σ.nn → σ.fl k < σ.nfl ∧ σ.ni k < σ.nf := h.2.2.2.1
theorem Inv.fil {σ : Sg} (h : Inv σ) : ∀ i, i < σ.nfl → σ.ln i ≤ 60 ∧ σ.wo i ≤ 999 ∧ inN (σ.ow i) 6 = true := h.2.2.2.2.1
theorem Inv.ln0 {σ : Sg} (h : Inv σ) : ∀ i, σ.nfl ≤ i → σ.ln i = 0 := h.2.2.2.2.2.1
theorem Inv.blk {σ : Sg} (h : Inv σ) : ∀ q b, σ.rb q = some b → b < 60 := h.2.2.2.2.2.2.1
theorem Inv.sh {σ : Sg} (h : Inv σ) : ∀ s, lo60 (σ.sh s) := h.2.2.2.2.2.2.2
/-- sets below sixty -/
theorem lo60_0 : lo60 0 := fun i _ => by simp
theorem lo60_or {a b : Int64} (ha : lo60 a) (hb : lo60 b) : lo60 (a ||| b) := fun i hi => by
  rw [Int64.toBitVec_or, BitVec.getLsbD_or, ha i hi, hb i hi]; rfl
theorem lo60_and {a b : Int64} (ha : lo60 a) : lo60 (a &&& b) := fun i hi => by
  rw [Int64.toBitVec_and, BitVec.getLsbD_and, ha i hi]; rfl
theorem lo60_orr {f : Nat → Int64} : ∀ {n : Nat}, (∀ i, i < n → lo60 (f i)) → lo60 (orr f n)
  | 0, _ => lo60_0
  | n + 1, h => lo60_or (lo60_orr (fun i hi => h i (by omega))) (h n (by omega))
/-- one bit -/
theorem b1_bit {b : Nat} (hb : b < 64) (i : Nat) : (b1 (nI b)).toBitVec.getLsbD i = decide (i = b) := by
  unfold b1
  rw [show (1 : Int64) = lN 1 from rfl, wb_shl 1 hb, Nat.one_mul, wb_tb, BitVec.getLsbD_ofNat]
  by_cases h : i = b
  · subst h; simp [hb]
  · simp [h, Nat.testBit_two_pow]; omega
theorem lo60_b1 {b : Nat} (hb : b < 60) : lo60 (b1 (nI b)) := fun i hi => by
  rw [b1_bit (by omega)]; simp; omega
theorem lo60_bO {σ : Sg} (h : Inv σ) (q : Nat) : lo60 (bO (σ.rb q)) := by
  cases e : σ.rb q with
  | none => exact lo60_0
  | some b => exact lo60_b1 (h.blk q b e)
theorem lo60_bk {σ : Sg} (h : Inv σ) (i : Nat) : lo60 (bk σ i) := by
  unfold bk
  split
  · exact lo60_orr (fun p _ => lo60_bO h _)
  · exact lo60_0
theorem lo60_all {σ : Sg} (h : Inv σ) : lo60 (allS σ) := lo60_orr (fun i _ => lo60_bk h i)
theorem lo60_sh {σ : Sg} (h : Inv σ) (x : Int32) : lo60 (shS σ x) := lo60_orr (fun i _ => by unfold shF; split; exact h.sh i; exact lo60_0)
theorem lo60_tk {σ : Sg} (h : Inv σ) (t : Nat) : lo60 (tkV σ t) := lo60_orr (fun i _ => by split; exact lo60_bk h i; exact lo60_0)
def p60 (v : Int64) : Nat := cnt (fun i => v.toBitVec.getLsbD i) 60
theorem p60_eq {v : Int64} (h : lo60 v) : p60 v = pcn v := by
  have e := cnt_split (fun i => v.toBitVec.getLsbD i) 60 4
  have e2 : cnt (fun i => v.toBitVec.getLsbD (60 + i)) 4 = 0 := by
    rw [cnt_cong (q := fun _ => false) (fun k _ => h _ (by omega))]; rfl
  rw [e2] at e
  exact e.symm
/-- a set's test is its bit -/
theorem shr1 (v : Int64) {i : Nat} (hi : i < 64) : (v >>> ((nI i).toInt64 &&& 63)) &&& 1 = if v.toBitVec.getLsbD i = true then 1 else 0 := by
  rw [wb_c i hi]
  apply wb_inj
  rw [Int64.toBitVec_and, Int64.toBitVec_shiftRight, wb_tb, wb_sm i hi]
  apply BitVec.eq_of_getLsbD_eq
  intro j hj
  rw [BitVec.getLsbD_and, BitVec.sshiftRight_eq', BitVec.toNat_ofNat, Nat.mod_eq_of_lt (show i < 2 ^ 64 by omega)]
  by_cases h0 : j = 0
  · subst h0
    rw [BitVec.getLsbD_sshiftRight]
    cases e : v.toBitVec.getLsbD i <;> simp [hi, e] <;> decide
  · have : (1 : Int64).toBitVec.getLsbD j = false := by
      rw [show (1 : Int64) = lN 1 from rfl, wb_tb, BitVec.getLsbD_ofNat, show (1 : Nat) = 2 ^ 0 from rfl, Nat.testBit_two_pow]
      simp
      omega
    rw [this]
    cases e : v.toBitVec.getLsbD i
    · simp
    · simp; exact h0
theorem mbr_bit (v : Int64) {i : Nat} (hi : i < 64) : mbr v (nI i) = v.toBitVec.getLsbD i := by
  unfold mbr
  rw [shr1 v hi]
  cases e : v.toBitVec.getLsbD i <;> simp
theorem shr1_32 (v : Int64) {i : Nat} (hi : i < 64) : ((v >>> ((nI i).toInt64 &&& 63)) &&& 1).toInt32 = nI (if v.toBitVec.getLsbD i = true then 1 else 0) := by
  rw [shr1 v hi]
  cases e : v.toBitVec.getLsbD i <;> simp <;> decide
/-- the reference's test of a range -/
def rng (x a b : Int32) : Bool := decide (a ≤ x) && decide (x ≤ b)
theorem rng_n {x : Int32} {n : Nat} (hn : n < 2 ^ 30) : rng x (nI 0) (nI n - nI 1) = inN x n := by
  unfold rng inN
  have e := pk_sub_toInt hn (show 1 < 2 ^ 30 by decide)
  have e1 : decide (nI 0 ≤ x) = decide (0 ≤ x.toInt) := decide_eq_decide.mpr (by rw [Int32.le_iff_toInt_le]; rfl)
  have e2 : decide (x ≤ nI n - nI 1) = decide (x.toInt < (n : Int)) := decide_eq_decide.mpr (by rw [Int32.le_iff_toInt_le, e]; omega)
  rw [e1, e2]
theorem rng_m {x : Int32} {n : Nat} (hn : n + 1 < 2 ^ 30) : rng x (nI 0) (nI n) = inN x (n + 1) := by
  rw [← rng_n (n := n + 1) hn]
  rw [show nI (n + 1) - nI 1 = nI n from by rw [pk_sub (by omega)]; rfl]

