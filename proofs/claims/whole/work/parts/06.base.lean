/-! Numbers, truth values, rows of J in the forms that the walks use. -/
theorem ic_m1 : Int32.ofInt (-1) = -1 := by decide
theorem ic_0 : Int32.ofInt (0) = nI 0 := by decide
theorem ic_1 : Int32.ofInt (1) = nI 1 := by decide
theorem ic_2 : Int32.ofInt (2) = nI 2 := by decide
theorem ic_3 : Int32.ofInt (3) = nI 3 := by decide
theorem ic_4 : Int32.ofInt (4) = nI 4 := by decide
theorem ic_5 : Int32.ofInt (5) = nI 5 := by decide
theorem bp_6 : (Int8.ofInt (6)).toInt32 = nI 6 := by decide
theorem bp_7 : (Int8.ofInt (7)).toInt32 = nI 7 := by decide
theorem bp_8 : (Int8.ofInt (8)).toInt32 = nI 8 := by decide
theorem bp_12 : (Int8.ofInt (12)).toInt32 = nI 12 := by decide
theorem bp_16 : (Int8.ofInt (16)).toInt32 = nI 16 := by decide
theorem bp_20 : (Int8.ofInt (20)).toInt32 = nI 20 := by decide
theorem bp_30 : (Int8.ofInt (30)).toInt32 = nI 30 := by decide
theorem bp_31 : (Int8.ofInt (31)).toInt32 = nI 31 := by decide
theorem bp_32 : (Int8.ofInt (32)).toInt32 = nI 32 := by decide
theorem bp_40 : (Int8.ofInt (40)).toInt32 = nI 40 := by decide
theorem bp_59 : (Int8.ofInt (59)).toInt32 = nI 59 := by decide
theorem bp_60 : (Int8.ofInt (60)).toInt32 = nI 60 := by decide
theorem bp_100 : (Int8.ofInt (100)).toInt32 = nI 100 := by decide
theorem bp_127 : (Int8.ofInt (127)).toInt32 = nI 127 := by decide
theorem sp_500 : (Int16.ofInt (500)).toInt32 = nI 500 := by decide
theorem sp_600 : (Int16.ofInt (600)).toInt32 = nI 600 := by decide
theorem sp_999 : (Int16.ofInt (999)).toInt32 = nI 999 := by decide
theorem sp_1000 : (Int16.ofInt (1000)).toInt32 = nI 1000 := by decide
theorem sp_2400 : (Int16.ofInt (2400)).toInt32 = nI 2400 := by decide
theorem sp_5000 : (Int16.ofInt (5000)).toInt32 = nI 5000 := by decide
theorem sp_12000 : (Int16.ofInt (12000)).toInt32 = nI 12000 := by decide
theorem lc_0 : Int64.ofNat ((0 : Fin 2) : Nat) = 0 := rfl
theorem lc_1 : Int64.ofNat ((1 : Fin 2) : Nat) = 1 := rfl
def bI (b : Bool) : Int32 := cond b (nI 1) (nI 0)
theorem bI_nar (b : Bool) : vp_nar .boolean (bI b) = bI b := by cases b <;> decide
theorem nar_0 : vp_nar .boolean (nI 0) = nI 0 := by decide
theorem nar_1 : vp_nar .boolean (nI 1) = nI 1 := by decide
theorem bI_0 {b : Bool} : bI b = 0 ↔ b = false := by cases b <;> decide
theorem bI_t {b : Bool} (h : b = true) : nI 1 = bI b := by subst h; rfl
theorem bI_f {b : Bool} (h : b = false) : nI 0 = bI b := by subst h; rfl
theorem inc_n (i : Nat) : nI i + Int32.ofInt 1 = nI (i + 1) := by rw [show Int32.ofInt 1 = 1 from by decide]; exact nI_1 i
theorem dec_n (i : Nat) : nI (i + 1) + Int32.ofInt (-1) = nI i := by rw [show Int32.ofInt (-1) = -1 from by decide]; exact pk_m1 i
/-- a number of n, as Java's tests say it -/
def inN (x : Int32) (n : Nat) : Bool := decide (0 ≤ x.toInt) && decide (x.toInt < (n : Int))
theorem inN_of {x : Int32} {n : Nat} (h : inN x n = true) : ∃ i, i < n ∧ x = nI i := by
  simp [inN] at h
  have h0 : ¬ x < 0 := by rw [Int32.lt_iff_toInt_lt]; simp; omega
  obtain ⟨i, hi, rfl⟩ := nI_of h0
  rw [nI_toInt hi] at h
  exact ⟨i, by omega, rfl⟩
theorem inN_nI {i n : Nat} (hi : i < 2 ^ 31) : inN (nI i) n = decide (i < n) := by
  simp [inN, nI_toInt hi]
theorem lt0_iff {x : Int32} : x < 0 ↔ x.toInt < 0 := by rw [Int32.lt_iff_toInt_lt]; simp
theorem inN_no0 {x : Int32} {n : Nat} (h : x < 0) : inN x n = false := by
  have := lt0_iff.mp h
  simp [inN]; omega
theorem inN_noN {x : Int32} {n : Nat} (hn : n < 2 ^ 31) (h : nI n ≤ x) : inN x n = false := by
  rw [Int32.le_iff_toInt_le, nI_toInt hn] at h
  simp [inN]; omega
theorem inN_yes {x : Int32} {n : Nat} (hn : n < 2 ^ 31) (h : ¬ x < 0) (h2 : ¬ nI n ≤ x) : inN x n = true := by
  have h0 : ¬ x.toInt < 0 := fun q => h (lt0_iff.mpr q)
  rw [Int32.le_iff_toInt_le, nI_toInt hn] at h2
  simp [inN]; omega
theorem inN_cases (x : Int32) (n : Nat) : inN x n = false ∨ ∃ i, i < n ∧ x = nI i := by
  cases h : inN x n with
  | false => exact Or.inl rfl
  | true => exact Or.inr (inN_of h)
section JB
variable {X : CX} {g : GG} {own nm : String} {cc : ByteArray} {nL d RC RS : Nat} {ret : Option FieldType} {Q : State → Prop} {k n : Nat} {ad : AD} {C : CC} {L : List (Option Value)} {st : List Value}
theorem j_iaddN {pc a b : Nat} (h : Cx X g own nm cc nL d RC RS ret) (hd : decode cc pc = .ok (.iadd, 1)) (kk : J X g nL Q k n ad C (pc + 1) L (.int (nI (a + b)) :: st)) : J X g nL Q k n ad C pc L (.int (nI b) :: .int (nI a) :: st) := j_iadd h hd (by rw [nI_add]; exact kk)
theorem j_imulN {pc a b : Nat} (h : Cx X g own nm cc nL d RC RS ret) (hd : decode cc pc = .ok (.imul, 1)) (kk : J X g nL Q k n ad C (pc + 1) L (.int (nI (a * b)) :: st)) : J X g nL Q k n ad C pc L (.int (nI b) :: .int (nI a) :: st) := j_imul h hd (by rw [pk_mul]; exact kk)
theorem j_isubN {pc a b : Nat} (h : Cx X g own nm cc nL d RC RS ret) (hd : decode cc pc = .ok (.isub, 1)) (hab : b ≤ a) (kk : J X g nL Q k n ad C (pc + 1) L (.int (nI (a - b)) :: st)) : J X g nL Q k n ad C pc L (.int (nI b) :: .int (nI a) :: st) := j_isub h hd (by rw [pk_sub hab]; exact kk)
theorem j_if_eqB {pc tgt : Nat} {b : Bool} (h : Cx X g own nm cc nL d RC RS ret) {off : Int} (hd : decode cc pc = .ok (.ifCond .eq off, 3)) (ht : (pc : Int) + off = (tgt : Int)) (kt : b = false → J X g nL Q k n ad C tgt L st) (kf : b = true → J X g nL Q k n ad C (pc + 3) L st) : J X g nL Q k n ad C pc L (.int (bI b) :: st) :=
  j_if_eq h hd ht (fun q => kt (bI_0.mp q)) (fun q => kf (by cases b with | false => exact absurd rfl q | true => rfl))
theorem j_if_neB {pc tgt : Nat} {b : Bool} (h : Cx X g own nm cc nL d RC RS ret) {off : Int} (hd : decode cc pc = .ok (.ifCond .ne off, 3)) (ht : (pc : Int) + off = (tgt : Int)) (kt : b = true → J X g nL Q k n ad C tgt L st) (kf : b = false → J X g nL Q k n ad C (pc + 3) L st) : J X g nL Q k n ad C pc L (.int (bI b) :: st) :=
  j_if_ne h hd ht (fun q => kt (by cases b with | false => exact absurd rfl q | true => rfl)) (fun q => kf (bI_0.mp q))
theorem j_callVr {pc j idx ci np d' nb : Nat} {fs : List Value} {y : MethodName} {cb : ByteArray} {rb : Option FieldType} {As st0 rest : List Value} {v : Value} (h : Cx X g own nm cc nL d RC RS ret) (hd : decode cc pc = .ok (.invokevirtual idx, 3)) (hc : Cr (xl X) g y cb nb rb d' (.ref (ad j) :: As) ad C v) (hm : MV own idx ci y cb nb rb np) (hC : C j = some (.inr (ci, fs))) (hn : As.length = np) (hst : st0 = As.reverse ++ .ref (ad j) :: rest) (hdd : d' + 1 ≤ d) (hcat : (rest.map fun v => v.category).sum ≤ 8) (hcm : k ≤ RC) (hsm : n ≤ RS)
    (kk : J X g nL Q k n ad C (pc + 3) L (v :: rest)) : J X g nL Q k n ad C pc L st0 :=
  j_callV h hd hc hm hC hn hst hdd hcat hcm hsm (fun v' ad' C' hp => by obtain ⟨rfl, rfl, rfl⟩ := hp; exact kk)
theorem j_callSr {pc idx np d' nb : Nat} {y : MethodName} {cb : ByteArray} {rb : Option FieldType} {As st0 rest : List Value} {v : Value} (h : Cx X g own nm cc nL d RC RS ret) (hd : decode cc pc = .ok (.invokestatic idx, 3)) (hc : Cr (xl X) g y cb nb rb d' As ad C v) (hm : MS own idx y cb nb rb np) (hn : As.length = np) (hst : st0 = As.reverse ++ rest) (hdd : d' + 1 ≤ d) (hcat : (rest.map fun v => v.category).sum ≤ 8) (hcm : k ≤ RC) (hsm : n ≤ RS)
    (kk : J X g nL Q k n ad C (pc + 3) L (v :: rest)) : J X g nL Q k n ad C pc L st0 :=
  j_callS h hd hc hm hn hst hdd hcat hcm hsm (fun v' ad' C' hp => by obtain ⟨rfl, rfl, rfl⟩ := hp; exact kk)
theorem j_iretr {pc : Nat} {v r : Int32} (h : Cx X g own nm cc nL d 0 0 (some .int)) (hd : decode cc pc = .ok (.ireturn, 1)) (e : v = r) : J X g nL (QX X g 0 0 (fun r' ad' C' => r' = some (.int r) ∧ ad' = ad ∧ C' = C)) 0 0 ad C pc L [.int v] := j_iret h hd ⟨by rw [e], rfl, rfl⟩
theorem j_zretr {pc : Nat} {v r : Int32} (h : Cx X g own nm cc nL d 0 0 (some .boolean)) (hd : decode cc pc = .ok (.ireturn, 1)) (hn : vp_nar .boolean v = v) (e : v = r) : J X g nL (QX X g 0 0 (fun r' ad' C' => r' = some (.int r) ∧ ad' = ad ∧ C' = C)) 0 0 ad C pc L [.int v] := j_zret h hd hn ⟨by rw [e], rfl, rfl⟩
theorem j_lretr {pc : Nat} {v r : Int64} (h : Cx X g own nm cc nL d 0 0 (some .long)) (hd : decode cc pc = .ok (.lreturn, 1)) (e : v = r) : J X g nL (QX X g 0 0 (fun r' ad' C' => r' = some (.long r) ∧ ad' = ad ∧ C' = C)) 0 0 ad C pc L [.long v] := j_lret h hd ⟨by rw [e], rfl, rfl⟩
end JB
/-- how many below n -/
def cnt (p : Nat → Bool) : Nat → Nat
  | 0 => 0
  | n + 1 => cnt p n + (if p n then 1 else 0)
theorem cnt_le (p : Nat → Bool) : ∀ n, cnt p n ≤ n
  | 0 => Nat.le_refl _
  | n + 1 => by have := cnt_le p n; rw [cnt]; split <;> omega
theorem cnt_t {p : Nat → Bool} {n : Nat} (h : p n = true) : cnt p (n + 1) = cnt p n + 1 := by rw [cnt, if_pos h]
theorem cnt_f {p : Nat → Bool} {n : Nat} (h : p n = false) : cnt p (n + 1) = cnt p n := by rw [cnt, if_neg (by rw [h]; decide)]; rfl
theorem cnt_cong {p q : Nat → Bool} : ∀ {n : Nat}, (∀ k, k < n → p k = q k) → cnt p n = cnt q n
  | 0, _ => rfl
  | n + 1, h => by rw [cnt, cnt, cnt_cong (fun k hk => h k (by omega)), h n (by omega)]
/-- the or of all below n -/
def orr (f : Nat → Int64) : Nat → Int64
  | 0 => 0
  | n + 1 => orr f n ||| f n
theorem orr_cong {p q : Nat → Int64} : ∀ {n : Nat}, (∀ k, k < n → p k = q k) → orr p n = orr q n
  | 0, _ => rfl
  | n + 1, h => by rw [orr, orr, orr_cong (fun k hk => h k (by omega)), h n (by omega)]
/-- is there one below n -/
def anyN (p : Nat → Bool) : Nat → Bool
  | 0 => false
  | n + 1 => anyN p n || p n
theorem anyN_iff {p : Nat → Bool} : ∀ {n : Nat}, anyN p n = true ↔ ∃ k, k < n ∧ p k = true
  | 0 => by simp [anyN]
  | n + 1 => by
    rw [anyN, Bool.or_eq_true, anyN_iff]
    constructor
    · rintro (⟨k, hk, h⟩ | h)
      · exact ⟨k, by omega, h⟩
      · exact ⟨n, by omega, h⟩
    · rintro ⟨k, hk, h⟩
      rcases Nat.lt_or_ge k n with q | q
      · exact Or.inl ⟨k, q, h⟩
      · obtain rfl : k = n := by omega
        exact Or.inr h
theorem anyN_no {p : Nat → Bool} {n : Nat} (h : ∀ k, k < n → p k = false) : anyN p n = false := by
  cases e : anyN p n with
  | false => rfl
  | true => obtain ⟨k, hk, q⟩ := anyN_iff.mp e; rw [h k hk] at q; cases q
theorem anyN_yes {p : Nat → Bool} {n k : Nat} (hk : k < n) (h : p k = true) : anyN p n = true := anyN_iff.mpr ⟨k, hk, h⟩
theorem anyN_cong {p q : Nat → Bool} : ∀ {n : Nat}, (∀ k, k < n → p k = q k) → anyN p n = anyN q n
  | 0, _ => rfl
  | n + 1, h => by rw [anyN, anyN, anyN_cong (fun k hk => h k (by omega)), h n (by omega)]
/-- from i on, m more: the one with x of its kind ahead of it -/
def scan (p : Nat → Bool) (x : Int32) : Nat → Nat → Int32
  | _, 0 => -1
  | i, m + 1 => if p i = true ∧ nI (cnt p i) = x then nI i else scan p x (i + 1) m
theorem scan_cong {p q : Nat → Bool} {x : Int32} : ∀ {m i : Nat}, (∀ k, k < i + m → p k = q k) → scan p x i m = scan q x i m
  | 0, _, _ => rfl
  | m + 1, i, h => by
    have hc : cnt p i = cnt q i := cnt_cong (fun k hk => h k (by omega))
    rw [scan, scan, h i (by omega), hc, scan_cong (m := m) (i := i + 1) (fun k hk => h k (by omega))]
theorem nI_lt_of {a b : Nat} (h : nI a < nI b) (ha : a < 2 ^ 31) (hb : b < 2 ^ 31) : a < b := (nI_ltI ha hb).mp h
theorem nI_le_of {a b : Nat} (h : nI a ≤ nI b) (ha : a < 2 ^ 31) (hb : b < 2 ^ 31) : a ≤ b := (nI_leI ha hb).mp h
theorem nI_inj {a b : Nat} (h : nI a = nI b) (ha : a < 2 ^ 31) (hb : b < 2 ^ 31) : a = b := (nI_eq ha hb).mp h
theorem nI_m1 {a : Nat} (ha : a < 2 ^ 31) : nI a ≠ -1 := by
  intro h
  have h2 := congrArg Int32.toInt h
  rw [nI_toInt ha] at h2
  have h3 : (-1 : Int32).toInt = -1 := by decide
  omega

