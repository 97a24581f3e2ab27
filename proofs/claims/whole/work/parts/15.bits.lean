theorem dJ13_bitCount_95d88_0 : decode cJ13_bitCount_95d88 0 = .ok (.lload_n 0, 1) := by decide +kernel
theorem dJ13_bitCount_95d88_1 : decode cJ13_bitCount_95d88 1 = .ok (.lload_n 0, 1) := by decide +kernel
theorem dJ13_bitCount_95d88_2 : decode cJ13_bitCount_95d88 2 = .ok (.iconst 1, 1) := by decide +kernel
theorem dJ13_bitCount_95d88_3 : decode cJ13_bitCount_95d88 3 = .ok (.lushr, 1) := by decide +kernel
theorem dJ13_bitCount_95d88_4 : decode cJ13_bitCount_95d88 4 = .ok (.ldc2_w 314, 3) := by decide +kernel
theorem dJ13_bitCount_95d88_7 : decode cJ13_bitCount_95d88 7 = .ok (.land, 1) := by decide +kernel
theorem dJ13_bitCount_95d88_8 : decode cJ13_bitCount_95d88 8 = .ok (.lsub, 1) := by decide +kernel
theorem dJ13_bitCount_95d88_9 : decode cJ13_bitCount_95d88 9 = .ok (.lstore_n 0, 1) := by decide +kernel
theorem dJ13_bitCount_95d88_10 : decode cJ13_bitCount_95d88 10 = .ok (.lload_n 0, 1) := by decide +kernel
theorem dJ13_bitCount_95d88_11 : decode cJ13_bitCount_95d88 11 = .ok (.ldc2_w 316, 3) := by decide +kernel
theorem dJ13_bitCount_95d88_14 : decode cJ13_bitCount_95d88 14 = .ok (.land, 1) := by decide +kernel
theorem dJ13_bitCount_95d88_15 : decode cJ13_bitCount_95d88 15 = .ok (.lload_n 0, 1) := by decide +kernel
theorem dJ13_bitCount_95d88_16 : decode cJ13_bitCount_95d88 16 = .ok (.iconst 2, 1) := by decide +kernel
theorem dJ13_bitCount_95d88_17 : decode cJ13_bitCount_95d88 17 = .ok (.lushr, 1) := by decide +kernel
theorem dJ13_bitCount_95d88_18 : decode cJ13_bitCount_95d88 18 = .ok (.ldc2_w 316, 3) := by decide +kernel
theorem dJ13_bitCount_95d88_21 : decode cJ13_bitCount_95d88 21 = .ok (.land, 1) := by decide +kernel
theorem dJ13_bitCount_95d88_22 : decode cJ13_bitCount_95d88 22 = .ok (.ladd, 1) := by decide +kernel
theorem dJ13_bitCount_95d88_23 : decode cJ13_bitCount_95d88 23 = .ok (.lstore_n 0, 1) := by decide +kernel
theorem dJ13_bitCount_95d88_24 : decode cJ13_bitCount_95d88 24 = .ok (.lload_n 0, 1) := by decide +kernel
theorem dJ13_bitCount_95d88_25 : decode cJ13_bitCount_95d88 25 = .ok (.lload_n 0, 1) := by decide +kernel
theorem dJ13_bitCount_95d88_26 : decode cJ13_bitCount_95d88 26 = .ok (.iconst 4, 1) := by decide +kernel
theorem dJ13_bitCount_95d88_27 : decode cJ13_bitCount_95d88 27 = .ok (.lushr, 1) := by decide +kernel
theorem dJ13_bitCount_95d88_28 : decode cJ13_bitCount_95d88 28 = .ok (.ladd, 1) := by decide +kernel
theorem dJ13_bitCount_95d88_29 : decode cJ13_bitCount_95d88 29 = .ok (.ldc2_w 318, 3) := by decide +kernel
theorem dJ13_bitCount_95d88_32 : decode cJ13_bitCount_95d88 32 = .ok (.land, 1) := by decide +kernel
theorem dJ13_bitCount_95d88_33 : decode cJ13_bitCount_95d88 33 = .ok (.lstore_n 0, 1) := by decide +kernel
theorem dJ13_bitCount_95d88_34 : decode cJ13_bitCount_95d88 34 = .ok (.lload_n 0, 1) := by decide +kernel
theorem dJ13_bitCount_95d88_35 : decode cJ13_bitCount_95d88 35 = .ok (.lload_n 0, 1) := by decide +kernel
theorem dJ13_bitCount_95d88_36 : decode cJ13_bitCount_95d88 36 = .ok (.bipush 8, 2) := by decide +kernel
theorem dJ13_bitCount_95d88_38 : decode cJ13_bitCount_95d88 38 = .ok (.lushr, 1) := by decide +kernel
theorem dJ13_bitCount_95d88_39 : decode cJ13_bitCount_95d88 39 = .ok (.ladd, 1) := by decide +kernel
theorem dJ13_bitCount_95d88_40 : decode cJ13_bitCount_95d88 40 = .ok (.lstore_n 0, 1) := by decide +kernel
theorem dJ13_bitCount_95d88_41 : decode cJ13_bitCount_95d88 41 = .ok (.lload_n 0, 1) := by decide +kernel
theorem dJ13_bitCount_95d88_42 : decode cJ13_bitCount_95d88 42 = .ok (.lload_n 0, 1) := by decide +kernel
theorem dJ13_bitCount_95d88_43 : decode cJ13_bitCount_95d88 43 = .ok (.bipush 16, 2) := by decide +kernel
theorem dJ13_bitCount_95d88_45 : decode cJ13_bitCount_95d88 45 = .ok (.lushr, 1) := by decide +kernel
theorem dJ13_bitCount_95d88_46 : decode cJ13_bitCount_95d88 46 = .ok (.ladd, 1) := by decide +kernel
theorem dJ13_bitCount_95d88_47 : decode cJ13_bitCount_95d88 47 = .ok (.lstore_n 0, 1) := by decide +kernel
theorem dJ13_bitCount_95d88_48 : decode cJ13_bitCount_95d88 48 = .ok (.lload_n 0, 1) := by decide +kernel
theorem dJ13_bitCount_95d88_49 : decode cJ13_bitCount_95d88 49 = .ok (.lload_n 0, 1) := by decide +kernel
theorem dJ13_bitCount_95d88_50 : decode cJ13_bitCount_95d88 50 = .ok (.bipush 32, 2) := by decide +kernel
theorem dJ13_bitCount_95d88_52 : decode cJ13_bitCount_95d88 52 = .ok (.lushr, 1) := by decide +kernel
theorem dJ13_bitCount_95d88_53 : decode cJ13_bitCount_95d88 53 = .ok (.ladd, 1) := by decide +kernel
theorem dJ13_bitCount_95d88_54 : decode cJ13_bitCount_95d88 54 = .ok (.lstore_n 0, 1) := by decide +kernel
theorem dJ13_bitCount_95d88_55 : decode cJ13_bitCount_95d88 55 = .ok (.lload_n 0, 1) := by decide +kernel
theorem dJ13_bitCount_95d88_56 : decode cJ13_bitCount_95d88 56 = .ok (.l2i, 1) := by decide +kernel
theorem dJ13_bitCount_95d88_57 : decode cJ13_bitCount_95d88 57 = .ok (.bipush 127, 2) := by decide +kernel
theorem dJ13_bitCount_95d88_59 : decode cJ13_bitCount_95d88 59 = .ok (.iand, 1) := by decide +kernel
theorem dJ13_bitCount_95d88_60 : decode cJ13_bitCount_95d88 60 = .ok (.ireturn, 1) := by decide +kernel
/-! Bits of longs (the family wb_ is the kit's, pasted), and Long.bitCount -/
theorem wb_tb (n : Nat) : (lN n).toBitVec = BitVec.ofNat 64 n := rfl
theorem wb_inj {a b : Int64} (h : a.toBitVec = b.toBitVec) : a = b := Int64.toBitVec_inj.mp h
theorem wb_tn {n : Nat} (h : n < 2 ^ 64) : (lN n).toBitVec.toNat = n := by rw [wb_tb, BitVec.toNat_ofNat, Nat.mod_eq_of_lt h]
theorem wb_of (x : Int64) : ∃ n, n < 2 ^ 64 ∧ x = lN n := ⟨x.toBitVec.toNat, x.toBitVec.isLt, wb_inj (by rw [wb_tb]; simp)⟩
theorem wb_of32 (x : Int32) : ∃ n, n < 2 ^ 32 ∧ x = nI n := ⟨x.toBitVec.toNat, x.toBitVec.isLt, Int32.toBitVec_inj.mp (by show _ = BitVec.ofNat 32 _; simp)⟩
theorem wb_c : ∀ k, k < 64 → ((nI k).toInt64 &&& 63) = lN k := by decide +kernel
theorem wb_cu : ∀ k, k < 64 → ((nI k).toInt64.toUInt64 &&& Int64.toUInt64 63) = UInt64.ofNat k := by decide +kernel
theorem wb_sm : ∀ k, k < 64 → (BitVec.ofNat 64 k).smod 64 = BitVec.ofNat 64 k := by decide +kernel
theorem wb_pw {a b : Nat} (h : a ≤ b) : 2 ^ b = 2 ^ a * 2 ^ (b - a) := by rw [← Nat.pow_add]; congr 1; omega
theorem wb_lt2 {a b : Nat} (h : a < b) : 2 ^ a < 2 ^ b := Nat.pow_lt_pow_right (by decide) h
theorem wb_mod (n : Nat) : lN n = lN (n % 2 ^ 64) := wb_inj (by rw [wb_tb, wb_tb]; apply BitVec.eq_of_toNat_eq; rw [BitVec.toNat_ofNat, BitVec.toNat_ofNat, Nat.mod_mod])
theorem wb_shr {n k : Nat} (hn : n < 2 ^ 64) (hk : k < 64) : ((lN n).toUInt64 >>> ((nI k).toInt64.toUInt64 &&& Int64.toUInt64 63)).toInt64 = lN (n / 2 ^ k) := by
  rw [wb_cu k hk]
  apply wb_inj
  apply BitVec.eq_of_toNat_eq
  show ((lN n).toUInt64 >>> UInt64.ofNat k).toNat = (BitVec.ofNat 64 _).toNat
  have h1 : (UInt64.ofNat k).toNat = k := by
    show (BitVec.ofNat 64 k).toNat = k
    rw [BitVec.toNat_ofNat, Nat.mod_eq_of_lt (by omega)]
  have h2 : (lN n).toUInt64.toNat = n := wb_tn hn
  rw [UInt64.toNat_shiftRight, h1, h2, Nat.mod_eq_of_lt hk, Nat.shiftRight_eq_div_pow, BitVec.toNat_ofNat, Nat.mod_eq_of_lt (Nat.lt_of_le_of_lt (Nat.div_le_self _ _) hn)]
theorem wb_shl (n : Nat) {k : Nat} (hk : k < 64) : lN n <<< ((nI k).toInt64 &&& 63) = lN (n * 2 ^ k) := by
  rw [wb_c k hk]
  apply wb_inj
  rw [Int64.toBitVec_shiftLeft, wb_tb, wb_tb, wb_tb, wb_sm k hk]
  apply BitVec.eq_of_toNat_eq
  rw [BitVec.shiftLeft_eq', BitVec.toNat_shiftLeft, BitVec.toNat_ofNat, BitVec.toNat_ofNat, BitVec.toNat_ofNat, Nat.mod_eq_of_lt (show k < 2 ^ 64 by omega), Nat.shiftLeft_eq, Nat.mul_mod, Nat.mod_mod, ← Nat.mul_mod]
theorem wb_and {a b : Nat} (ha : a < 2 ^ 64) (hb : b < 2 ^ 64) : lN a &&& lN b = lN (a &&& b) := by
  apply wb_inj
  rw [Int64.toBitVec_and, wb_tb, wb_tb, wb_tb]
  apply BitVec.eq_of_toNat_eq
  rw [BitVec.toNat_and, BitVec.toNat_ofNat, BitVec.toNat_ofNat, BitVec.toNat_ofNat, Nat.mod_eq_of_lt ha, Nat.mod_eq_of_lt hb, Nat.mod_eq_of_lt (Nat.and_lt_two_pow _ hb)]
theorem wb_or {a b : Nat} (ha : a < 2 ^ 64) (hb : b < 2 ^ 64) : lN a ||| lN b = lN (a ||| b) := by
  apply wb_inj
  rw [Int64.toBitVec_or, wb_tb, wb_tb, wb_tb]
  apply BitVec.eq_of_toNat_eq
  rw [BitVec.toNat_or, BitVec.toNat_ofNat, BitVec.toNat_ofNat, BitVec.toNat_ofNat, Nat.mod_eq_of_lt ha, Nat.mod_eq_of_lt hb, Nat.mod_eq_of_lt (Nat.or_lt_two_pow ha hb)]
theorem wb_mask {n k : Nat} (hn : n < 2 ^ 64) (hk : k < 64) : lN n &&& lN (2 ^ k - 1) = lN (n % 2 ^ k) := by
  rw [wb_and hn (by have := wb_lt2 hk; omega), Nat.and_two_pow_sub_one_eq_mod]
theorem wb_a1 {n : Nat} (hn : n < 2 ^ 64) : lN n &&& 1 = lN (n % 2) := wb_mask (k := 1) hn (by decide)
theorem wb_bit {n k : Nat} (hn : n < 2 ^ 64) (hk : k < 64) : ((lN n).toUInt64 >>> ((nI k).toInt64.toUInt64 &&& Int64.toUInt64 63)).toInt64 &&& 1 = lN (n / 2 ^ k % 2) := by
  rw [wb_shr hn hk, wb_a1 (Nat.lt_of_le_of_lt (Nat.div_le_self _ _) hn)]
theorem cnt_split (p : Nat → Bool) (m : Nat) : ∀ n, cnt p (m + n) = cnt p m + cnt (fun i => p (m + i)) n
  | 0 => rfl
  | n + 1 => by rw [← Nat.add_assoc, cnt, cnt_split p m n, cnt]; omega
def mk8 (c : Nat) : Nat → Nat
  | 0 => 0
  | k + 1 => 256 * mk8 c k + c
theorem and_split (a c : Nat) {b d : Nat} (hb : b < 256) (hd : d < 256) : (256 * a + b) &&& (256 * c + d) = 256 * (a &&& c) + (b &&& d) := by
  have e1 : ((256 * a + b) &&& (256 * c + d)) / 2 ^ 8 = a &&& c := by
    rw [Nat.and_div_two_pow]
    congr 1 <;> omega
  have e2 : ((256 * a + b) &&& (256 * c + d)) % 2 ^ 8 = b &&& d := by
    rw [Nat.and_mod_two_pow]
    congr 1 <;> omega
  have := Nat.div_add_mod ((256 * a + b) &&& (256 * c + d)) (2 ^ 8)
  rw [e1, e2] at this
  omega
def ps1 (k n : Nat) : Nat := n - ((n / 2) &&& mk8 0x55 k)
def ps2 (k n : Nat) : Nat := (n &&& mk8 0x33 k) + ((n / 4) &&& mk8 0x33 k)
def ps3 (k n : Nat) : Nat := (n + n / 16) &&& mk8 0x0f k
theorem fin1 : ∀ r, r < 2 → ∀ b, b < 256 → (128 * r + b / 2) &&& 0x55 = (b / 2) &&& 0x55 := by decide +kernel
theorem fin2 : ∀ r, r < 4 → ∀ b, b < 256 → (64 * r + b / 4) &&& 0x33 = (b / 4) &&& 0x33 := by decide +kernel
def pb1 (b : Nat) : Nat := b - ((b / 2) &&& 0x55)
def pb2 (b : Nat) : Nat := (pb1 b &&& 0x33) + ((pb1 b / 4) &&& 0x33)
def pop8 (b : Nat) : Nat := cnt (fun i => b.testBit i) 8
theorem fin3 : ∀ r, r < 5 → ∀ b, b < 256 → pb2 b + (16 * r + pb2 b / 16) < 256 ∧ (pb2 b + (16 * r + pb2 b / 16)) &&& 0x0f = pop8 b := by decide +kernel
theorem fin4 : ∀ b, b < 256 → pb1 b < 256 ∧ pb2 b % 16 < 5 ∧ pb2 b < 256 := by decide +kernel
theorem ps1_s (k h b : Nat) (hb : b < 256) : ps1 (k + 1) (256 * h + b) = 256 * ps1 k h + pb1 b := by
  unfold ps1 pb1
  rw [show (256 * h + b) / 2 = 256 * (h / 2) + (128 * (h % 2) + b / 2) by omega, mk8, and_split _ _ (by omega) (by omega), fin1 _ (by omega) _ hb]
  have h1 : (h / 2) &&& mk8 0x55 k ≤ h / 2 := Nat.and_le_left
  have h2 : (b / 2) &&& 0x55 ≤ b / 2 := Nat.and_le_left
  omega
theorem ps2_s (k h b : Nat) (hb : b < 256) : ps2 (k + 1) (256 * h + b) = 256 * ps2 k h + ((b &&& 0x33) + ((b / 4) &&& 0x33)) := by
  unfold ps2
  rw [show (256 * h + b) / 4 = 256 * (h / 4) + (64 * (h % 4) + b / 4) by omega, mk8, and_split _ _ hb (by omega), and_split _ _ (by omega) (by omega), fin2 _ (by omega) _ hb]
  omega
theorem pt2_s (k h b : Nat) (hb : b < 256) : ps2 (k + 1) (ps1 (k + 1) (256 * h + b)) = 256 * ps2 k (ps1 k h) + pb2 b := by
  rw [ps1_s k h b hb, ps2_s k _ _ (fin4 b hb).1]; rfl
theorem pt2_low : ∀ k n, n < 256 ^ k → ps2 k (ps1 k n) % 16 < 5
  | 0, n, h => by
    have : n = 0 := by simpa using h
    subst this; decide
  | k + 1, n, h => by
    have e : n = 256 * (n / 256) + n % 256 := by omega
    rw [e, pt2_s k _ _ (Nat.mod_lt _ (by decide))]
    have := (fin4 (n % 256) (Nat.mod_lt _ (by decide))).2.1
    omega
def pT (k n : Nat) : Nat := ps3 k (ps2 k (ps1 k n))
theorem pT_s (k n : Nat) (hn : n < 256 ^ (k + 1)) : pT (k + 1) n = 256 * pT k (n / 256) + pop8 (n % 256) := by
  have hb : n % 256 < 256 := Nat.mod_lt _ (by decide)
  have hh : n / 256 < 256 ^ k := by
    rw [Nat.pow_succ] at hn
    exact Nat.div_lt_of_lt_mul (by rw [Nat.mul_comm]; exact hn)
  have e : n = 256 * (n / 256) + n % 256 := by omega
  have hl := pt2_low k _ hh
  unfold pT
  conv => lhs; rw [e, pt2_s k _ _ hb]
  unfold ps3
  generalize ps2 k (ps1 k (n / 256)) = z at hl
  obtain ⟨f1, f2⟩ := fin3 (z % 16) hl _ hb
  rw [show 256 * z + pb2 (n % 256) + (256 * z + pb2 (n % 256)) / 16 = 256 * (z + z / 16) + (pb2 (n % 256) + (16 * (z % 16) + pb2 (n % 256) / 16)) by omega, mk8, and_split _ _ f1 (by decide), f2]
theorem pop8_le : ∀ b, b < 256 → pop8 b ≤ 8 := by decide +kernel
theorem cnt_byte (n k : Nat) : cnt (fun i => n.testBit i) (8 + k) = pop8 (n % 256) + cnt (fun i => (n / 256).testBit i) k := by
  rw [cnt_split]
  congr 1
  · refine cnt_cong (fun i hi => ?_)
    rw [show 256 = 2 ^ 8 from rfl, Nat.testBit_mod_two_pow]
    simp [hi]
  · refine cnt_cong (fun i hi => ?_)
    rw [show 256 = 2 ^ 8 from rfl, Nat.testBit_div_two_pow, Nat.add_comm]
def pfin (x : Nat) : Nat := (x + x / 256 + (x + x / 256) / 65536 + (x + x / 256 + (x + x / 256) / 65536) / 4294967296) % 128
theorem dv8 {x X a : Nat} (h : x = 256 * X + a) (ha : a < 256) : x / 256 = X := by omega
theorem ad8 {x y X Y a b : Nat} (h : x = 256 * X + a) (h2 : y = 256 * Y + b) : x + y = 256 * (X + Y) + (a + b) := by omega
theorem md8 {x y X Y a b : Nat} (h : x = 256 * X + a) (h2 : y = 256 * Y + b) (hab : a + b < 128) : (x + y) % 128 = a + b := by omega
theorem lt8 {a b : Nat} {m n : Nat} (ha : a ≤ m) (hb : b ≤ n) : a + b ≤ m + n := Nat.add_le_add ha hb
theorem pfin_ok {A0 A1 A2 A3 A4 A5 A6 A7 a b c d e f g h : Nat} (r0 : A0 = 256 * A1 + a) (r1 : A1 = 256 * A2 + b) (r2 : A2 = 256 * A3 + c) (r3 : A3 = 256 * A4 + d) (r4 : A4 = 256 * A5 + e) (r5 : A5 = 256 * A6 + f) (r6 : A6 = 256 * A7 + g) (r7 : A7 = 256 * 0 + h) (ha : a ≤ 8) (hb : b ≤ 8) (hc : c ≤ 8) (hd : d ≤ 8) (he : e ≤ 8) (hf : f ≤ 8) (hg : g ≤ 8) (hh : h ≤ 8) : pfin A0 = ((a + b) + (c + d)) + ((e + f) + (g + h)) := by
  have r8 : (0 : Nat) = 256 * 0 + 0 := rfl
  have B0 := ad8 r0 r1
  have B1 := ad8 r1 r2
  have B2 := ad8 r2 r3
  have B3 := ad8 r3 r4
  have B4 := ad8 r4 r5
  have B5 := ad8 r5 r6
  have B6 := ad8 r6 r7
  have B7 := ad8 r7 r8
  have C0 := ad8 B0 B2
  have C1 := ad8 B1 B3
  have C2 := ad8 B2 B4
  have C3 := ad8 B3 B5
  have C4 := ad8 B4 B6
  have e1 : A0 / 256 = A1 := dv8 r0 (by clear r0 r1 r2 r3 r4 r5 r6 r7 B0 B1 B2 B3 B4 B5 B6 B7 C0 C1 C2 C3 C4; omega)
  have e2 : (A0 + A1) / 65536 = A2 + A3 := by
    rw [show (65536 : Nat) = 256 * 256 from rfl, ← Nat.div_div_eq_div_mul, dv8 B0 (by clear r0 r1 r2 r3 r4 r5 r6 r7 B0 B1 B2 B3 B4 B5 B6 B7 C0 C1 C2 C3 C4; omega), dv8 B1 (by clear r0 r1 r2 r3 r4 r5 r6 r7 B0 B1 B2 B3 B4 B5 B6 B7 C0 C1 C2 C3 C4; omega)]
  have e3 : (A0 + A1 + (A2 + A3)) / 4294967296 = A4 + A5 + (A6 + A7) := by
    rw [show (4294967296 : Nat) = 256 * 256 * 256 * 256 from rfl, ← Nat.div_div_eq_div_mul, ← Nat.div_div_eq_div_mul, ← Nat.div_div_eq_div_mul, dv8 C0 (by clear r0 r1 r2 r3 r4 r5 r6 r7 B0 B1 B2 B3 B4 B5 B6 B7 C0 C1 C2 C3 C4; omega), dv8 C1 (by clear r0 r1 r2 r3 r4 r5 r6 r7 B0 B1 B2 B3 B4 B5 B6 B7 C0 C1 C2 C3 C4; omega), dv8 C2 (by clear r0 r1 r2 r3 r4 r5 r6 r7 B0 B1 B2 B3 B4 B5 B6 B7 C0 C1 C2 C3 C4; omega), dv8 C3 (by clear r0 r1 r2 r3 r4 r5 r6 r7 B0 B1 B2 B3 B4 B5 B6 B7 C0 C1 C2 C3 C4; omega)]
  unfold pfin
  rw [e1, e2, e3]
  exact md8 C0 C4 (by clear r0 r1 r2 r3 r4 r5 r6 r7 B0 B1 B2 B3 B4 B5 B6 B7 C0 C1 C2 C3 C4; omega)
theorem pT_all (n : Nat) (hn : n < 2 ^ 64) : pfin (pT 8 n) = cnt (fun i => n.testBit i) 64 ∧ pT 8 n ≤ 578721382704613384 := by
  have q0 := pT_s 7 n (by omega)
  have q1 := pT_s 6 (n / 256) (by omega)
  have q2 := pT_s 5 (n / 256 / 256) (by omega)
  have q3 := pT_s 4 (n / 256 / 256 / 256) (by omega)
  have q4 := pT_s 3 (n / 256 / 256 / 256 / 256) (by omega)
  have q5 := pT_s 2 (n / 256 / 256 / 256 / 256 / 256) (by omega)
  have q6 := pT_s 1 (n / 256 / 256 / 256 / 256 / 256 / 256) (by omega)
  have q7 := pT_s 0 (n / 256 / 256 / 256 / 256 / 256 / 256 / 256) (by omega)
  have z0 : pT 0 (n / 256 / 256 / 256 / 256 / 256 / 256 / 256 / 256) = 0 := by
    have : n / 256 / 256 / 256 / 256 / 256 / 256 / 256 / 256 = 0 := by omega
    rw [this]; decide
  rw [z0] at q7
  have b : ∀ m, pop8 (m % 256) ≤ 8 := fun m => pop8_le _ (Nat.mod_lt _ (by decide))
  have b0 := b n
  have b1 := b (n / 256)
  have b2 := b (n / 256 / 256)
  have b3 := b (n / 256 / 256 / 256)
  have b4 := b (n / 256 / 256 / 256 / 256)
  have b5 := b (n / 256 / 256 / 256 / 256 / 256)
  have b6 := b (n / 256 / 256 / 256 / 256 / 256 / 256)
  have b7 := b (n / 256 / 256 / 256 / 256 / 256 / 256 / 256)
  have s7 : pT 1 (n / 256 / 256 / 256 / 256 / 256 / 256 / 256) ≤ 8 := by rw [q7]; omega
  have st : ∀ {x y p M : Nat}, x = 256 * y + p → y ≤ M → p ≤ 8 → x ≤ 256 * M + 8 := fun h1 h2 h3 => by omega
  have s6 := st q6 s7 b6
  have s5 := st q5 s6 b5
  have s4 := st q4 s5 b4
  have s3 := st q3 s4 b3
  have s2 := st q2 s3 b2
  have s1 := st q1 s2 b1
  have s0 := st q0 s1 b0
  refine ⟨?_, s0⟩
  rw [pfin_ok q0 q1 q2 q3 q4 q5 q6 q7 b0 b1 b2 b3 b4 b5 b6 b7]
  rw [show (64 : Nat) = 8 + 56 from rfl, cnt_byte, show (56 : Nat) = 8 + 48 from rfl, cnt_byte, show (48 : Nat) = 8 + 40 from rfl, cnt_byte, show (40 : Nat) = 8 + 32 from rfl, cnt_byte, show (32 : Nat) = 8 + 24 from rfl, cnt_byte, show (24 : Nat) = 8 + 16 from rfl, cnt_byte, show (16 : Nat) = 8 + 8 from rfl, cnt_byte, show cnt (fun i => (n / 256 / 256 / 256 / 256 / 256 / 256 / 256).testBit i) 8 = cnt (fun i => (n / 256 / 256 / 256 / 256 / 256 / 256 / 256).testBit i) (8 + 0) from rfl, cnt_byte]
  simp only [cnt, Nat.add_zero, Nat.add_assoc]
theorem pcn_lN {n : Nat} (hn : n < 2 ^ 64) : pcn (lN n) = cnt (fun i => n.testBit i) 64 := by
  unfold pcn
  refine cnt_cong (fun i hi => ?_)
  rw [wb_tb, BitVec.getLsbD_ofNat]
  simp [hi]
theorem fa_mask' (n k : Nat) : nI n &&& nI (2 ^ k - 1) = nI (n % 2 ^ k) := by
  apply Int32.toBitVec_inj.mp
  rw [Int32.toBitVec_and]
  apply BitVec.eq_of_toNat_eq
  show (BitVec.ofNat 32 n &&& BitVec.ofNat 32 (2 ^ k - 1)).toNat = (BitVec.ofNat 32 (n % 2 ^ k)).toNat
  rw [BitVec.toNat_and, BitVec.toNat_ofNat, BitVec.toNat_ofNat, BitVec.toNat_ofNat, ← Nat.and_mod_two_pow, Nat.and_two_pow_sub_one_eq_mod]
section BC
variable {l : Launch} {g : GG} {ad : AD} {C : CC}
theorem c5_ : (6148914691236517205 : Int64) = lN (mk8 0x55 8) := by decide +kernel
theorem c3_ : (3689348814741910323 : Int64) = lN (mk8 0x33 8) := by decide +kernel
theorem cf_ : (1085102592571150095 : Int64) = lN (mk8 0x0f 8) := by decide +kernel
theorem mk_lt : mk8 0x55 8 < 2 ^ 64 ∧ mk8 0x33 8 < 2 ^ 64 ∧ mk8 0x0f 8 < 2 ^ 64 := by decide +kernel
theorem and_lt {a b : Nat} (hb : b < 2 ^ 64) : a &&& b < 2 ^ 64 := Nat.and_lt_two_pow _ hb
theorem k_J13_bitCount_95d88 {v : Int64} : Cr l g yJ13_bitCount_95d88 cJ13_bitCount_95d88 2 (some .int) 1 [.long v] ad C (.int (nI (pcn v))) := by
  obtain ⟨n, hn, rfl⟩ := wb_of v
  have d64 : ∀ a m : Nat, a < 2 ^ 64 → a / m < 2 ^ 64 := fun a m h => Nat.lt_of_le_of_lt (Nat.div_le_self _ _) h
  have e1 : lN n - ((((lN n).toUInt64 >>> ((nI 1).toInt64.toUInt64 &&& Int64.toUInt64 63)).toInt64) &&& 6148914691236517205) = lN (ps1 8 n) := by
    rw [wb_shr hn (by decide), c5_, wb_and (d64 _ _ hn) mk_lt.1, lN_sub (Nat.le_trans Nat.and_le_left (Nat.div_le_self _ _))]; rfl
  have l1 : ps1 8 n < 2 ^ 64 := Nat.lt_of_le_of_lt (Nat.sub_le _ _) hn
  have a3 : ∀ z, z &&& mk8 0x33 8 ≤ mk8 0x33 8 := fun z => Nat.and_le_right
  have l2 : ps2 8 (ps1 8 n) < 2 ^ 63 := by
    have h1 := a3 (ps1 8 n)
    have h2 := a3 (ps1 8 n / 4)
    have h3 : mk8 0x33 8 = 3689348814741910323 := by decide
    unfold ps2
    omega
  have e2 : (lN (ps1 8 n) &&& 3689348814741910323) + ((((lN (ps1 8 n)).toUInt64 >>> ((nI 2).toInt64.toUInt64 &&& Int64.toUInt64 63)).toInt64) &&& 3689348814741910323) = lN (ps2 8 (ps1 8 n)) := by
    rw [wb_shr l1 (by decide), c3_, wb_and l1 mk_lt.2.1, wb_and (d64 _ _ l1) mk_lt.2.1, lN_add]; rfl
  have e3 : (lN (ps2 8 (ps1 8 n)) + (((lN (ps2 8 (ps1 8 n))).toUInt64 >>> ((nI 4).toInt64.toUInt64 &&& Int64.toUInt64 63)).toInt64)) &&& 1085102592571150095 = lN (pT 8 n) := by
    rw [wb_shr (by omega) (by decide), cf_, lN_add, wb_and (by have : ps2 8 (ps1 8 n) / 2 ^ 4 ≤ ps2 8 (ps1 8 n) := Nat.div_le_self _ _; omega) mk_lt.2.2]; rfl
  obtain ⟨hfin, hle⟩ := pT_all n hn
  have e4 : lN (pT 8 n) + (((lN (pT 8 n)).toUInt64 >>> ((nI 8).toInt64.toUInt64 &&& Int64.toUInt64 63)).toInt64) = lN (pT 8 n + pT 8 n / 256) := by
    rw [wb_shr (by omega) (by decide), lN_add]
  have e5 : lN (pT 8 n + pT 8 n / 256) + (((lN (pT 8 n + pT 8 n / 256)).toUInt64 >>> ((nI 16).toInt64.toUInt64 &&& Int64.toUInt64 63)).toInt64) = lN (pT 8 n + pT 8 n / 256 + (pT 8 n + pT 8 n / 256) / 65536) := by
    rw [wb_shr (by omega) (by decide), lN_add]
  have e6 : lN (pT 8 n + pT 8 n / 256 + (pT 8 n + pT 8 n / 256) / 65536) + (((lN (pT 8 n + pT 8 n / 256 + (pT 8 n + pT 8 n / 256) / 65536)).toUInt64 >>> ((nI 32).toInt64.toUInt64 &&& Int64.toUInt64 63)).toInt64) = lN (pT 8 n + pT 8 n / 256 + (pT 8 n + pT 8 n / 256) / 65536 + (pT 8 n + pT 8 n / 256 + (pT 8 n + pT 8 n / 256) / 65536) / 4294967296) := by
    rw [wb_shr (by omega) (by decide), lN_add]
  refine Ct_ofF [some (.long (lN n)), none] (by decide +kernel) rfl rfl (Nat.le_of_ble_eq_true rfl) rfl rfl (fun X hX h => ?_)
  subst hX
  refine j_lload0 (pc := 0) h dJ13_bitCount_95d88_0 ?_
  refine j_lload0 (pc := 1) h dJ13_bitCount_95d88_1 ?_
  refine j_iconst (pc := 2) h dJ13_bitCount_95d88_2 ic_1 ?_
  refine j_lushr (pc := 3) h dJ13_bitCount_95d88_3 ?_
  refine j_ldc2 (pc := 4) h dJ13_bitCount_95d88_4 kc_J13_314 ?_
  refine j_land (pc := 7) h dJ13_bitCount_95d88_7 ?_
  refine j_lsub (pc := 8) h dJ13_bitCount_95d88_8 ?_
  refine j_topl (e1) ?_
  refine j_lstore0 (pc := 9) h dJ13_bitCount_95d88_9 ?_
  refine j_lload0 (pc := 10) h dJ13_bitCount_95d88_10 ?_
  refine j_ldc2 (pc := 11) h dJ13_bitCount_95d88_11 kc_J13_316 ?_
  refine j_land (pc := 14) h dJ13_bitCount_95d88_14 ?_
  refine j_lload0 (pc := 15) h dJ13_bitCount_95d88_15 ?_
  refine j_iconst (pc := 16) h dJ13_bitCount_95d88_16 ic_2 ?_
  refine j_lushr (pc := 17) h dJ13_bitCount_95d88_17 ?_
  refine j_ldc2 (pc := 18) h dJ13_bitCount_95d88_18 kc_J13_316 ?_
  refine j_land (pc := 21) h dJ13_bitCount_95d88_21 ?_
  refine j_ladd (pc := 22) h dJ13_bitCount_95d88_22 ?_
  refine j_topl (e2) ?_
  refine j_lstore0 (pc := 23) h dJ13_bitCount_95d88_23 ?_
  refine j_lload0 (pc := 24) h dJ13_bitCount_95d88_24 ?_
  refine j_lload0 (pc := 25) h dJ13_bitCount_95d88_25 ?_
  refine j_iconst (pc := 26) h dJ13_bitCount_95d88_26 ic_4 ?_
  refine j_lushr (pc := 27) h dJ13_bitCount_95d88_27 ?_
  refine j_ladd (pc := 28) h dJ13_bitCount_95d88_28 ?_
  refine j_ldc2 (pc := 29) h dJ13_bitCount_95d88_29 kc_J13_318 ?_
  refine j_land (pc := 32) h dJ13_bitCount_95d88_32 ?_
  refine j_topl (e3) ?_
  refine j_lstore0 (pc := 33) h dJ13_bitCount_95d88_33 ?_
  refine j_lload0 (pc := 34) h dJ13_bitCount_95d88_34 ?_
  refine j_lload0 (pc := 35) h dJ13_bitCount_95d88_35 ?_
  refine j_bipush (pc := 36) h dJ13_bitCount_95d88_36 bp_8 ?_
  refine j_lushr (pc := 38) h dJ13_bitCount_95d88_38 ?_
  refine j_ladd (pc := 39) h dJ13_bitCount_95d88_39 ?_
  refine j_topl (e4) ?_
  refine j_lstore0 (pc := 40) h dJ13_bitCount_95d88_40 ?_
  refine j_lload0 (pc := 41) h dJ13_bitCount_95d88_41 ?_
  refine j_lload0 (pc := 42) h dJ13_bitCount_95d88_42 ?_
  refine j_bipush (pc := 43) h dJ13_bitCount_95d88_43 bp_16 ?_
  refine j_lushr (pc := 45) h dJ13_bitCount_95d88_45 ?_
  refine j_ladd (pc := 46) h dJ13_bitCount_95d88_46 ?_
  refine j_topl (e5) ?_
  refine j_lstore0 (pc := 47) h dJ13_bitCount_95d88_47 ?_
  refine j_lload0 (pc := 48) h dJ13_bitCount_95d88_48 ?_
  refine j_lload0 (pc := 49) h dJ13_bitCount_95d88_49 ?_
  refine j_bipush (pc := 50) h dJ13_bitCount_95d88_50 bp_32 ?_
  refine j_lushr (pc := 52) h dJ13_bitCount_95d88_52 ?_
  refine j_ladd (pc := 53) h dJ13_bitCount_95d88_53 ?_
  refine j_topl (e6) ?_
  refine j_lstore0 (pc := 54) h dJ13_bitCount_95d88_54 ?_
  refine j_lload0 (pc := 55) h dJ13_bitCount_95d88_55 ?_
  refine j_l2i (pc := 56) h dJ13_bitCount_95d88_56 ?_
  refine j_bipush (pc := 57) h dJ13_bitCount_95d88_57 bp_127 ?_
  refine j_iand (pc := 59) h dJ13_bitCount_95d88_59 ?_
  refine j_iretr (pc := 60) h dJ13_bitCount_95d88_60 (by rw [lN_i, pcn_lN hn, ← hfin, pfin, show nI 127 = nI (2 ^ 7 - 1) from rfl]; exact fa_mask' _ 7)
end BC

