/-! Words of the two programs: codings of rows, sets as longs, chains of folders. -/
/-- a read's end -/
abbrev QR (X : CX) (g : GG) (ad : AD) (C : CC) (v : Value) : State → Prop := QX X g 0 0 (fun r' ad' C' => r' = some v ∧ ad' = ad ∧ C' = C)
/-- a change's end -/
abbrev QW (X : CX) (g : GG) (r : Option Value) (ad : AD) (C : CC) : State → Prop := QX X g 0 0 (fun r' ad' C' => r' = r ∧ ad' = ad ∧ C' = C)
abbrev Cw (l : Launch) (g : GG) (y : MethodName) (cc : ByteArray) (nL : Nat) (ret : Option FieldType) (d : Nat) (as : List Value) (ad : AD) (C : CC) (r : Option Value) (C' : CC) : Prop :=
  Ct l g y cc nL ret d 0 0 as ad C (fun r' ad' C'' => r' = r ∧ ad' = ad ∧ C'' = C')
def parF (pr : Nat → Nat) : Nat → Int32 := fun j => if j = 0 then -1 else nI (pr j)
def rI : Option Nat → Int32
  | none => -1
  | some b => nI b
def bF (f : Nat → Bool) : Nat → Int32 := fun i => bI (f i)
/-- the set has x, as isMember says it -/
def mbr (s : Int64) (x : Int32) : Bool := decide (¬ ((s >>> (x.toInt64 &&& 63)) &&& 1 = 0))
def b1 (x : Int32) : Int64 := 1 <<< (x.toInt64 &&& 63)
/-- a place's block, as a set -/
def bO : Option Nat → Int64
  | none => 0
  | some b => b1 (nI b)
/-- folder j's chain comes to the root within n steps -/
def okc (pr : Nat → Nat) (nf : Nat) : Nat → Nat → Prop
  | 0, j => j = 0
  | n + 1, j => j = 0 ∨ (pr j < nf ∧ okc pr nf n (pr j))
/-- t is j, or above it -/
def anc (pr : Nat → Nat) : Nat → Nat → Nat → Bool
  | 0, j, t => j == t
  | n + 1, j, t => j == t || (j != 0 && anc pr n (pr j) t)
/-- who sees folder j: nothing hidden from him on its chain -/
def sees (pr : Nat → Nat) (hd : Nat → Bool) (fow : Nat → Int32) (who : Int32) : Nat → Nat → Bool
  | 0, j => !(hd j && fow j != who)
  | n + 1, j => !(hd j && fow j != who) && (j == 0 || sees pr hd fow who n (pr j))
/-- numbers below n that p has, as bits of an int -/
def bitsI (p : Nat → Bool) : Nat → Int32
  | 0 => nI 0
  | n + 1 => if p n = true then bitsI p n ||| (nI 1 <<< (nI n &&& 31)) else bitsI p n
def sumN (f : Nat → Nat) : Nat → Nat
  | 0 => 0
  | n + 1 => sumN f n + f n
/-- how many of the 64 bits -/
def pcn (v : Int64) : Nat := cnt (fun i => v.toBitVec.getLsbD i) 64
def fdv (a b : Int32) : Int32 := if (a ^^^ b) < 0 ∧ ¬ (a / b * b = a) then a / b - nI 1 else a / b
theorem Ct_ofF {l : Launch} {g : GG} {y : MethodName} {cc : ByteArray} {nL : Nat} {ret : Option FieldType} {d mc ms : Nat} {as : List Value} {ad : AD} {C : CC} {post : Option Value → AD → CC → Prop} {own nm : String} (L : List (Option Value))
    (hy : plainFor y = true) (ho : y.cls = own) (hn : y.name = nm) (hlen : (lg_sl as).length ≤ nL) (hL : asc 0 L = lv_args 0 as) (hLn : L.length = nL)
    (body : ∀ X : CX, xl X = l → Cx X g own nm cc nL d mc ms ret → J X g nL (QX X g mc ms post) 0 0 ad C 0 L []) : Ct l g y cc nL ret d mc ms as ad C post := by
  refine va_MetF (cc := cc) (maxL := nL) (ret := ret) hy rfl ?_
  intro p e s m args below meth c s₁ B hml hv
  obtain ⟨rfl, hM, hK⟩ := hv
  have hX : Cx (p, l, e, (headSpec [Cond.code y cc nL ret] (rmD d mc ms)).room, s, m, as.toArray, below, meth, c) g own nm cc nL d mc ms ret := by
    refine ⟨B.exec, B.bytes, hml, ?_, hK, B.notSynchronized, ?_, Nat.le_refl _, Nat.le_refl _, rfl, rfl, B.returns, hM.1⟩
    · rw [← ho]; exact findClass_of_methodNamed B.named
    · rw [← hn]; exact (name_of_methodNamed B.named B.method).1
  have hl := lv_entry as (n := nL) hlen
  rw [lg_entry_eq]
  exact body (p, l, e, (headSpec [Cond.code y cc nL ret] (rmD d mc ms)).room, s, m, as.toArray, below, meth, c) rfl hX s.heap [] _ hM va_S.rf (hL ▸ hl) hLn

