section ZZM4
variable {MB : Nat → Nat → Bool} {MI : Nat → Nat → Int32} {n : Nat} {mt : Int32} {T : zz_St}
def isB (v : Int32) : Bool := decide (1 ≤ v) && decide (v ≤ 80)
def chn (f : Nat → Bool) (r : Nat) : Nat → Nat → Bool
  | 0 => f
  | i + 1 => va_up (chn f r i) (6400 * r + 80 * i + (i + 1)) true
def sdA (x : Int32) : Int32 := x * 1103515245 + 12345
def elN (n : Nat) (x : Int32) : Nat := (x.toBitVec.toNat / 65536) % n
theorem us16 (x : Int32) : (x.toUInt32 >>> ((16 : Int32).toUInt32 &&& Int32.toUInt32 31)).toInt32 = nI (x.toBitVec.toNat / 65536) := by
  have hx := x.toBitVec.isLt
  apply Int32.toBitVec_inj.mp
  apply BitVec.eq_of_toNat_eq
  rw [pk_ushr x 16 16 (by decide), pk_tn (by omega)]
theorem rm16 {n : Nat} (h1 : 1 ≤ n) (hn : n ≤ 80) (x : Int32) : nI (x.toBitVec.toNat / 65536) - nI (x.toBitVec.toNat / 65536) / nI n * nI n = nI (elN n x) := by
  have hx := x.toBitVec.isLt
  exact pk_rem (by omega) (by omega) (by omega)
theorem elN_lt {n : Nat} (h1 : 1 ≤ n) (x : Int32) : elN n x < n := Nat.mod_lt _ (by omega)
/-- a relation's pairs and the seed, behind i draws -/
def drw (n r : Nat) (f : Nat → Bool) (x : Int32) : Nat → (Nat → Bool) × Int32
  | 0 => (f, x)
  | i + 1 => (va_up (drw n r f x i).1 (6400 * r + 80 * elN n (sdA (drw n r f x i).2) + elN n (sdA (sdA (drw n r f x i).2))) true, sdA (sdA (drw n r f x i).2))
def isM (v : Int32) : Bool := decide (0 ≤ v) && decide (v ≤ 200)
end ZZM4
