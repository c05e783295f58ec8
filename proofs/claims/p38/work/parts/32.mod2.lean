section ZZM2
variable {MB : Nat → Nat → Bool} {MI : Nat → Nat → Int32} {n : Nat} {mt : Int32} {T : zz_St}
def lbit (x : Int64) (k : Nat) : Bool := decide (k < 64) && x.toBitVec.getLsbD k
end ZZM2
