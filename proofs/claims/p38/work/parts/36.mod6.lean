section ZZM6
variable {MB : Nat → Nat → Bool} {MI : Nat → Nat → Int32} {n : Nat} {mt : Int32} {T : zz_St}
def cmV (a b : Bool) : Int32 := zB a + (if b = true then 2 else 0)
end ZZM6
