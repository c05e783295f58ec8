section ZZM5
variable {MB : Nat → Nat → Bool} {MI : Nat → Nat → Int32} {n : Nat} {mt : Int32} {T : zz_St}
def cmb (h : Nat) (a b : Bool) : Bool := if h = 0 then a || b else if h = 1 then a && b else if h = 2 then a && !b else a != b
end ZZM5
