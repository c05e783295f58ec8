section ZZM8
variable {MB : Nat → Nat → Bool} {MI : Nat → Nat → Int32} {n : Nat} {mt : Int32} {T : zz_St}
def kpV (g c s e : Bool) (w : Nat) : Bool := if w = 0 then !e || g else if w = 1 then !e || !g else if w = 2 then g == c else if w = 3 then e || (!g || !c) else if w = 4 then g || !s else e || (g || c)
def isH (v : Int32) : Bool := decide (0 ≤ v) && decide (v ≤ 5)
end ZZM8
