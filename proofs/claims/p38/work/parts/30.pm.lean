section ZZG
variable {MB : Nat → Nat → Bool} {MI : Nat → Nat → Int32} {me mt : Int32} {T : zz_St}
variable {M : zz_M} {sc : Option (Nat × (Nat → Int32))} {d rc rz : Nat} {Q : zz_Q} {pc : Nat} {lv : List (Nat × Value)} {st : List Value} {σ : zz_St}
/-- the number on top, otherwise written -/
theorem zz_tope {x y : Int32} (e : x = y) (K : zz_E M sc d rc rz Q pc lv (.int y :: st) σ) : zz_E M sc d rc rz Q pc lv (.int x :: st) σ := e ▸ K
end ZZG
