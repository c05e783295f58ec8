section ZZM11
variable {MB : Nat → Nat → Bool} {MI : Nat → Nat → Int32} {n : Nat} {mt : Int32} {T : zz_St}
def cvB (S : Nat → Nat → Bool) (n i k : Nat) : Bool := S i k && alb (fun j => !(S i j) || !(S j k)) n
/-- the one before it, or itself, that is in its class -/
def lsN (S : Nat → Nat → Bool) (e : Nat) : Nat := ff (fun a => S a e && S e a) e 0
theorem lsN_le (S : Nat → Nat → Bool) (e : Nat) : lsN S e ≤ e := by
  have := ff_le (fun a => S a e && S e a) e 0
  show ff _ e 0 ≤ e
  omega
end ZZM11
