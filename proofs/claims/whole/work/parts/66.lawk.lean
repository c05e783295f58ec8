section ZZLW
abbrev mL_law : zz_M := (yL_law, cL_law, 9, some .boolean, RL, [])
abbrev LV (i : Nat) : List (Nat × Value) := [(5, .int (nI i)), (0, .ref 68), (1, .ref 52), (2, .ref 54), (3, .ref 66), (4, .ref 67)]
variable {L : Nat} {xs : Nat → Int32} {M : zz_M} {d rc rz : Nat} {Q : zz_Q} {pc : Nat} {lv : List (Nat × Value)} {st : List Value} {σ : zz_St}
theorem zz_sldN {j : Nat} (h : decode M.2.1 pc = .ok (.iaload, 1)) (hj : j < L) (hL : L ≤ 3072) (K : zz_E M (some (L, xs)) d rc rz Q (pc + 1) lv (.int (xs j) :: st) σ) : zz_E M (some (L, xs)) d rc rz Q pc lv (.int (nI j) :: .ref 68 :: st) σ := zz_sld h (vp_in_nI hj (by omega)) (by rw [nI_clamp (by omega)]; exact K)
theorem ad_1 (i : Nat) : nI i + 1 = nI (i + 1) := nI_add i 1
theorem ad_2 (i : Nat) : nI i + 2 = nI (i + 2) := nI_add i 2
theorem ad_3 (i : Nat) : nI i + 3 = nI (i + 3) := nI_add i 3
theorem ad_4 (i : Nat) : nI i + 4 = nI (i + 4) := nI_add i 4
theorem ad_5 (i : Nat) : nI i + 5 = nI (i + 5) := nI_add i 5
theorem ad_6 (i : Nat) : nI i + 6 = nI (i + 6) := nI_add i 6
/-- element j behind i of the script: iconst, iadd, iaload -/
theorem zz_arg {i j : Nat} {v : Int32} {n : Int} (d0 : decode M.2.1 pc = .ok (.iconst n, 1)) (d1 : decode M.2.1 (pc + 1) = .ok (.iadd, 1)) (d2 : decode M.2.1 (pc + 1 + 1) = .ok (.iaload, 1)) (hv : Int32.ofInt n = v) (ha : nI i + v = nI (i + j)) (hj : i + j < L) (hL : L ≤ 3072) (K : zz_E M (some (L, xs)) d rc rz Q (pc + 1 + 1 + 1) lv (.int (xs (i + j)) :: st) σ) : zz_E M (some (L, xs)) d rc rz Q pc lv (.int (nI i) :: .ref 68 :: st) σ := by
  refine zz_iconst d0 hv ?_
  refine zz_iadd d1 ?_
  rw [ha]
  exact zz_sldN d2 hj hL K
end ZZLW
