section ZZFW
/-! the world behind the constructors: its cells in the order of the positions -/
def s0 : zz_St := pm (fun _ _ => false) (fun _ _ => 0) (nI 12) 0 (px (fun _ => nI 12) (fun _ _ => 0) (fun _ _ => 0) (fun _ => 0) (fun _ => 0) (fun _ _ => 0) (fun _ => 0) (nI 12) (po (fun _ => 0) (fun _ => 0) (fun _ => oc (fun _ => 0))))
theorem s0_J : JJ s0 := by
  refine ⟨0, 12, fun _ _ => false, fun _ _ => 0, fun _ => 0, fun _ => 0, fun _ => oc (fun _ => 0), _, rfl, ⟨fun _ => nI 12, fun _ _ => 0, fun _ _ => 0, fun _ => 0, fun _ => 0, fun _ _ => 0, fun _ => 0, ⟨⟨by decide, by decide⟩, fun r _ => ⟨rfl, fun i _ => ls_0 12⟩, ls_0 12⟩, rfl⟩, fun _ _ _ _ _ _ _ => rfl, fun _ => ⟨trivial, trivial⟩⟩
theorem arr4 {cI : ClassId} {f g : Nat → Value} (h0 : f 0 = g 0) (h1 : f 1 = g 1) (h2 : f 2 = g 2) (h3 : f 3 = g 3) : arrV cI 4 f = arrV cI 4 g := by
  have e : (fun j : Fin 4 => f j.val) = (fun j : Fin 4 => g j.val) := by
    funext ⟨j, hj⟩
    rcases (show j = 0 ∨ j = 1 ∨ j = 2 ∨ j = 3 by omega) with rfl | rfl | rfl | rfl
    · exact h0
    · exact h1
    · exact h2
    · exact h3
  unfold arrV
  rw [e]
theorem cell4 {cI : ClassId} {f g : Nat → Option Nat} (h0 : f 0 = g 0) (h1 : f 1 = g 1) (h2 : f 2 = g 2) (h3 : f 3 = g 3) : vp_cell cI (4, .inr (.inr (.inr (.inr f)))) = vp_cell cI (4, .inr (.inr (.inr (.inr g)))) := by
  rw [vp_cell_q, vp_cell_q]
  exact arr4 (congrArg va_rf h0) (congrArg va_rf h1) (congrArg va_rf h2) (congrArg va_rf h3)
variable {G : va_G} {cA : Nat → ClassId} {H : Heap}
def adL (l : List Nat) : Nat → Nat := fun k => l.getD k 0
set_option maxHeartbeats 4000000 in
set_option maxRecDepth 100000 in
theorem w0_P {a0 a1 a2 a3 a4 a5 a6 a7 a8 a9 a10 a11 a12 a13 a14 a15 a16 a17 a18 a19 a20 a21 a22 a23 a24 a25 a26 a27 a28 a29 a30 a31 a32 a33 a34 a35 a36 a37 a38 a39 a40 a41 a42 a43 a44 a45 a46 a47 a48 a49 a50 a51 a52 a53 a54 a55 a56 a57 a58 a59 a60 a61 a62 a63 a64 a65 a66 a67 b : Nat} (hP : va_P G vwCl [(a0, .inr (1, [.int 12, .ref a8, .ref a16, .ref a24])), (a1, .inr (1, [.int 12, .ref a9, .ref a17, .ref a25])), (a2, .inr (1, [.int 12, .ref a10, .ref a18, .ref a26])), (a3, .inr (1, [.int 12, .ref a11, .ref a19, .ref a27])), (a4, .inr (1, [.int 12, .ref a12, .ref a20, .ref a28])), (a5, .inr (1, [.int 12, .ref a13, .ref a21, .ref a29])), (a6, .inr (1, [.int 12, .ref a14, .ref a22, .ref a30])), (a7, .inr (1, [.int 12, .ref a15, .ref a23, .ref a31])), (a8, .inl (cA 1, 80, .inr (.inl (fun _ => 0)))), (a9, .inl (cA 1, 80, .inr (.inl (fun _ => 0)))), (a10, .inl (cA 1, 80, .inr (.inl (fun _ => 0)))), (a11, .inl (cA 1, 80, .inr (.inl (fun _ => 0)))), (a12, .inl (cA 1, 80, .inr (.inl (fun _ => 0)))), (a13, .inl (cA 1, 80, .inr (.inl (fun _ => 0)))), (a14, .inl (cA 1, 80, .inr (.inl (fun _ => 0)))), (a15, .inl (cA 1, 80, .inr (.inl (fun _ => 0)))), (a16, .inl (cA 1, 80, .inr (.inl (fun _ => 0)))), (a17, .inl (cA 1, 80, .inr (.inl (fun _ => 0)))), (a18, .inl (cA 1, 80, .inr (.inl (fun _ => 0)))), (a19, .inl (cA 1, 80, .inr (.inl (fun _ => 0)))), (a20, .inl (cA 1, 80, .inr (.inl (fun _ => 0)))), (a21, .inl (cA 1, 80, .inr (.inl (fun _ => 0)))), (a22, .inl (cA 1, 80, .inr (.inl (fun _ => 0)))), (a23, .inl (cA 1, 80, .inr (.inl (fun _ => 0)))), (a24, .inr (0, [.long 0, .long 0])), (a25, .inr (0, [.long 0, .long 0])), (a26, .inr (0, [.long 0, .long 0])), (a27, .inr (0, [.long 0, .long 0])), (a28, .inr (0, [.long 0, .long 0])), (a29, .inr (0, [.long 0, .long 0])), (a30, .inr (0, [.long 0, .long 0])), (a31, .inr (0, [.long 0, .long 0])), (a32, .inr (0, [.long 0, .long 0])), (a33, .inr (0, [.long 0, .long 0])), (a34, .inr (0, [.long 0, .long 0])), (a35, .inr (0, [.long 0, .long 0])), (a36, .inr (0, [.long 0, .long 0])), (a37, .inr (0, [.long 0, .long 0])), (a38, .inr (0, [.long 0, .long 0])), (a39, .inr (0, [.long 0, .long 0])), (a40, .inr (0, [.long 0, .long 0])), (a41, .inr (0, [.long 0, .long 0])), (a42, .inr (0, [.long 0, .long 0])), (a43, .inr (0, [.long 0, .long 0])), (a44, .inr (0, [.long 0, .long 0])), (a45, .inr (0, [.long 0, .long 0])), (a46, .inl (cA 0, 80, .inl (fun _ => 0))), (a47, .inl (cA 0, 80, .inl (fun _ => 0))), (a48, .inl (cA 0, 80, .inl (fun _ => 0))), (a49, .inr (3, [.ref a34, .ref a35, .ref a36, .ref a37, .ref a38, .ref a46])), (a50, .inr (3, [.ref a39, .ref a40, .ref a41, .ref a42, .ref a43, .ref a47])), (a51, .inr (2, [.ref a50, .ref a5, .ref a6, .ref a7, .ref a44, .ref a45, .ref a48])), (a52, .inr (4, [.int 12, .ref a53, .ref a32, .ref a33, .ref a4, .ref a49, .ref a51])), (a53, .inl (cA 3, 4, .inr (.inr (.inr (.inr (va_up (va_up (va_up (va_up (fun _ => none) 0 (some a0)) 1 (some a1)) 2 (some a2)) 3 (some a3))))))), (a54, .inr (5, [.ref a55, .ref a56, .int 12, .int 0, .ref a57, .ref a58, .ref a59, .ref a60, .ref a61, .ref a62, .ref a63, .ref a64, .ref a65])), (a55, .inl (cA 2, 25600, .inl (fun _ => 0))), (a56, .inl (cA 2, 80, .inl (fun _ => 0))), (a57, .inl (cA 2, 6400, .inl (fun _ => 0))), (a58, .inl (cA 2, 6400, .inl (fun _ => 0))), (a59, .inl (cA 2, 6400, .inl (fun _ => 0))), (a60, .inl (cA 2, 80, .inl (fun _ => 0))), (a61, .inl (cA 2, 80, .inl (fun _ => 0))), (a62, .inl (cA 0, 80, .inl (fun _ => 0))), (a63, .inl (cA 0, 80, .inl (fun _ => 0))), (a64, .inl (cA 0, 80, .inl (fun _ => 0))), (a65, .inl (cA 0, 80, .inl (fun _ => 0))), (a66, .inl (cA 1, 1, .inr (.inl (fun _ => 0)))), (a67, .inl (cA 4, 1, .inr (.inr (.inr (.inl (fun _ => 0))))))] H) : va_P G vwCl (zz_W (adL [a0, a1, a2, a3, a4, a5, a6, a7, a8, a9, a10, a11, a12, a13, a14, a15, a16, a17, a18, a19, a20, a21, a22, a23, a24, a25, a26, a27, a28, a29, a30, a31, a32, a33, a34, a35, a36, a37, a38, a39, a40, a41, a42, a43, a44, a45, a46, a47, a48, a49, a50, a51, a52, a53, a54, a55, a56, a57, a58, a59, a60, a61, a62, a63, a64, a65, a66, a67, b]) cA s0) H := by
  intro k q hk
  obtain ⟨h1, -⟩ := zz_W_at hk
  rw [zz_W_get h1] at hk
  cases hk
  rcases (show k = 0 ∨ k = 1 ∨ k = 2 ∨ k = 3 ∨ k = 4 ∨ k = 5 ∨ k = 6 ∨ k = 7 ∨ k = 8 ∨ k = 9 ∨ k = 10 ∨ k = 11 ∨ k = 12 ∨ k = 13 ∨ k = 14 ∨ k = 15 ∨ k = 16 ∨ k = 17 ∨ k = 18 ∨ k = 19 ∨ k = 20 ∨ k = 21 ∨ k = 22 ∨ k = 23 ∨ k = 24 ∨ k = 25 ∨ k = 26 ∨ k = 27 ∨ k = 28 ∨ k = 29 ∨ k = 30 ∨ k = 31 ∨ k = 32 ∨ k = 33 ∨ k = 34 ∨ k = 35 ∨ k = 36 ∨ k = 37 ∨ k = 38 ∨ k = 39 ∨ k = 40 ∨ k = 41 ∨ k = 42 ∨ k = 43 ∨ k = 44 ∨ k = 45 ∨ k = 46 ∨ k = 47 ∨ k = 48 ∨ k = 49 ∨ k = 50 ∨ k = 51 ∨ k = 52 ∨ k = 53 ∨ k = 54 ∨ k = 55 ∨ k = 56 ∨ k = 57 ∨ k = 58 ∨ k = 59 ∨ k = 60 ∨ k = 61 ∨ k = 62 ∨ k = 63 ∨ k = 64 ∨ k = 65 ∨ k = 66 ∨ k = 67 by omega) with rfl | rfl | rfl | rfl | rfl | rfl | rfl | rfl | rfl | rfl | rfl | rfl | rfl | rfl | rfl | rfl | rfl | rfl | rfl | rfl | rfl | rfl | rfl | rfl | rfl | rfl | rfl | rfl | rfl | rfl | rfl | rfl | rfl | rfl | rfl | rfl | rfl | rfl | rfl | rfl | rfl | rfl | rfl | rfl | rfl | rfl | rfl | rfl | rfl | rfl | rfl | rfl | rfl | rfl | rfl | rfl | rfl | rfl | rfl | rfl | rfl | rfl | rfl | rfl | rfl | rfl | rfl | rfl
  · exact hP 0 _ rfl
  · exact hP 1 _ rfl
  · exact hP 2 _ rfl
  · exact hP 3 _ rfl
  · exact hP 4 _ rfl
  · exact hP 5 _ rfl
  · exact hP 6 _ rfl
  · exact hP 7 _ rfl
  · exact hP 8 _ rfl
  · exact hP 9 _ rfl
  · exact hP 10 _ rfl
  · exact hP 11 _ rfl
  · exact hP 12 _ rfl
  · exact hP 13 _ rfl
  · exact hP 14 _ rfl
  · exact hP 15 _ rfl
  · exact hP 16 _ rfl
  · exact hP 17 _ rfl
  · exact hP 18 _ rfl
  · exact hP 19 _ rfl
  · exact hP 20 _ rfl
  · exact hP 21 _ rfl
  · exact hP 22 _ rfl
  · exact hP 23 _ rfl
  · exact hP 24 _ rfl
  · exact hP 25 _ rfl
  · exact hP 26 _ rfl
  · exact hP 27 _ rfl
  · exact hP 28 _ rfl
  · exact hP 29 _ rfl
  · exact hP 30 _ rfl
  · exact hP 31 _ rfl
  · exact hP 32 _ rfl
  · exact hP 33 _ rfl
  · exact hP 34 _ rfl
  · exact hP 35 _ rfl
  · exact hP 36 _ rfl
  · exact hP 37 _ rfl
  · exact hP 38 _ rfl
  · exact hP 39 _ rfl
  · exact hP 40 _ rfl
  · exact hP 41 _ rfl
  · exact hP 42 _ rfl
  · exact hP 43 _ rfl
  · exact hP 44 _ rfl
  · exact hP 45 _ rfl
  · exact hP 46 _ rfl
  · exact hP 47 _ rfl
  · exact hP 48 _ rfl
  · exact hP 49 _ rfl
  · exact hP 50 _ rfl
  · exact hP 51 _ rfl
  · exact hP 52 _ rfl
  · have h9 := hP 53 _ rfl
    exact h9.trans (congrArg some (cell4 rfl rfl rfl rfl))
  · exact hP 54 _ rfl
  · exact hP 55 _ rfl
  · exact hP 56 _ rfl
  · exact hP 57 _ rfl
  · exact hP 58 _ rfl
  · exact hP 59 _ rfl
  · exact hP 60 _ rfl
  · exact hP 61 _ rfl
  · exact hP 62 _ rfl
  · exact hP 63 _ rfl
  · exact hP 64 _ rfl
  · exact hP 65 _ rfl
  · exact hP 66 _ rfl
  · exact hP 67 _ rfl
theorem w0_ad {ws : va_W} {b : Nat} {i : Nat} {x : Nat × va_E} (h : ws[i]? = some x) : adL (ws.map (fun q => q.1) ++ [b]) i = x.1 := by
  have hl : i < ws.length := (List.getElem?_eq_some_iff.mp h).1
  unfold adL
  rw [List.getD_eq_getElem?_getD, List.getElem?_append_left (by rw [List.length_map]; exact hl), List.getElem?_map, h]
  rfl
theorem w0_get {ws : va_W} (hl : ws.length = 68) {k : Nat} (hk : k < 68) : ∃ x, ws[k]? = some x := ⟨ws[k]'(by omega), List.getElem?_eq_getElem (by omega)⟩
theorem w0_inj {A : Nat → Prop} {ws : va_W} {b : Nat} (hl : ws.length = 68) (hD : va_D A ws) : zz_inj (adL (ws.map (fun q => q.1) ++ [b])) := by
  intro i j hi hj e
  obtain ⟨x, hx⟩ := w0_get hl hi
  obtain ⟨y, hy⟩ := w0_get hl hj
  rw [w0_ad hx, w0_ad hy] at e
  exact hD.1 i j x y hx hy e
theorem w0_A {A : Nat → Prop} {ws : va_W} {b : Nat} (hl : ws.length = 68) (hD : va_D A ws) {k : Nat} (hk : k < 68) : A (adL (ws.map (fun q => q.1) ++ [b]) k) := by
  obtain ⟨x, hx⟩ := w0_get hl hk
  rw [w0_ad hx]
  exact hD.2 k x hx
end ZZFW
