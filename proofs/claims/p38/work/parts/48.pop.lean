section ZZPOP
/-! the number of bits that are 1 -/
def byt : List Nat → Nat
  | [] => 0
  | b :: l => b + 256 * byt l
theorem by_and {a b c d : Nat} (hb : b < 256) (hd : d < 256) : (b + 256 * a) &&& (d + 256 * c) = (b &&& d) + 256 * (a &&& c) := by
  have h1 : ((b + 256 * a) &&& (d + 256 * c)) % 2 ^ 8 = b &&& d := by
    rw [Nat.and_mod_two_pow]
    congr 1 <;> omega
  have h2 : ((b + 256 * a) &&& (d + 256 * c)) / 2 ^ 8 = a &&& c := by
    rw [Nat.and_div_two_pow]
    congr 1 <;> omega
  have h3 := Nat.div_add_mod ((b + 256 * a) &&& (d + 256 * c)) (2 ^ 8)
  rw [h1, h2] at h3
  omega
def bf1 (b : Nat) : Nat := b - ((b / 2) &&& 85)
def bf2 (b : Nat) : Nat := (b &&& 51) + ((b / 4) &&& 51)
def bf3 (b : Nat) : Nat := (b + b / 16) &&& 15
set_option maxRecDepth 100000 in
theorem by_t1 : ∀ b, b < 128 → ∀ t, t < 2 → (b + 128 * t) &&& 85 = b &&& 85 := by decide +kernel
set_option maxRecDepth 100000 in
theorem by_t2 : ∀ b, b < 64 → ∀ t, t < 4 → (b + 64 * t) &&& 51 = b &&& 51 := by decide +kernel
set_option maxRecDepth 100000 in
theorem by_t3 : ∀ b, b < 256 → bf2 (bf1 b) % 16 ≤ 6 ∧ bf2 (bf1 b) / 16 ≤ 6 ∧ bf3 (bf2 (bf1 b)) = cnt (fun k => Nat.testBit b k) 8 := by decide +kernel
theorem by_s1 : ∀ l : List Nat, (∀ b ∈ l, b < 256) → byt l - ((byt l / 2) &&& byt (l.map fun _ => 85)) = byt (l.map bf1)
  | [], _ => rfl
  | b :: l, h => by
    have hb := h b List.mem_cons_self
    have ih := by_s1 l (fun x hx => h x (List.mem_cons_of_mem _ hx))
    show b + 256 * byt l - (((b + 256 * byt l) / 2) &&& (85 + 256 * byt (l.map fun _ => 85))) = bf1 b + 256 * byt (l.map bf1)
    rw [← ih]
    have e : (b + 256 * byt l) / 2 = (b / 2 + 128 * (byt l % 2)) + 256 * (byt l / 2) := by omega
    rw [e, by_and (by omega) (by decide), by_t1 (b / 2) (by omega) (byt l % 2) (by omega)]
    have h1 : (b / 2) &&& 85 ≤ b / 2 := Nat.and_le_left
    have h2 : (byt l / 2) &&& byt (l.map fun _ => 85) ≤ byt l / 2 := Nat.and_le_left
    unfold bf1
    omega
theorem by_s2 : ∀ l : List Nat, (∀ b ∈ l, b < 256) → (byt l &&& byt (l.map fun _ => 51)) + ((byt l / 4) &&& byt (l.map fun _ => 51)) = byt (l.map bf2)
  | [], _ => rfl
  | b :: l, h => by
    have hb := h b List.mem_cons_self
    have ih := by_s2 l (fun x hx => h x (List.mem_cons_of_mem _ hx))
    show ((b + 256 * byt l) &&& (51 + 256 * byt (l.map fun _ => 51))) + (((b + 256 * byt l) / 4) &&& (51 + 256 * byt (l.map fun _ => 51))) = bf2 b + 256 * byt (l.map bf2)
    rw [← ih]
    have e : (b + 256 * byt l) / 4 = (b / 4 + 64 * (byt l % 4)) + 256 * (byt l / 4) := by omega
    rw [e, by_and (a := byt l) hb (by decide), by_and (by omega) (by decide), by_t2 (b / 4) (by omega) (byt l % 4) (by omega)]
    unfold bf2
    omega
theorem by_m (l : List Nat) (h : ∀ b ∈ l, b % 16 ≤ 6) : byt l % 16 ≤ 6 := by
  cases l with
  | nil => exact Nat.zero_le _
  | cons b l =>
    have := h b List.mem_cons_self
    show (b + 256 * byt l) % 16 ≤ 6
    omega
theorem by_s3 : ∀ l : List Nat, (∀ b ∈ l, b % 16 ≤ 6 ∧ b / 16 ≤ 6) → (byt l + byt l / 16) &&& byt (l.map fun _ => 15) = byt (l.map bf3)
  | [], _ => rfl
  | b :: l, h => by
    have hb := h b List.mem_cons_self
    have ih := by_s3 l (fun x hx => h x (List.mem_cons_of_mem _ hx))
    have hm := by_m l (fun x hx => (h x (List.mem_cons_of_mem _ hx)).1)
    show (b + 256 * byt l + (b + 256 * byt l) / 16) &&& (15 + 256 * byt (l.map fun _ => 15)) = bf3 b + 256 * byt (l.map bf3)
    rw [← ih]
    have e : b + 256 * byt l + (b + 256 * byt l) / 16 = (b + b / 16 + 16 * (byt l % 16)) + 256 * (byt l + byt l / 16) := by omega
    rw [e, by_and (by omega) (by decide)]
    have e2 : (b + b / 16 + 16 * (byt l % 16)) &&& 15 = bf3 b := by
      unfold bf3
      rw [show (15 : Nat) = 2 ^ 4 - 1 from rfl, Nat.and_two_pow_sub_one_eq_mod, Nat.and_two_pow_sub_one_eq_mod]
      omega
    rw [e2]
theorem cnt_app (f : Nat → Bool) (a : Nat) : ∀ m, cnt f (a + m) = cnt f a + cnt (fun k => f (a + k)) m
  | 0 => rfl
  | m + 1 => by
    show cnt f (a + m + 1) = _
    rw [cnt_0, cnt_0, cnt_app f a m]
    split <;> omega
theorem by_cnt : ∀ l : List Nat, (∀ b ∈ l, b < 256) → cnt (fun k => Nat.testBit (byt l) k) (8 * l.length) = (l.map fun b => cnt (fun k => Nat.testBit b k) 8).sum
  | [], _ => rfl
  | b :: l, h => by
    have hb := h b List.mem_cons_self
    have ih := by_cnt l (fun x hx => h x (List.mem_cons_of_mem _ hx))
    rw [show 8 * (b :: l).length = 8 + 8 * l.length by simp; omega, cnt_app, List.map_cons, List.sum_cons, ← ih]
    congr 1
    · refine cnt_c (fun k hk => ?_)
      have h1 : (byt (b :: l)) % 2 ^ 8 = b := by
        show (b + 256 * byt l) % 2 ^ 8 = b
        omega
      have h2 := Nat.testBit_mod_two_pow (byt (b :: l)) 8 k
      rw [h1, decide_eq_true hk, Bool.true_and] at h2
      exact h2.symm
    · refine cnt_c (fun k hk => ?_)
      have h1 : (byt (b :: l)) / 2 ^ 8 = byt l := by
        show (b + 256 * byt l) / 2 ^ 8 = byt l
        omega
      show Nat.testBit (byt (b :: l)) (8 + k) = Nat.testBit (byt l) k
      rw [← h1, Nat.testBit_div_two_pow, Nat.add_comm]
/-! on longs -/
theorem sh_n {n : Nat} (hn : n < 2 ^ 64) {k : Nat} (hk : k < 64) {v : Int32} (hv : v = nI k) : sh64 (lN n) v = lN (n / 2 ^ k) := by
  subst hv
  exact wb_shr hn hk
theorem i32_127 (a : Nat) : (lN a).toInt32 &&& 127 = nI (a % 128) := by
  apply Int32.toBitVec_inj.mp
  apply BitVec.eq_of_toNat_eq
  have h1 : (lN a).toInt32 = nI a := by
    apply Int32.toBitVec_inj.mp
    show (BitVec.ofNat 64 a).signExtend 32 = BitVec.ofNat 32 a
    apply BitVec.eq_of_toNat_eq
    rw [BitVec.signExtend_eq_setWidth_of_le _ (by decide), BitVec.toNat_setWidth, BitVec.toNat_ofNat, BitVec.toNat_ofNat]
    omega
  rw [h1]
  show (BitVec.ofNat 32 a &&& 127#32).toNat = (BitVec.ofNat 32 (a % 128)).toNat
  rw [BitVec.toNat_and, BitVec.toNat_ofNat, BitVec.toNat_ofNat, show (127 % 2 ^ 32 : Nat) = 2 ^ 7 - 1 from rfl, Nat.and_two_pow_sub_one_eq_mod, Nat.mod_mod_of_dvd _ (by decide : 2 ^ 7 ∣ 2 ^ 32)]
  exact (Nat.mod_eq_of_lt (Nat.lt_of_lt_of_le (Nat.mod_lt _ (by decide)) (by decide))).symm
def byl : Nat → Nat → List Nat
  | 0, _ => []
  | m + 1, n => n % 256 :: byl m (n / 256)
theorem byl_l : ∀ m n, (byl m n).length = m
  | 0, _ => rfl
  | m + 1, n => by
    show (byl m (n / 256)).length + 1 = m + 1
    rw [byl_l m]
theorem byl_lt : ∀ m n, ∀ b ∈ byl m n, b < 256
  | 0, _, b, h => by cases h
  | m + 1, n, b, h => by
    rcases List.mem_cons.mp h with rfl | h
    · exact Nat.mod_lt _ (by decide)
    · exact byl_lt m _ b h
theorem byl_e : ∀ m n, n < 256 ^ m → byt (byl m n) = n
  | 0, n, h => by
    have : n = 0 := by
      rw [Nat.pow_zero] at h
      omega
    subst this; rfl
  | m + 1, n, h => by
    have h2 : n / 256 < 256 ^ m := by
      rw [Nat.pow_succ] at h
      exact Nat.div_lt_of_lt_mul (by omega)
    show n % 256 + 256 * byt (byl m (n / 256)) = n
    rw [byl_e m _ h2]
    omega
theorem dv {r m q : Nat} (h : r < m) : (r + m * q) / m = q := by
  rw [Nat.add_mul_div_left _ _ (by omega), Nat.div_eq_of_lt h, Nat.zero_add]
theorem by_102 {b : Nat} (h : b % 16 ≤ 6 ∧ b / 16 ≤ 6) : b ≤ 102 := by omega
theorem by_le : ∀ l : List Nat, (∀ b ∈ l, b ≤ 102) → byt l ≤ 102 * byt (l.map fun _ => 1)
  | [], _ => Nat.le_refl 0
  | b :: l, h => by
    have hb := h b List.mem_cons_self
    have ih := by_le l (fun x hx => h x (List.mem_cons_of_mem _ hx))
    show b + 256 * byt l ≤ 102 * (1 + 256 * byt (l.map fun _ => 1))
    omega
theorem by_hb {x : Nat} (h : x ≤ 102 * 72340172838076673) : x + x / 16 < 2 ^ 64 := by omega
theorem by_lt : ∀ l : List Nat, (∀ b ∈ l, b < 256) → byt l < 256 ^ l.length
  | [], _ => by decide
  | b :: l, h => by
    have hb := h b List.mem_cons_self
    have ih := by_lt l (fun x hx => h x (List.mem_cons_of_mem _ hx))
    show b + 256 * byt l < 256 ^ (l.length + 1)
    rw [Nat.pow_succ]
    omega
set_option maxRecDepth 100000 in
theorem bf_lt : ∀ b, b < 256 → bf1 b < 256 ∧ bf2 (bf1 b) < 256 ∧ bf3 (bf2 (bf1 b)) ≤ 8 := by decide +kernel
theorem by_fin2 {X Y Z V r1 r2 r3 S W M : Nat} (h1 : X = r1 + 256 * Y) (b1 : r1 < 256) (h2 : X + Y = r2 + 65536 * Z) (b2 : r2 < 65536) (h3 : X + Y + Z = r3 + 4294967296 * V) (b3 : r3 < 4294967296) (h4 : X + Y + Z + V = S + 128 * W) (b4 : S < 128) (b5 : X + Y + Z < M) : (X + X / 256 + (X + X / 256) / 65536 + (X + X / 256 + (X + X / 256) / 65536) / 4294967296) % 128 = S ∧ X + X / 256 + (X + X / 256) / 65536 < M ∧ X + X / 256 < M ∧ X < M := by
  have e1 : X / 256 = Y := by
    rw [h1]; exact dv b1
  rw [e1]
  have e2 : (X + Y) / 65536 = Z := by
    rw [h2]; exact dv b2
  rw [e2]
  have e3 : (X + Y + Z) / 4294967296 = V := by
    rw [h3]; exact dv b3
  rw [e3]
  refine ⟨?_, b5, Nat.lt_of_le_of_lt (Nat.le_add_right _ _) b5, Nat.lt_of_le_of_lt (Nat.le_trans (Nat.le_add_right _ _) (Nat.le_add_right _ _)) b5⟩
  rw [h4, Nat.add_mul_mod_self_left, Nat.mod_eq_of_lt b4]
set_option maxHeartbeats 100000 in
theorem by_q1 {c0 c1 c2 c3 c4 c5 c6 c7 X Y : Nat} (h : X = c0 + 256 * (c1 + 256 * (c2 + 256 * (c3 + 256 * (c4 + 256 * (c5 + 256 * (c6 + 256 * (c7 + 256 * 0)))))))) (hY : Y = (c1 + 256 * (c2 + 256 * (c3 + 256 * (c4 + 256 * (c5 + 256 * (c6 + 256 * c7))))))) : X = c0 + 256 * Y := by omega
set_option maxHeartbeats 100000 in
theorem by_q2 {c0 c1 c2 c3 c4 c5 c6 c7 X Y Z : Nat} (h : X = c0 + 256 * (c1 + 256 * (c2 + 256 * (c3 + 256 * (c4 + 256 * (c5 + 256 * (c6 + 256 * (c7 + 256 * 0)))))))) (hY : Y = (c1 + 256 * (c2 + 256 * (c3 + 256 * (c4 + 256 * (c5 + 256 * (c6 + 256 * c7))))))) (hZ : Z = ((c2 + c3) + 256 * ((c3 + c4) + 256 * ((c4 + c5) + 256 * ((c5 + c6) + 256 * ((c6 + c7) + 256 * c7)))))) : X + Y = ((c0 + c1) + 256 * (c1 + c2)) + 65536 * Z := by omega
set_option maxHeartbeats 100000 in
theorem by_q3 {c0 c1 c2 c3 c4 c5 c6 c7 X Y Z V : Nat} (h : X = c0 + 256 * (c1 + 256 * (c2 + 256 * (c3 + 256 * (c4 + 256 * (c5 + 256 * (c6 + 256 * (c7 + 256 * 0)))))))) (hY : Y = (c1 + 256 * (c2 + 256 * (c3 + 256 * (c4 + 256 * (c5 + 256 * (c6 + 256 * c7))))))) (hZ : Z = ((c2 + c3) + 256 * ((c3 + c4) + 256 * ((c4 + c5) + 256 * ((c5 + c6) + 256 * ((c6 + c7) + 256 * c7)))))) (hV : V = ((c4 + c5 + c6 + c7) + 256 * ((c5 + c6 + c7) + 256 * ((c6 + c7) + 256 * c7)))) : X + Y + Z = ((c0 + c1 + c2 + c3) + 256 * ((c1 + c2 + c3 + c4) + 256 * ((c2 + c3 + c4 + c5) + 256 * (c3 + c4 + c5 + c6)))) + 4294967296 * V := by omega
set_option maxHeartbeats 100000 in
theorem by_q4 {c0 c1 c2 c3 c4 c5 c6 c7 X Y Z V W : Nat} (h : X = c0 + 256 * (c1 + 256 * (c2 + 256 * (c3 + 256 * (c4 + 256 * (c5 + 256 * (c6 + 256 * (c7 + 256 * 0)))))))) (hY : Y = (c1 + 256 * (c2 + 256 * (c3 + 256 * (c4 + 256 * (c5 + 256 * (c6 + 256 * c7))))))) (hZ : Z = ((c2 + c3) + 256 * ((c3 + c4) + 256 * ((c4 + c5) + 256 * ((c5 + c6) + 256 * ((c6 + c7) + 256 * c7)))))) (hV : V = ((c4 + c5 + c6 + c7) + 256 * ((c5 + c6 + c7) + 256 * ((c6 + c7) + 256 * c7)))) (hW : W = (2 * ((c1 + c2 + c3 + c4 + c5 + c6 + c7) + 256 * ((c2 + c3 + c4 + c5 + c6 + c7) + 256 * ((c3 + c4 + c5 + c6 + c7) + 256 * ((c4 + c5 + c6 + c7) + 256 * ((c5 + c6 + c7) + 256 * ((c6 + c7) + 256 * c7)))))))) : X + Y + Z + V = (c0 + (c1 + (c2 + (c3 + (c4 + (c5 + (c6 + (c7 + 0)))))))) + 128 * W := by omega
set_option maxHeartbeats 100000 in
theorem by_q5 {c0 c1 c2 c3 c4 c5 c6 c7 X Y Z : Nat} (g0 : c0 ≤ 8) (g1 : c1 ≤ 8) (g2 : c2 ≤ 8) (g3 : c3 ≤ 8) (g4 : c4 ≤ 8) (g5 : c5 ≤ 8) (g6 : c6 ≤ 8) (g7 : c7 ≤ 8) (h : X = c0 + 256 * (c1 + 256 * (c2 + 256 * (c3 + 256 * (c4 + 256 * (c5 + 256 * (c6 + 256 * (c7 + 256 * 0)))))))) (hY : Y = (c1 + 256 * (c2 + 256 * (c3 + 256 * (c4 + 256 * (c5 + 256 * (c6 + 256 * c7))))))) (hZ : Z = ((c2 + c3) + 256 * ((c3 + c4) + 256 * ((c4 + c5) + 256 * ((c5 + c6) + 256 * ((c6 + c7) + 256 * c7)))))) : X + Y + Z < 18446744073709551616 := by omega
theorem by_fin {c0 c1 c2 c3 c4 c5 c6 c7 X : Nat} (g0 : c0 ≤ 8) (g1 : c1 ≤ 8) (g2 : c2 ≤ 8) (g3 : c3 ≤ 8) (g4 : c4 ≤ 8) (g5 : c5 ≤ 8) (g6 : c6 ≤ 8) (g7 : c7 ≤ 8) (hX : X = c0 + 256 * (c1 + 256 * (c2 + 256 * (c3 + 256 * (c4 + 256 * (c5 + 256 * (c6 + 256 * (c7 + 256 * 0)))))))) : (X + X / 256 + (X + X / 256) / 65536 + (X + X / 256 + (X + X / 256) / 65536) / 4294967296) % 128 = (c0 + (c1 + (c2 + (c3 + (c4 + (c5 + (c6 + (c7 + 0)))))))) ∧ X + X / 256 + (X + X / 256) / 65536 < 18446744073709551616 ∧ X + X / 256 < 18446744073709551616 ∧ X < 18446744073709551616 := by
  obtain ⟨Y, hY⟩ : ∃ Y, Y = (c1 + 256 * (c2 + 256 * (c3 + 256 * (c4 + 256 * (c5 + 256 * (c6 + 256 * c7)))))) := ⟨_, rfl⟩
  obtain ⟨Z, hZ⟩ : ∃ Z, Z = ((c2 + c3) + 256 * ((c3 + c4) + 256 * ((c4 + c5) + 256 * ((c5 + c6) + 256 * ((c6 + c7) + 256 * c7))))) := ⟨_, rfl⟩
  obtain ⟨V, hV⟩ : ∃ V, V = ((c4 + c5 + c6 + c7) + 256 * ((c5 + c6 + c7) + 256 * ((c6 + c7) + 256 * c7))) := ⟨_, rfl⟩
  obtain ⟨W, hW⟩ : ∃ W, W = (2 * ((c1 + c2 + c3 + c4 + c5 + c6 + c7) + 256 * ((c2 + c3 + c4 + c5 + c6 + c7) + 256 * ((c3 + c4 + c5 + c6 + c7) + 256 * ((c4 + c5 + c6 + c7) + 256 * ((c5 + c6 + c7) + 256 * ((c6 + c7) + 256 * c7))))))) := ⟨_, rfl⟩
  have q1 := by_q1 hX hY
  have q2 := by_q2 hX hY hZ
  have q3 := by_q3 hX hY hZ hV
  have q4 := by_q4 hX hY hZ hV hW
  have q5 := by_q5 g0 g1 g2 g3 g4 g5 g6 g7 hX hY hZ
  clear hX hY hZ hV hW
  exact by_fin2 q1 (by clear q1 q2 q3 q4 q5; omega) q2 (by clear q1 q2 q3 q4 q5; omega) q3 (by clear q1 q2 q3 q4 q5; omega) q4 (by clear q1 q2 q3 q4 q5; omega) q5
set_option maxHeartbeats 200000 in
theorem bcn_cnt (x : Int64) : bcn x = nI (cnt (fun k => x.toBitVec.getLsbD k) 64) := by
  obtain ⟨n, hn, rfl⟩ := wb_of x
  have hbits : ∀ k, (lN n).toBitVec.getLsbD k = Nat.testBit n k := fun k => by
    show (BitVec.ofNat 64 n).getLsbD k = _
    rw [BitVec.getLsbD_ofNat]
    by_cases h : k < 64
    · rw [decide_eq_true h, Bool.true_and]
    · rw [decide_eq_false h, Bool.false_and]
      exact (Nat.testBit_lt_two_pow (Nat.lt_of_lt_of_le hn (Nat.pow_le_pow_right (by decide) (by omega)))).symm
  rw [cnt_c (fun k _ => hbits k)]
  obtain ⟨l, hl, hlen, rfl⟩ : ∃ l : List Nat, (∀ b ∈ l, b < 256) ∧ l.length = 8 ∧ n = byt l := by
    exact ⟨byl 8 n, byl_lt 8 n, byl_l 8 n, (byl_e 8 n hn).symm⟩
  have h64 := by_cnt l hl
  rw [hlen] at h64
  rw [show (64 : Nat) = 8 * 8 from rfl, h64]
  have hl1 : ∀ b ∈ l.map bf1, b < 256 := fun b hb => by
    obtain ⟨c, hc, rfl⟩ := List.mem_map.mp hb
    exact (bf_lt c (hl c hc)).1
  have hl2 : ∀ b ∈ (l.map bf1).map bf2, b < 256 ∧ b % 16 ≤ 6 ∧ b / 16 ≤ 6 := fun b hb => by
    obtain ⟨d, hd, rfl⟩ := List.mem_map.mp hb
    obtain ⟨c, hc, rfl⟩ := List.mem_map.mp hd
    exact ⟨(bf_lt c (hl c hc)).2.1, (by_t3 c (hl c hc)).1, (by_t3 c (hl c hc)).2.1⟩
  have m5 : byt (l.map fun _ => 85) = 6148914691236517205 := by
    rw [List.map_const']
    try simp only [List.length_map]
    rw [hlen]
    decide
  have m3 : byt ((l.map bf1).map fun _ => 51) = 3689348814741910323 := by
    rw [List.map_const']
    try simp only [List.length_map]
    rw [hlen]
    decide
  have mF : byt (((l.map bf1).map bf2).map fun _ => 15) = 1085102592571150095 := by
    rw [List.map_const']
    try simp only [List.length_map]
    rw [hlen]
    decide
  have m1 : byt (((l.map bf1).map bf2).map fun _ => 1) = 72340172838076673 := by
    rw [List.map_const']
    try simp only [List.length_map]
    rw [hlen]
    decide
  have s1 := by_s1 l hl
  have s2 := by_s2 (l.map bf1) hl1
  have s3 := by_s3 ((l.map bf1).map bf2) (fun b hb => (hl2 b hb).2)
  rw [m5] at s1
  rw [m3] at s2
  rw [mF] at s3
  have L0 : byt l < 2 ^ 64 := hn
  have L1 : byt (l.map bf1) < 2 ^ 64 := by
    have := by_lt _ hl1
    rw [List.length_map, hlen] at this
    exact this
  have L2 : byt ((l.map bf1).map bf2) < 2 ^ 64 := by
    have := by_lt _ (fun b hb => (hl2 b hb).1)
    rw [List.length_map, List.length_map, hlen] at this
    exact this
  have a1 : bc1 (lN (byt l)) = lN (byt (l.map bf1)) := by
    unfold bc1
    rw [sh_n L0 (k := 1) (by decide) (show (1 : Int32) = nI 1 from rfl), show (6148914691236517205 : Int64) = lN 6148914691236517205 from rfl, wb_and (by omega) (by decide), lN_sub (Nat.le_trans Nat.and_le_left (by omega)), ← s1]
  have a2 : bc2 (lN (byt (l.map bf1))) = lN (byt ((l.map bf1).map bf2)) := by
    unfold bc2
    rw [sh_n L1 (k := 2) (by decide) (show (2 : Int32) = nI 2 from rfl), show (3689348814741910323 : Int64) = lN 3689348814741910323 from rfl, wb_and L1 (by decide), wb_and (by omega) (by decide), lN_add, ← s2]
  obtain ⟨k, hk, hk8, hkl⟩ : ∃ k : List Nat, ((l.map bf1).map bf2).map bf3 = k ∧ (∀ b ∈ k, b ≤ 8) ∧ k.length = 8 := ⟨_, rfl, fun b hb => by
    obtain ⟨e, he, rfl⟩ := List.mem_map.mp hb
    obtain ⟨d, hd, rfl⟩ := List.mem_map.mp he
    obtain ⟨c, hc, rfl⟩ := List.mem_map.mp hd
    exact (bf_lt c (hl c hc)).2.2, by rw [List.length_map, List.length_map, List.length_map, hlen]⟩
  have hsum : (l.map fun b => cnt (fun k => Nat.testBit b k) 8) = k := by
    rw [← hk, List.map_map, List.map_map]
    exact List.map_congr_left (fun b hb => ((by_t3 b (hl b hb)).2.2).symm)
  rw [hsum]
  rw [hk] at s3
  have a3 : bc3 (lN (byt ((l.map bf1).map bf2))) = lN (byt k) := by
    have hb : byt ((l.map bf1).map bf2) + byt ((l.map bf1).map bf2) / 16 < 2 ^ 64 := by
      have h7 : ∀ b ∈ (l.map bf1).map bf2, b ≤ 102 := fun b hb => by_102 (hl2 b hb).2
      have h8 := by_le _ h7
      rw [m1] at h8
      exact by_hb h8
    unfold bc3
    rw [sh_n L2 (k := 4) (by decide) (show (4 : Int32) = nI 4 from rfl), show (1085102592571150095 : Int64) = lN 1085102592571150095 from rfl, lN_add, wb_and hb (by decide), ← s3]
  have hfin : (byt k + byt k / 256 + (byt k + byt k / 256) / 65536 + (byt k + byt k / 256 + (byt k + byt k / 256) / 65536) / 4294967296) % 128 = k.sum ∧ byt k + byt k / 256 + (byt k + byt k / 256) / 65536 < 18446744073709551616 ∧ byt k + byt k / 256 < 18446744073709551616 ∧ byt k < 18446744073709551616 := by
    match k, hkl, hk8 with
    | [c0, c1, c2, c3, c4, c5, c6, c7], _, h8 =>
      have g0 := h8 c0 (by simp)
      have g1 := h8 c1 (by simp)
      have g2 := h8 c2 (by simp)
      have g3 := h8 c3 (by simp)
      have g4 := h8 c4 (by simp)
      have g5 := h8 c5 (by simp)
      have g6 := h8 c6 (by simp)
      have g7 := h8 c7 (by simp)
      exact by_fin g0 g1 g2 g3 g4 g5 g6 g7 (X := byt [c0, c1, c2, c3, c4, c5, c6, c7]) rfl
  unfold bcn
  rw [a1, a2, a3]
  have a4 : bc4 (lN (byt k)) = lN (byt k + byt k / 256) := by
    unfold bc4
    rw [sh_n hfin.2.2.2 (k := 8) (by decide) (show (8 : Int32) = nI 8 from rfl), lN_add]
  have a5 : bc5 (lN (byt k + byt k / 256)) = lN (byt k + byt k / 256 + (byt k + byt k / 256) / 65536) := by
    unfold bc5
    rw [sh_n hfin.2.2.1 (k := 16) (by decide) (show (16 : Int32) = nI 16 from rfl), lN_add]
  have a6 : bc6 (lN (byt k + byt k / 256 + (byt k + byt k / 256) / 65536)) = lN (byt k + byt k / 256 + (byt k + byt k / 256) / 65536 + (byt k + byt k / 256 + (byt k + byt k / 256) / 65536) / 4294967296) := by
    unfold bc6
    rw [sh_n hfin.2.1 (k := 32) (by decide) (show (32 : Int32) = nI 32 from rfl), lN_add]
  rw [a4, a5, a6, i32_127, hfin.1]
end ZZPOP
