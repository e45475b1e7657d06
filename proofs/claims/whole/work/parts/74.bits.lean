/-! how many bits -/
theorem and_split (x m : Nat) : x &&& m = ((x % 256) &&& (m % 256)) + 256 * ((x / 256) &&& (m / 256)) := by
  have h1 : (x &&& m) % 2 ^ 8 = (x % 2 ^ 8) &&& (m % 2 ^ 8) := Nat.and_mod_two_pow
  have h2 : (x &&& m) / 2 ^ 8 = (x / 2 ^ 8) &&& (m / 2 ^ 8) := Nat.and_div_two_pow
  have h3 := Nat.div_add_mod (x &&& m) 256
  have e : (2 : Nat) ^ 8 = 256 := rfl
  rw [e] at h1 h2
  rw [← h1, ← h2]
  omega
def p_f1 (N : Nat) : Nat := N - ((N / 2) &&& 1431655765)
def p_f2 (N : Nat) : Nat := (N &&& 858993459) + ((N / 4) &&& 858993459)
def p_f3 (N : Nat) : Nat := (N + N / 16) &&& 252645135
def p_pop (x : Nat) : Nat → Nat
  | 0 => 0
  | k + 1 => p_pop x k + x / 2 ^ k % 2
theorem and55 {a b y : Nat} (ha : a < 128) (hb : b < 2) : (a + 128 * b + 256 * y) &&& 1431655765 = (a &&& 85) + 256 * (y &&& 5592405) := by
  have := and_split (a + 128 * b + 256 * y) 1431655765
  rw [this, show (a + 128 * b + 256 * y) % 256 = a + 128 * b by omega, show (a + 128 * b + 256 * y) / 256 = y by omega]
  have h : ∀ a : Fin 128, ∀ b : Fin 2, (a.1 + 128 * b.1) &&& 85 = a.1 &&& 85 := by decide +kernel
  have := h ⟨a, ha⟩ ⟨b, hb⟩
  simp only at this
  show ((a + 128 * b) &&& 85) + 256 * (y &&& 5592405) = _
  rw [this]
theorem and55' {a b y : Nat} (ha : a < 128) (hb : b < 2) : (a + 128 * b + 256 * y) &&& 5592405 = (a &&& 85) + 256 * (y &&& 21845) := by
  have := and_split (a + 128 * b + 256 * y) 5592405
  rw [this, show (a + 128 * b + 256 * y) % 256 = a + 128 * b by omega, show (a + 128 * b + 256 * y) / 256 = y by omega]
  have h : ∀ a : Fin 128, ∀ b : Fin 2, (a.1 + 128 * b.1) &&& 85 = a.1 &&& 85 := by decide +kernel
  have := h ⟨a, ha⟩ ⟨b, hb⟩
  simp only at this
  show ((a + 128 * b) &&& 85) + 256 * (y &&& 21845) = _
  rw [this]
def p_g1 (a : Nat) : Nat := a - ((a / 2) &&& 85)
def p_g2 (a : Nat) : Nat := (p_g1 a &&& 51) + ((p_g1 a / 4) &&& 51)
theorem g1_ok (a : Nat) (ha : a < 256) : ((a / 2) &&& 85) ≤ a ∧ p_g1 a < 256 := by
  have h : ∀ a : Fin 256, ((a.1 / 2) &&& 85) ≤ a.1 ∧ p_g1 a.1 < 256 := by decide +kernel
  exact h ⟨a, ha⟩
theorem g2_ok (a : Nat) (ha : a < 256) : p_g2 a % 16 ≤ 4 ∧ p_g2 a / 16 ≤ 4 ∧ p_g2 a % 16 + p_g2 a / 16 = p_pop a 8 := by
  have h : ∀ a : Fin 256, p_g2 a.1 % 16 ≤ 4 ∧ p_g2 a.1 / 16 ≤ 4 ∧ p_g2 a.1 % 16 + p_g2 a.1 / 16 = p_pop a.1 8 := by decide +kernel
  exact h ⟨a, ha⟩
theorem f1_eq {a b c : Nat} (ha : a < 256) (hb : b < 256) (hc : c < 256) : p_f1 (a + 256 * b + 65536 * c) = p_g1 a + 256 * p_g1 b + 65536 * p_g1 c := by
  have e1 := and55 (a := a / 2) (b := b % 2) (y := b / 2 + 128 * (c % 2) + 256 * (c / 2)) (by omega) (by omega)
  have e2 := and55' (a := b / 2) (b := c % 2) (y := c / 2) (by omega) (by omega)
  have e3 : (c / 2) &&& 21845 = (c / 2) &&& 85 := by
    have h : ∀ x : Fin 128, x.1 &&& 21845 = x.1 &&& 85 := by decide +kernel
    exact h ⟨c / 2, by omega⟩
  have d : (a + 256 * b + 65536 * c) / 2 = a / 2 + 128 * (b % 2) + 256 * (b / 2 + 128 * (c % 2) + 256 * (c / 2)) := by omega
  have ga := (g1_ok a ha).1
  have gb := (g1_ok b hb).1
  have gc := (g1_ok c hc).1
  unfold p_f1 p_g1
  rw [d, e1, e2, e3]
  omega
theorem and33 {x y : Nat} (hx : x < 256) : (x + 256 * y) &&& 858993459 = (x &&& 51) + 256 * (y &&& 3355443) := by
  have := and_split (x + 256 * y) 858993459
  rw [this, show (x + 256 * y) % 256 = x by omega, show (x + 256 * y) / 256 = y by omega]
theorem and33' {x y : Nat} (hx : x < 256) : (x + 256 * y) &&& 3355443 = (x &&& 51) + 256 * (y &&& 13107) := by
  have := and_split (x + 256 * y) 3355443
  rw [this, show (x + 256 * y) % 256 = x by omega, show (x + 256 * y) / 256 = y by omega]
theorem and33'' {x : Nat} (hx : x < 256) : x &&& 13107 = x &&& 51 := by
  have h : ∀ x : Fin 256, x.1 &&& 13107 = x.1 &&& 51 := by decide +kernel
  exact h ⟨x, hx⟩
theorem and33h {a b : Nat} (ha : a < 64) (hb : b < 4) : (a + 64 * b) &&& 51 = a &&& 51 := by
  have h : ∀ a : Fin 64, ∀ b : Fin 4, (a.1 + 64 * b.1) &&& 51 = a.1 &&& 51 := by decide +kernel
  exact h ⟨a, ha⟩ ⟨b, hb⟩
theorem f2_eq {a b c : Nat} (ha : a < 256) (hb : b < 256) (hc : c < 256) : p_f2 (a + 256 * b + 65536 * c) = ((a &&& 51) + ((a / 4) &&& 51)) + 256 * ((b &&& 51) + ((b / 4) &&& 51)) + 65536 * ((c &&& 51) + ((c / 4) &&& 51)) := by
  have e1 := and33 (x := a) (y := b + 256 * c) ha
  have e2 := and33' (x := b) (y := c) hb
  have e3 := and33'' hc
  have k1 := and33 (x := a / 4 + 64 * (b % 4)) (y := b / 4 + 64 * (c % 4) + 256 * (c / 4)) (by omega)
  have k2 := and33' (x := b / 4 + 64 * (c % 4)) (y := c / 4) (by omega)
  have k3 := and33'' (x := c / 4) (by omega)
  have d1 : a + 256 * b + 65536 * c = a + 256 * (b + 256 * c) := by omega
  have d2 : (a + 256 * b + 65536 * c) / 4 = a / 4 + 64 * (b % 4) + 256 * (b / 4 + 64 * (c % 4) + 256 * (c / 4)) := by omega
  unfold p_f2
  rw [d2, d1, e1, e2, e3, k1, k2, k3, and33h (by omega) (by omega), and33h (by omega) (by omega)]
  omega
theorem and0f {p q : Nat} (hp : p < 16) (hq : q < 16) : (p + 16 * q) &&& 15 = p := by
  have h : ∀ p : Fin 16, ∀ q : Fin 16, (p.1 + 16 * q.1) &&& 15 = p.1 := by decide +kernel
  exact h ⟨p, hp⟩ ⟨q, hq⟩
theorem f3_eq {a0 a1 b0 b1 c0 c1 : Nat} (h1 : a0 ≤ 4) (h2 : a1 ≤ 4) (h3 : b0 ≤ 4) (h4 : b1 ≤ 4) (h5 : c0 ≤ 4) (h6 : c1 ≤ 4) :
    p_f3 ((a0 + 16 * a1) + 256 * (b0 + 16 * b1) + 65536 * (c0 + 16 * c1)) = (a0 + a1) + 256 * (b0 + b1) + 65536 * (c0 + c1) := by
  unfold p_f3
  rw [show (a0 + 16 * a1) + 256 * (b0 + 16 * b1) + 65536 * (c0 + 16 * c1) + ((a0 + 16 * a1) + 256 * (b0 + 16 * b1) + 65536 * (c0 + 16 * c1)) / 16 = ((a0 + a1) + 16 * (a1 + b0)) + 256 * (((b0 + b1) + 16 * (b1 + c0)) + 256 * ((c0 + c1) + 16 * c1)) by omega]
  rw [and_split, show (((a0 + a1) + 16 * (a1 + b0)) + 256 * (((b0 + b1) + 16 * (b1 + c0)) + 256 * ((c0 + c1) + 16 * c1))) % 256 = (a0 + a1) + 16 * (a1 + b0) by omega, show (((a0 + a1) + 16 * (a1 + b0)) + 256 * (((b0 + b1) + 16 * (b1 + c0)) + 256 * ((c0 + c1) + 16 * c1))) / 256 = ((b0 + b1) + 16 * (b1 + c0)) + 256 * ((c0 + c1) + 16 * c1) by omega]
  rw [and_split (((b0 + b1) + 16 * (b1 + c0)) + 256 * ((c0 + c1) + 16 * c1)), show (((b0 + b1) + 16 * (b1 + c0)) + 256 * ((c0 + c1) + 16 * c1)) % 256 = (b0 + b1) + 16 * (b1 + c0) by omega, show (((b0 + b1) + 16 * (b1 + c0)) + 256 * ((c0 + c1) + 16 * c1)) / 256 = (c0 + c1) + 16 * c1 by omega]
  rw [and_split ((c0 + c1) + 16 * c1), show ((c0 + c1) + 16 * c1) % 256 = (c0 + c1) + 16 * c1 by omega, show ((c0 + c1) + 16 * c1) / 256 = 0 by omega, Nat.zero_and]
  show (((a0 + a1) + 16 * (a1 + b0)) &&& 15) + 256 * ((((b0 + b1) + 16 * (b1 + c0)) &&& 15) + 256 * ((((c0 + c1) + 16 * c1) &&& 15) + 256 * 0)) = _
  rw [and0f (by omega) (by omega), and0f (by omega) (by omega), and0f (by omega) (by omega)]
  omega
theorem pop_le (x : Nat) : ∀ k, p_pop x k ≤ k
  | 0 => Nat.le_refl _
  | k + 1 => by have := pop_le x k; show p_pop x k + x / 2 ^ k % 2 ≤ k + 1; omega
theorem pop_base {x y : Nat} : p_pop (x + 256 * y) 8 = p_pop x 8 := by
  have q0 : (x + 256 * y) / 1 % 2 = x / 1 % 2 := by omega
  have q1 : (x + 256 * y) / 2 % 2 = x / 2 % 2 := by omega
  have q2 : (x + 256 * y) / 4 % 2 = x / 4 % 2 := by omega
  have q3 : (x + 256 * y) / 8 % 2 = x / 8 % 2 := by omega
  have q4 : (x + 256 * y) / 16 % 2 = x / 16 % 2 := by omega
  have q5 : (x + 256 * y) / 32 % 2 = x / 32 % 2 := by omega
  have q6 : (x + 256 * y) / 64 % 2 = x / 64 % 2 := by omega
  have q7 : (x + 256 * y) / 128 % 2 = x / 128 % 2 := by omega
  simp only [p_pop, Nat.reducePow, q0, q1, q2, q3, q4, q5, q6, q7]
theorem pop_up {x y : Nat} (hx : x < 256) : ∀ m, p_pop (x + 256 * y) (8 + m) = p_pop x 8 + p_pop y m
  | 0 => pop_base
  | m + 1 => by
    have IH := pop_up (y := y) hx m
    have e : (x + 256 * y) / 2 ^ (8 + m) = y / 2 ^ m := by
      rw [Nat.pow_add, ← Nat.div_div_eq_div_mul]
      congr 1
      show (x + 256 * y) / 256 = y
      omega
    show p_pop (x + 256 * y) (8 + m) + (x + 256 * y) / 2 ^ (8 + m) % 2 = p_pop x 8 + (p_pop y m + y / 2 ^ m % 2)
    rw [IH, e, Nat.add_assoc]
theorem pop_split {a b c : Nat} (ha : a < 256) (hb : b < 256) (hc : c < 32) : p_pop (a + 256 * b + 65536 * c) 21 = p_pop a 8 + p_pop b 8 + p_pop c 8 := by
  have e1 := pop_up (y := b + 256 * c) ha 13
  have e2 := pop_up (y := c) hb 5
  have c5 : c / 32 = 0 := by omega
  have c6 : c / 64 = 0 := by omega
  have c7 : c / 128 = 0 := by omega
  have e3 : p_pop c 8 = p_pop c 5 := by simp only [p_pop, Nat.reducePow, c5, c6, c7, Nat.zero_mod, Nat.add_zero]
  rw [show a + 256 * b + 65536 * c = a + 256 * (b + 256 * c) by omega, e3]
  have e1' : p_pop (a + 256 * (b + 256 * c)) 21 = p_pop a 8 + p_pop (b + 256 * c) 13 := e1
  have e2' : p_pop (b + 256 * c) 13 = p_pop b 8 + p_pop c 5 := e2
  rw [e1', e2', Nat.add_assoc]
theorem pop_fin {P Q R : Nat} (h1 : P ≤ 8) (h2 : Q ≤ 8) (h3 : R ≤ 8) : (P + 256 * Q + 65536 * R + (P + 256 * Q + 65536 * R) / 256 + (P + 256 * Q + 65536 * R + (P + 256 * Q + 65536 * R) / 256) / 65536) % 64 = P + Q + R := by
  have e1 : (P + 256 * Q + 65536 * R) / 256 = Q + 256 * R := by omega
  have e2 : (P + 256 * Q + 65536 * R + (Q + 256 * R)) / 65536 = R := by omega
  rw [e1, e2]
  omega
theorem pop_nat {N : Nat} (hN : N < 2097152) : let y := p_f3 (p_f2 (p_f1 N)); (y + y / 256 + (y + y / 256) / 65536) % 64 = p_pop N 21 ∧ y < 2097152 ∧ p_f1 N ≤ N ∧ p_f2 (p_f1 N) < 16777216 := by
  have eN : N = N % 256 + 256 * (N / 256 % 256) + 65536 * (N / 65536) := by omega
  have ha : N % 256 < 256 := Nat.mod_lt _ (by omega)
  have hb : N / 256 % 256 < 256 := Nat.mod_lt _ (by omega)
  have hc : N / 65536 < 32 := by omega
  generalize N % 256 = a at eN ha
  generalize N / 256 % 256 = b at eN hb
  generalize N / 65536 = c at eN hc
  subst eN
  have e1 := f1_eq ha hb (show c < 256 by omega)
  have e2 := f2_eq (g1_ok a ha).2 (g1_ok b hb).2 (g1_ok c (by omega)).2
  have ga := g2_ok a ha
  have gb := g2_ok b hb
  have gc := g2_ok c (by omega)
  have e4 := f3_eq ga.1 ga.2.1 gb.1 gb.2.1 gc.1 gc.2.1
  have da : p_g2 a % 16 + 16 * (p_g2 a / 16) = p_g2 a := Nat.mod_add_div _ _
  have db : p_g2 b % 16 + 16 * (p_g2 b / 16) = p_g2 b := Nat.mod_add_div _ _
  have dc : p_g2 c % 16 + 16 * (p_g2 c / 16) = p_g2 c := Nat.mod_add_div _ _
  rw [da, db, dc, ga.2.2, gb.2.2, gc.2.2] at e4
  have e5 : p_f2 (p_f1 (a + 256 * b + 65536 * c)) = p_g2 a + 256 * p_g2 b + 65536 * p_g2 c := by rw [e1, e2]; rfl
  have pa := pop_le a 8
  have pb := pop_le b 8
  have pc := pop_le c 8
  intro y
  have ey : y = p_pop a 8 + 256 * p_pop b 8 + 65536 * p_pop c 8 := by show p_f3 _ = _; rw [e5, e4]
  rw [pop_split ha hb hc, ey, e5]
  have ga3 := ga.1
  have gc3 := gc.2.1
  have gc4 := gc.1
  have gb3 := gb.1
  have gb4 := gb.2.1
  have ga4 := ga.2.1
  clear e1 e2 e4 e5 ey ga gb gc
  refine ⟨pop_fin pa pb pc, by clear da db dc; omega, Nat.sub_le _ _, ?_⟩
  clear pa pb pc
  omega
theorem i_and {a b : Nat} (ha : a < 2147483648) (hb : b < 2147483648) : Int32.ofNat a &&& Int32.ofNat b = Int32.ofNat (a &&& b) := by
  apply Int32.toBitVec_inj.1
  rw [Int32.toBitVec_and, Int32.toBitVec_ofNat', Int32.toBitVec_ofNat', Int32.toBitVec_ofNat', BitVec.ofNat_and]
theorem i_or {a b : Nat} : Int32.ofNat a ||| Int32.ofNat b = Int32.ofNat (a ||| b) := by
  apply Int32.toBitVec_inj.1
  rw [Int32.toBitVec_or, Int32.toBitVec_ofNat', Int32.toBitVec_ofNat', Int32.toBitVec_ofNat', BitVec.ofNat_or]
theorem i_ushr {a : Nat} (ha : a < 2147483648) {s : UInt32} {p : Nat} (hs : s.toNat % 32 = p) : ((Int32.ofNat a).toUInt32 >>> s).toInt32 = Int32.ofNat (a / 2 ^ p) := by
  apply Int32.toBitVec_inj.1
  apply BitVec.eq_of_toNat_eq
  have e : ((Int32.ofNat a).toUInt32 >>> s).toNat = a / 2 ^ p := by
    rw [UInt32.toNat_shiftRight, hs, Nat.shiftRight_eq_div_pow]
    congr 1
    show (Int32.ofNat a).toBitVec.toNat = a
    rw [Int32.toBitVec_ofNat', BitVec.toNat_ofNat]
    omega
  have hd : a / 2 ^ p ≤ a := Nat.div_le_self _ _
  show ((Int32.ofNat a).toUInt32 >>> s).toNat = _
  rw [e, Int32.toBitVec_ofNat', BitVec.toNat_ofNat]
  omega
theorem bc_eq {N : Nat} (hN : N < 2097152) : p_bc (Int32.ofNat N) = Int32.ofNat (p_pop N 21) := by
  obtain ⟨h1, h2, h3, h4⟩ := pop_nat hN
  have s1 := i_ushr (a := N) (s := Int32.toUInt32 1 &&& Int32.toUInt32 31) (p := 1) (by omega) (by decide)
  have b1 : p_b1 (Int32.ofNat N) = Int32.ofNat (p_f1 N) := by
    unfold p_b1
    rw [s1, show (1431655765 : Int32) = Int32.ofNat 1431655765 from rfl, i_and (by omega) (by omega), n_sub (by have := Nat.and_le_left (n := N / 2 ^ 1) (m := 1431655765); omega)]
    rfl
  have s2 := i_ushr (a := p_f1 N) (s := Int32.toUInt32 2 &&& Int32.toUInt32 31) (p := 2) (by omega) (by decide)
  have b2 : p_b2 (Int32.ofNat (p_f1 N)) = Int32.ofNat (p_f2 (p_f1 N)) := by
    unfold p_b2
    rw [s2, show (858993459 : Int32) = Int32.ofNat 858993459 from rfl, i_and (by omega) (by omega), i_and (by omega) (by omega), n_add]
    rfl
  have s3 := i_ushr (a := p_f2 (p_f1 N)) (s := Int32.toUInt32 4 &&& Int32.toUInt32 31) (p := 4) (by omega) (by decide)
  have b3 : p_b3 (Int32.ofNat (p_f2 (p_f1 N))) = Int32.ofNat (p_f3 (p_f2 (p_f1 N))) := by
    unfold p_b3
    rw [s3, n_add, show (252645135 : Int32) = Int32.ofNat 252645135 from rfl, i_and (by omega) (by omega)]
    rfl
  generalize p_f3 (p_f2 (p_f1 N)) = y at b3 h1 h2
  have s4 := i_ushr (a := y) (s := Int32.toUInt32 8 &&& Int32.toUInt32 31) (p := 8) (by omega) (by decide)
  have b4 : p_b4 (Int32.ofNat y) = Int32.ofNat (y + y / 256) := by
    unfold p_b4
    rw [s4, n_add]
  have s5 := i_ushr (a := y + y / 256) (s := Int32.toUInt32 16 &&& Int32.toUInt32 31) (p := 16) (by omega) (by decide)
  have b5 : p_b5 (Int32.ofNat (y + y / 256)) = Int32.ofNat (y + y / 256 + (y + y / 256) / 65536) := by
    unfold p_b5
    rw [s5, n_add]
  unfold p_bc
  rw [b1, b2, b3, b4, b5, show (63 : Int32) = Int32.ofNat 63 from rfl, i_and (by omega) (by omega), ← h1]
  exact congrArg Int32.ofNat (Nat.and_two_pow_sub_one_eq_mod _ 6)
/-- a set of lifts -/
theorem it_lt (P : Nat → Bool) : ∀ k, k ≤ 21 → ∃ N, N < 2 ^ k ∧ p_it (fun v a => if P v = true then a ||| ((1 : Int32) <<< (Int32.ofNat v &&& 31)) else a) 0 k = Int32.ofNat N
  | 0, _ => ⟨0, by decide, rfl⟩
  | k + 1, hk => by
    obtain ⟨N, hN, e⟩ := it_lt P k (by omega)
    have hp : (2 : Nat) ^ (k + 1) = 2 ^ k * 2 := Nat.pow_succ 2 k
    have es : p_it (fun v a => if P v = true then a ||| ((1 : Int32) <<< (Int32.ofNat v &&& 31)) else a) 0 (k + 1) = if P k = true then Int32.ofNat N ||| ((1 : Int32) <<< (Int32.ofNat k &&& 31)) else Int32.ofNat N := by
      show (if P k = true then _ else _) = _
      rw [e]
    rw [es]
    split
    · have h : ∀ k : Fin 21, (1 : Int32) <<< (Int32.ofNat k.1 &&& 31) = Int32.ofNat (2 ^ k.1) := by decide
      have hk1 := h ⟨k, by omega⟩
      simp only at hk1
      rw [hk1, i_or]
      refine ⟨_, Nat.or_lt_two_pow (by omega) (by rw [hp]; have := Nat.two_pow_pos k; omega), rfl⟩
    · exact ⟨N, by omega, rfl⟩
