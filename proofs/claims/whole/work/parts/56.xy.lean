/-! how far off a flight can be -/
def p_est (M : Nat → Nat → Int32) : Prop := ∀ k, k < 16 → -64 ≤ (M 136 k).toInt ∧ (M 136 k).toInt ≤ 64
theorem e_b {e p : Int32} {q : Nat} (h1 : -64 ≤ e.toInt) (h2 : e.toInt ≤ 64) (hp : p = Int32.ofNat q) (hq : q ≤ 60) : -60 ≤ (e * p / 64).toInt ∧ (e * p / 64).toInt ≤ 60 := by
  have ip : p.toInt = q := by rw [hp]; exact n_ti (by omega)
  have b1 : e.toInt * (q : Int) ≤ 64 * 60 := by
    calc e.toInt * (q : Int) ≤ 64 * (q : Int) := Int.mul_le_mul_of_nonneg_right h2 (by omega)
      _ ≤ 64 * 60 := by omega
  have b2 : -(64 * 60) ≤ e.toInt * (q : Int) := by
    calc -(64 * 60) ≤ -64 * (q : Int) := by omega
      _ ≤ e.toInt * (q : Int) := Int.mul_le_mul_of_nonneg_right h1 (by omega)
  have im : (e * p).toInt = e.toInt * q := by rw [t_mul (by rw [ip]; omega) (by rw [ip]; omega), ip]
  rw [t_div (by decide), im, show (64 : Int32).toInt = 64 from rfl]
  by_cases h : 0 ≤ e.toInt * (q : Int)
  · rw [Int.tdiv_eq_ediv_of_nonneg h]
    omega
  · rw [show e.toInt * (q : Int) = -(-(e.toInt * (q : Int))) by omega, Int.neg_tdiv, Int.tdiv_eq_ediv_of_nonneg (by omega)]
    omega
theorem wd_b {M : Nat → Nat → Int32} {z : Int32} {y : Nat} (h : p_ww M) (hz : z = Int32.ofNat y) (hy : y ≤ 466) : 0 ≤ (p_wd M z).toInt ∧ (p_wd M z).toInt ≤ 218 := by
  obtain ⟨⟨b, hb, eb⟩, ⟨c, hc, ec⟩⟩ := h
  have hm : c * y ≤ 9 * 466 := Nat.mul_le_mul hc hy
  unfold p_wd
  rw [eb, ec, hz, show (20 : Int32) = Int32.ofNat 20 from rfl, n_mul, n_div (by omega) (by omega), n_add, n_ti (by omega)]
  omega
theorem p_xy_b {M : Nat → Nat → Int32} {i : Nat} {w p : Int32} {mir : Bool} (ht : p_tw M i) (hw : p_nb w 63) (hp : p_nb p 60) (hww : p_ww M) (he : p_est M) : ∀ k : Nat, k ≤ 40 →
    (-(60 * (k : Int)) ≤ (p_row M i w p mir k 0).toInt ∧ (p_row M i w p mir k 0).toInt ≤ 60 * k) ∧ -(300 * (k : Int)) ≤ (p_row M i w p mir k 1).toInt ∧ (p_row M i w p mir k 1).toInt ≤ 300 * k
  | 0, _ => by
    show (-(60 * ((0 : Nat) : Int)) ≤ (0 : Int32).toInt ∧ (0 : Int32).toInt ≤ 60 * ((0 : Nat) : Int)) ∧ -(300 * ((0 : Nat) : Int)) ≤ (0 : Int32).toInt ∧ (0 : Int32).toInt ≤ 300 * ((0 : Nat) : Int)
    rw [show (0 : Int32).toInt = 0 from rfl]
    omega
  | k + 1, hk => by
    obtain ⟨⟨h1, h2⟩, h3, h4⟩ := p_xy_b (mir := mir) ht hw hp hww he k (by omega)
    obtain ⟨⟨z, z1, z2⟩, ⟨w0, w1, w2⟩, ⟨q, q1, q2⟩, -⟩ := p_row_b (mir := mir) ht hw hp k (by omega)
    have i1 : (p_row M i w p mir k 3 / 4).toNatClampNeg = w0 / 4 := by rw [w2, show (4 : Int32) = Int32.ofNat 4 from rfl, n_div (by omega) (by omega), n_cl (by omega)]
    have i2 : ((p_row M i w p mir k 3 / 4 + 12) % 16).toNatClampNeg = (w0 / 4 + 12) % 16 := by rw [w2, show (4 : Int32) = Int32.ofNat 4 from rfl, n_div (by omega) (by omega), show (12 : Int32) = Int32.ofNat 12 from rfl, n_add, show (16 : Int32) = Int32.ofNat 16 from rfl, n_mod (by omega) (by omega), n_cl (by omega)]
    have g1 := he (w0 / 4) (by omega)
    have g2 := he ((w0 / 4 + 12) % 16) (by omega)
    have a1 := e_b g1.1 g1.2 q2 q1
    have a2 := e_b g2.1 g2.2 q2 q1
    have a3 := wd_b hww z2 (by omega)
    refine ⟨?_, ?_⟩
    · show -(60 * ((k + 1 : Nat) : Int)) ≤ (p_row M i w p mir k 0 + M 136 (p_row M i w p mir k 3 / 4).toNatClampNeg * p_row M i w p mir k 4 / 64).toInt ∧ (p_row M i w p mir k 0 + M 136 (p_row M i w p mir k 3 / 4).toNatClampNeg * p_row M i w p mir k 4 / 64).toInt ≤ 60 * ((k + 1 : Nat) : Int)
      rw [i1, t_add (by omega) (by omega)]
      omega
    · show -(300 * ((k + 1 : Nat) : Int)) ≤ (p_row M i w p mir k 1 + M 136 ((p_row M i w p mir k 3 / 4 + 12) % 16).toNatClampNeg * p_row M i w p mir k 4 / 64 + p_wd M (p_row M i w p mir k 2)).toInt ∧ (p_row M i w p mir k 1 + M 136 ((p_row M i w p mir k 3 / 4 + 12) % 16).toNatClampNeg * p_row M i w p mir k 4 / 64 + p_wd M (p_row M i w p mir k 2)).toInt ≤ 300 * ((k + 1 : Nat) : Int)
      rw [i2]
      have e5 : (p_row M i w p mir k 1 + M 136 ((w0 / 4 + 12) % 16) * p_row M i w p mir k 4 / 64).toInt = (p_row M i w p mir k 1).toInt + (M 136 ((w0 / 4 + 12) % 16) * p_row M i w p mir k 4 / 64).toInt := t_add (by omega) (by omega)
      rw [t_add (by rw [e5]; omega) (by rw [e5]; omega), e5]
      omega
theorem sq_b {x : Int32} {B : Int} (h1 : -B ≤ x.toInt) (h2 : x.toInt ≤ B) (hB : B ≤ 12000) : 0 ≤ (x * x).toInt ∧ (x * x).toInt ≤ 144000000 := by
  have h0 : 0 ≤ x.toInt * x.toInt := by
    by_cases h : 0 ≤ x.toInt
    · exact Int.mul_nonneg h h
    · rw [show x.toInt * x.toInt = (-x.toInt) * (-x.toInt) by rw [Int.neg_mul_neg]]
      exact Int.mul_nonneg (by omega) (by omega)
  have h3 : x.toInt * x.toInt ≤ 12000 * 12000 := by
    by_cases h : 0 ≤ x.toInt
    · exact Int.mul_le_mul (by omega) (by omega) h (by omega)
    · rw [show x.toInt * x.toInt = (-x.toInt) * (-x.toInt) by rw [Int.neg_mul_neg]]
      exact Int.mul_le_mul (by omega) (by omega) (by omega) (by omega)
  rw [t_mul (by omega) (by omega)]
  omega
theorem off_b {M : Nat → Nat → Int32} {i : Nat} {w p : Int32} {mir : Bool} (ht : p_tw M i) (hw : p_nb w 63) (hp : p_nb p 60) (hww : p_ww M) (he : p_est M) {k : Nat} (hk : k ≤ 40) : ∃ a, a ≤ 288000000 ∧ p_off (p_row M i w p mir k) = Int32.ofNat a := by
  obtain ⟨⟨h1, h2⟩, h3, h4⟩ := p_xy_b (mir := mir) ht hw hp hww he k hk
  have a1 := sq_b (x := p_row M i w p mir k 0) (B := 12000) (by omega) (by omega) (by omega)
  have a2 := sq_b (x := p_row M i w p mir k 1) (B := 12000) (by omega) (by omega) (by omega)
  have e : (p_off (p_row M i w p mir k)).toInt = (p_row M i w p mir k 0 * p_row M i w p mir k 0).toInt + (p_row M i w p mir k 1 * p_row M i w p mir k 1).toInt := t_add (by omega) (by omega)
  exact ⟨_, by omega, x_of (x := p_off (p_row M i w p mir k)) (by omega)⟩
