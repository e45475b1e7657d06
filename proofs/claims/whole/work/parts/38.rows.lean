/-! the rows of a flight stay in their bounds -/
def p_tw (M : Nat → Nat → Int32) (i : Nat) : Prop := i < 8 ∧ p_nb (M 143 i) 5 ∧ (∃ s, s < 4 ∧ M 144 i = Int32.ofNat s ∧ p_nb (M 137 s) 6) ∧ p_nb (M 147 i) 16 ∧ p_nb (M 148 i) 60 ∧ p_nb (M 149 i) 20
def p_rw (M : Nat → Nat → Int32) : Prop := ∃ rl, rl < 6 ∧ M 135 26 = Int32.ofNat rl ∧ p_lawok M rl
def p_ww (M : Nat → Nat → Int32) : Prop := p_nb (M 135 8) 9 ∧ p_nb (M 135 9) 9
theorem x_of {x : Int32} (h : 0 ≤ x.toInt) : x = Int32.ofNat x.toInt.toNat := (Int32.ofNat_toNatClampNeg x (Int32.le_iff_toInt_le.2 h)).symm
theorem p_clp_b {v lo hi : Int32} (h : lo.toInt ≤ hi.toInt) : lo.toInt ≤ (p_clp v lo hi).toInt ∧ (p_clp v lo hi).toInt ≤ hi.toInt := by
  unfold p_clp
  split
  · omega
  · rename_i h1
    rw [t_lt] at h1
    split
    · omega
    · rename_i h2
      rw [t_lt] at h2
      omega
theorem p_turn_b {M : Nat → Nat → Int32} {i : Nat} {S : Nat → Int32} (h : p_nb (M 149 i) 20) : -8 ≤ (p_turn M i S).toInt ∧ (p_turn M i S).toInt ≤ 10 := by
  obtain ⟨m, hm, e⟩ := h
  have b := p_clp_b (v := p_says M i 1 S) (lo := -8) (hi := 8) (by decide)
  rw [show (-8 : Int32).toInt = -8 from rfl, show (8 : Int32).toInt = 8 from rfl] at b
  have e3 : M 149 i % 3 = Int32.ofNat (m % 3) := by rw [e, show (3 : Int32) = Int32.ofNat 3 from rfl, n_mod (by omega) (by omega)]
  have e4 : (Int32.ofNat (m % 3)).toInt = ((m % 3 : Nat) : Int) := n_ti (by omega)
  show -8 ≤ (if _ then p_clp _ _ _ + _ else p_clp _ _ _ : Int32).toInt ∧ (if _ then p_clp _ _ _ + _ else p_clp _ _ _ : Int32).toInt ≤ 10
  rw [e3]
  split
  · rw [t_add (by omega) (by omega)]
    omega
  · omega
theorem p_up_b {M : Nat → Nat → Int32} {i k : Nat} {S : Nat → Int32} (h : p_nb (M 149 i) 20) : -10 ≤ (p_up M i k S).toInt ∧ (p_up M i k S).toInt ≤ 12 := by
  obtain ⟨m, hm, e⟩ := h
  have b := p_clp_b (v := p_says M i 0 S) (lo := -9) (hi := 9) (by decide)
  rw [show (-9 : Int32).toInt = -9 from rfl, show (9 : Int32).toInt = 9 from rfl] at b
  have e3 : M 149 i % 4 = Int32.ofNat (m % 4) := by rw [e, show (4 : Int32) = Int32.ofNat 4 from rfl, n_mod (by omega) (by omega)]
  have e4 : (Int32.ofNat (m % 4)).toInt = ((m % 4 : Nat) : Int) := n_ti (by omega)
  have e1 : (1 : Int32).toInt = 1 := rfl
  have e5 : (-1 : Int32).toInt = -1 := rfl
  unfold p_up
  simp only []
  rw [e3]
  split
  · split
    · rw [t_add (by omega) (by omega)]
      omega
    · rw [t_sub (by omega) (by omega)]
      omega
  · split
    · split
      · omega
      · omega
    · omega
theorem p_less_b {M : Nat → Nat → Int32} {i k : Nat} {S : Nat → Int32} : 0 ≤ (p_less M i k S).toInt ∧ (p_less M i k S).toInt ≤ 11 := by
  have b := p_clp_b (v := p_says M i 2 S) (lo := 0) (hi := 9) (by decide)
  rw [show (0 : Int32).toInt = 0 from rfl, show (9 : Int32).toInt = 9 from rfl] at b
  have e2 : (2 : Int32).toInt = 2 := rfl
  unfold p_less
  simp only []
  split
  · split
    · rw [t_add (by omega) (by omega)]
      omega
    · omega
  · omega
/-- what a row keeps -/
def p_rb (k : Nat) (S : Nat → Int32) : Prop := p_nb (S 2) (26 + 11 * k) ∧ p_nb (S 3) 63 ∧ p_nb (S 4) 60 ∧ p_nb (S 5) 60 ∧ p_nb (S 6) 16
theorem p_hi_b {M : Nat → Nat → Int32} {i : Nat} (h : p_nb (M 149 i) 20) : p_nb (p_hi M i) 26 := by
  obtain ⟨m, hm, e⟩ := h
  unfold p_hi
  split
  · refine ⟨6 + m, by omega, ?_⟩
    rw [e, show (6 : Int32) = Int32.ofNat 6 from rfl, n_add]
  · exact ⟨6, by omega, rfl⟩
theorem p_row_b {M : Nat → Nat → Int32} {i : Nat} {w p : Int32} {mir : Bool} (ht : p_tw M i) (hw : p_nb w 63) (hp : p_nb p 60) : ∀ k, k ≤ 40 → p_rb k (p_row M i w p mir k)
  | 0, _ => by
    obtain ⟨hi, h1, h2, h3, h4, h5⟩ := ht
    exact ⟨p_hi_b h5, hw, hp, h4, h3⟩
  | k + 1, hk => by
    obtain ⟨⟨z, z1, z2⟩, ⟨w0, w1, w2⟩, ⟨q, q1, q2⟩, ⟨sp, s1, s2⟩, ⟨tl, t1, t2⟩⟩ := p_row_b (mir := mir) ht hw hp k (by omega)
    obtain ⟨hi, h1, h2, h3, h4, h5⟩ := ht
    have ub := p_up_b (k := k) (S := p_row M i w p mir k) h5
    have tb := p_turn_b (S := p_row M i w p mir k) h5
    have lb := p_less_b (M := M) (i := i) (k := k) (S := p_row M i w p mir k)
    have c1 : (1 : Int32).toInt = 1 := rfl
    have c640 : (640 : Int32).toInt = 640 := rfl
    have zi : (p_row M i w p mir k 2).toInt = z := by rw [z2]; exact n_ti (by omega)
    have wi : (p_row M i w p mir k 3).toInt = w0 := by rw [w2]; exact n_ti (by omega)
    have qi : (p_row M i w p mir k 4).toInt = q := by rw [q2]; exact n_ti (by omega)
    refine ⟨?_, ?_, ?_, ?_, ?_⟩
    · show p_nb (if _ < 0 then 0 else _) _
      split
      · exact ⟨0, by omega, rfl⟩
      · rename_i hn
        have a1 : (p_row M i w p mir k 2 + p_up M i k (p_row M i w p mir k)).toInt = z + (p_up M i k (p_row M i w p mir k)).toInt := by rw [t_add (by omega) (by omega), zi]
        have a2 : (p_row M i w p mir k 2 + p_up M i k (p_row M i w p mir k) - 1).toInt = z + (p_up M i k (p_row M i w p mir k)).toInt - 1 := by rw [t_sub (by omega) (by omega), a1, c1]
        rw [t_lt, a2, show (0 : Int32).toInt = 0 from rfl] at hn
        exact ⟨_, by rw [a2]; omega, x_of (by rw [a2]; omega)⟩
    · show p_nb ((p_row M i w p mir k 3 + (if mir = true then - p_turn M i (p_row M i w p mir k) else p_turn M i (p_row M i w p mir k)) + 640) % 64) _
      have a0 : ∃ t : Int32, (if mir = true then - p_turn M i (p_row M i w p mir k) else p_turn M i (p_row M i w p mir k)) = t ∧ -10 ≤ t.toInt ∧ t.toInt ≤ 10 := by
        refine ⟨_, rfl, ?_⟩
        split
        · rw [t_neg (by omega)]; omega
        · omega
      obtain ⟨t, a0, a1, a2⟩ := a0
      rw [a0]
      have a3 : (p_row M i w p mir k 3 + t).toInt = w0 + t.toInt := by rw [t_add (by omega) (by omega), wi]
      have a4 : (p_row M i w p mir k 3 + t + 640).toInt = w0 + t.toInt + 640 := by rw [t_add (by omega) (by omega), a3, c640]
      rw [x_of (x := p_row M i w p mir k 3 + t + 640) (by omega), show (64 : Int32) = Int32.ofNat 64 from rfl, n_mod (by omega) (by omega)]
      exact ⟨_, by omega, rfl⟩
    · show p_nb (if _ < 0 then 0 else _) _
      split
      · exact ⟨0, by omega, rfl⟩
      · rename_i hn
        have a1 : (p_row M i w p mir k 4 - p_less M i k (p_row M i w p mir k)).toInt = q - (p_less M i k (p_row M i w p mir k)).toInt := by rw [t_sub (by omega) (by omega), qi]
        rw [t_lt, a1, show (0 : Int32).toInt = 0 from rfl] at hn
        exact ⟨_, by rw [a1]; omega, x_of (by rw [a1]; omega)⟩
    · show p_nb (if 0 < p_row M i w p mir k 5 then p_row M i w p mir k 5 - 1 else p_row M i w p mir k 5) _
      rw [s2]
      split
      · rename_i hn
        rw [show (0 : Int32) = Int32.ofNat 0 from rfl, n_lt (by omega) (by omega)] at hn
        rw [show (1 : Int32) = Int32.ofNat 1 from rfl, n_sub (by omega)]
        exact ⟨_, by omega, rfl⟩
      · exact ⟨_, s1, rfl⟩
    · show p_nb (if k % 3 = 2 ∧ 0 < p_row M i w p mir k 6 then p_row M i w p mir k 6 - 1 else p_row M i w p mir k 6) _
      rw [t2]
      split
      · rename_i hn
        rw [show (0 : Int32) = Int32.ofNat 0 from rfl, n_lt (by omega) (by omega)] at hn
        rw [show (1 : Int32) = Int32.ofNat 1 from rfl, n_sub (by omega)]
        exact ⟨_, by omega, rfl⟩
      · exact ⟨_, t1, rfl⟩
/-- where the going ends -/
theorem p_ls_spec (R : Nat → Nat → Int32) : ∀ m k, k ≤ p_ls R m k ∧ p_ls R m k ≤ k + m ∧ (∀ j, k ≤ j → j < p_ls R m k → R j 2 ≠ 0) ∧ (R (p_ls R m k) 2 = 0 ∨ p_ls R m k = k + m)
  | 0, k => ⟨Nat.le_refl _, Nat.le_refl _, fun j h1 h2 => absurd h2 (Nat.not_lt.2 h1), .inr rfl⟩
  | m + 1, k => by
    unfold p_ls
    split
    · rename_i h
      exact ⟨Nat.le_refl _, by omega, fun j h1 h2 => absurd h2 (Nat.not_lt.2 h1), .inl h⟩
    · rename_i h
      obtain ⟨h1, h2, h3, h4⟩ := p_ls_spec R m (k + 1)
      refine ⟨by omega, by omega, fun j j1 j2 => ?_, h4.elim .inl fun e => .inr (by omega)⟩
      by_cases e : j = k
      · rw [e]; exact h
      · exact h3 j (by omega) j2
theorem p_last_le (R : Nat → Nat → Int32) : p_last R ≤ 40 := by have := (p_ls_spec R 40 0).2.1; unfold p_last; omega
theorem q_join {P : Prop} [Decidable P] {d c M pc : Nat} {ls st : List Value} {x y : Int32} {h : q_H} {Q : Option Value → q_H → Prop} : (if P then q_wp d c M pc ls (.int x :: st) h Q else q_wp d c M pc ls (.int y :: st) h Q) = q_wp d c M pc ls (.int (if P then x else y) :: st) h Q := by split <;> rfl
theorem hS_up {I : Nat → Nat → Int32} {S : Nat → Int32} {k : Nat} (h : ∀ j, j < 7 → I (168 + j) k = S j) (a : Nat) (v : Int32) : ∀ j, j < 7 → q_up I a (k + 1) v (168 + j) k = S j := fun j hj => by rw [q_up_k (by omega)]; exact h j hj
