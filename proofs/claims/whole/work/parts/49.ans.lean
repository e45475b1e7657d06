/-! the answers to questions on one flight -/
def p_sel {α : Type} (M : Nat → Nat → Int32) (i : Int32) (no : α) (f : Nat → α) : α := if Int32.ofNat 0 ≤ i ∧ i < Int32.ofNat (p_tn M) then f i.toNatClampNeg else no
theorem p_sel_ok {α : Type} {M : Nat → Nat → Int32} {k : Nat} {no : α} {f : Nat → α} (hW : p_wf M) (hk : k < p_tn M) : p_sel M (Int32.ofNat k) no f = f k := by
  have := (p_tn_eq hW).2
  unfold p_sel
  rw [if_pos ⟨by rw [n_le (by omega) (by omega)]; omega, by rw [n_lt (by omega) (by omega)]; exact hk⟩, n_cl (by omega)]
theorem p_sel_no {α : Type} {M : Nat → Nat → Int32} {i : Int32} {no : α} {f : Nat → α} (hW : p_wf M) (h : ¬ p_is i (p_tn M)) : p_sel M i no f = no := by
  have := (p_tn_eq hW).2
  unfold p_sel
  rw [if_neg]
  rintro ⟨h1, h2⟩
  obtain ⟨k, hk, rfl⟩ := x_nat h1
  rw [n_lt hk (by omega)] at h2
  exact h ⟨k, h2, rfl⟩
def a_tick (M : Nat → Nat → Int32) (i k w : Int32) : Int32 := p_sel M i (-1000000) fun t => if 0 ≤ w ∧ w ≤ 6 then (if 0 ≤ k ∧ k ≤ Int32.ofNat (p_last (p_rowM M t)) then p_rowM M t k.toNatClampNeg w.toNatClampNeg else -1000000) else -1000000
def p_fly (R : Nat → Nat → Int32) (w : Int32) : Int32 :=
  if w = 0 then Int32.ofNat (p_last R) else if w = 1 then R (p_last R) 0 else if w = 2 then R (p_last R) 1 else if w = 3 then R (p_hix R (p_last R)) 2 else if w = 4 then p_off (R (p_last R)) else if w = 5 then (if R (p_last R) 2 = 0 then 1 else 0) else p_it (p_gmax fun k => p_off (R k)) 0 (p_last R + 1)
def a_fly (M : Nat → Nat → Int32) (i w : Int32) : Int32 := p_sel M i (-1000000) fun t => if 0 ≤ w ∧ w ≤ 6 then p_fly (p_rowM M t) w else -1000000
def a_comes (M : Nat → Nat → Int32) (i x : Int32) : Int32 := p_sel M i (-5) fun t => if 0 ≤ x ∧ x ≤ 99 then (if p_bk (p_rowM M t) x then 1 else 0) else -7
def a_lies (M : Nat → Nat → Int32) (i : Int32) : Int32 := p_sel M i (-5) fun t => p_find (fun k => decide (p_rowM M t k 6 = 0)) (p_last (p_rowM M t) + 1) 0
def a_hovers (M : Nat → Nat → Int32) (i : Int32) : Int32 := p_sel M i (-5) fun t => p_it (p_glev (p_rowM M t)) 0 (p_last (p_rowM M t))
def p_wid (R : Nat → Nat → Int32) (c : Nat) : Int32 := p_it (p_gmax fun k => R k c) 0 (p_last R + 1) - p_it (p_gmin fun k => R k c) 0 (p_last R + 1)
def a_circle (M : Nat → Nat → Int32) (i w : Int32) : Int32 := p_sel M i (-1000000) fun t => if 0 ≤ w ∧ w ≤ 3 then (if w = 0 then p_wid (p_rowM M t) 0 else if w = 1 then p_wid (p_rowM M t) 1 else if w = 2 then p_it (p_gtrn (p_rowM M t)) 0 (p_last (p_rowM M t)) else p_it (p_gtrn (p_rowM M t)) 0 (p_last (p_rowM M t)) / 64) else -1000000
def a_down (M : Nat → Nat → Int32) (i w : Int32) : Int32 := p_sel M i (-5) fun t => if 0 ≤ w ∧ w ≤ 2 then (if w = 0 then Int32.ofNat (p_hix (p_rowM M t) (p_last (p_rowM M t))) else if w = 1 then p_it (p_gcl (p_rowM M t)) (-1) (p_last (p_rowM M t)) else p_it (p_gdr (p_rowM M t)) 0 (p_last (p_rowM M t))) else -7
def a_room (M : Nat → Nat → Int32) (i w h : Int32) : Int32 := p_sel M i (-5) fun t => if 0 ≤ w ∧ w ≤ 4000 then (if 0 ≤ h ∧ h ≤ 999 then p_find (p_out (p_rowM M t) w h) (p_last (p_rowM M t) + 1) 0 else -7) else -7
def p_why (M : Nat → Nat → Int32) (t : Nat) (k : Nat) (w : Int32) : Int32 :=
  if w = 0 then p_says M t 0 (p_rowM M t k) else if w = 1 then p_says M t 1 (p_rowM M t k) else if w = 2 then p_says M t 2 (p_rowM M t k) else if w = 3 then p_up M t k (p_rowM M t k) else if w = 4 then p_turn M t (p_rowM M t k) else p_less M t k (p_rowM M t k)
def a_why (M : Nat → Nat → Int32) (i k w : Int32) : Int32 := p_sel M i (-1000000) fun t => if 0 ≤ w ∧ w ≤ 5 then (if 0 ≤ k ∧ k ≤ Int32.ofNat (p_last (p_rowM M t)) then p_why M t k.toNatClampNeg w else -1000000) else -1000000
theorem x_rng {v : Int32} {m : Nat} (hm : m < 2147483648) (h : Int32.ofNat 0 ≤ v ∧ v ≤ Int32.ofNat m) : ∃ k, k ≤ m ∧ v = Int32.ofNat k := by
  obtain ⟨k, hk, rfl⟩ := x_nat h.1
  have h2 := h.2
  rw [n_le hk hm] at h2
  exact ⟨k, h2, rfl⟩
theorem r7019_33 {d c : Nat} {ls : List Value} {x : Int32} {st : List Value} {h : q_H} {Q : Option Value → q_H → Prop} : q_wp (d + 1) c 7019 33 ls (.int x :: st) h Q = if x = 0 then q_wp (d + 1) c 7019 60 ls st h Q else if x = 1 then q_wp (d + 1) c 7019 73 ls st h Q else q_wp (d + 1) c 7019 79 ls st h Q := by
  by_cases h0 : x = 0
  · rw [if_pos h0, h0]
    exact w_lookup (df := 46) (ps := #[(0, 27), (1, 40)]) (n := 27) (by decide +kernel) (by decide) (by decide)
  · rw [if_neg h0]
    by_cases h1 : x = 1
    · rw [if_pos h1, h1]
      exact w_lookup (df := 46) (ps := #[(0, 27), (1, 40)]) (n := 27) (by decide +kernel) (by decide) (by decide)
    · rw [if_neg h1]
      refine w_lookup (df := 46) (ps := #[(0, 27), (1, 40)]) (n := 27) (by decide +kernel) (by decide) ?_
      have e0 : ¬ x.toInt = 0 := fun h => h0 (Int32.toInt.inj h)
      have e1 : ¬ x.toInt = 1 := fun h => h1 (Int32.toInt.inj h)
      have : Op.lookupswitch.offset [(0, 27), (1, 40)] 46 x.toInt = 46 := by
        simp [Op.lookupswitch.offset, e0, e1, Ne.symm e0, Ne.symm e1]
        try omega
      rw [show (#[(0, 27), (1, 40)] : Array (Int × Int)).toList = [(0, 27), (1, 40)] from rfl, this]
      rfl
section
variable {d c L n : Nat} {Q : Option Value → q_H → Prop} {I M : Nat → Nat → Int32} {r : Nat → Nat → Option Nat} {dk : Nat → Nat × Nat}
end
