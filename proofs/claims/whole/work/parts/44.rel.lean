/-! how the class's memory and the model's belong together -/
def p_tn (M : Nat → Nat → Int32) : Nat := (M 135 10).toNatClampNeg
def p_sn (M : Nat → Nat → Int32) : Nat := (M 135 1).toNatClampNeg
def p_tx (M : Nat → Nat → Int32) : Nat := (M 135 25).toNatClampNeg
def p_ppl (M : Nat → Nat → Int32) : Nat := (M 135 18).toNatClampNeg
def p_ipl (M : Nat → Nat → Int32) : Nat := (M 135 29).toNatClampNeg
def p_ipc (M : Nat → Nat → Int32) (s : Nat) : Nat := (M 155 s).toNatClampNeg
def p_pwf (M : Nat → Nat → Int32) (k : Nat) : Prop := p_nb (M 140 k) 20 ∧ p_nb (M 141 k) 20 ∧ p_nb (M 142 k) 20 ∧ p_nb (M 138 k) 3 ∧ p_nb (M 139 k) 20
def p_twf (M : Nat → Nat → Int32) (i : Nat) : Prop := p_nb (M 143 i) 5 ∧ (∃ s, s < p_sn M ∧ M 144 i = Int32.ofNat s) ∧ p_nb (M 145 i) 63 ∧ (∃ p, 1 ≤ p ∧ p ≤ 60 ∧ M 146 i = Int32.ofNat p) ∧ p_nb (M 147 i) 16 ∧ p_nb (M 148 i) 60 ∧ p_nb (M 149 i) 20
/-- the model's memory is in order -/
def p_wf (M : Nat → Nat → Int32) : Prop :=
  p_nb (M 135 1) 4 ∧ (∀ s, s < 4 → p_nb (M 137 s) 6 ∧ ∀ p, p < p_pc M s → p_pwf M (6 * s + p)) ∧ p_ww M ∧ (p_nb (M 135 10) 8 ∧ ∀ i, i < p_tn M → p_twf M i) ∧ p_nb (M 135 18) 6 ∧
  (p_nb (M 135 22) 160 ∧ ∀ k, k < 160 → p_nb (M 152 k) 255) ∧ (p_nb (M 135 25) 6 ∧ (∃ t, t < p_tx M ∧ M 135 26 = Int32.ofNat t) ∧ (∃ t, t < p_tx M ∧ M 135 32 = Int32.ofNat t) ∧ ∀ t, t < p_tx M → p_lawok M t) ∧
  (p_nb (M 135 27) 1 ∧ p_nb (M 135 29) 6 ∧ p_nb (M 135 30) 9 ∧ p_nb (M 135 31) 9 ∧ ∀ s, s < 4 → p_nb (M 155 s) 6 ∧ ∀ p, p < p_ipc M s → p_nb (M 156 (6 * s + p)) 20 ∧ p_nb (M 157 (6 * s + p)) 20 ∧ p_nb (M 158 (6 * s + p)) 20) ∧
  (∀ s, s < 4 → (M 161 s = -1 ∨ p_nb (M 161 s) 2) ∧ p_nb (M 162 s) 80) ∧ ∀ k, k < 16 → -64 ≤ (M 136 k).toInt ∧ (M 136 k).toInt ≤ 64
def p_CR (L : Nat) (r : Nat → Nat → Option Nat) (dk : Nat → Nat × Nat) (n : Nat) (I M : Nat → Nat → Int32) : Prop :=
  (I 32 9 = M 135 1 ∧ I 32 10 = M 135 10 ∧ I 32 11 = M 135 25 ∧ I 32 12 = M 135 26 ∧ I 32 13 = M 135 8 ∧ I 32 14 = M 135 9 ∧ I 32 15 = M 135 27 ∧ I 32 16 = M 135 30 ∧ I 32 17 = M 135 31 ∧ I 32 18 = M 135 32) ∧
  (∀ s, s < 4 → p_stk I M (80 + 11 * s) s ∧ I (80 + 11 * s) 0 = Int32.ofNat s ∧ I (80 + 11 * s) 4 = M 155 s ∧ ∀ p, p < p_ipc M s → I (80 + 11 * s + 8) p = M 156 (6 * s + p) ∧ I (80 + 11 * s + 9) p = M 157 (6 * s + p) ∧ I (80 + 11 * s + 10) p = M 158 (6 * s + p)) ∧
  (∀ i, i < p_tn M → ∃ t, r 34 i = some t ∧ t < n ∧ p_to r dk I M i t) ∧
  (∀ t, t < p_tx M → ∃ b u v, r 35 t = some b ∧ (b < n ∧ u < n ∧ v < n) ∧ p_lw r dk L I M t b u v) ∧
  (∀ s, s < 4 → I (124 + 2 * s) 1 = M 161 s ∧ I (124 + 2 * s) 2 = M 162 s ∧ ∀ k, k < 80 → I (125 + 2 * s) k = M 163 (80 * s + k)) ∧
  (I 37 2 = M 135 18 ∧ (∀ p, p < p_ppl M → I 38 p = M 150 p ∧ I 39 p = M 151 p) ∧ I 37 5 = M 135 29 ∧ ∀ p, p < p_ipl M → I 40 p = M 159 p ∧ I 41 p = M 160 p) ∧
  (I 42 1 = M 135 22 ∧ ∀ k, k < (M 135 22).toNatClampNeg → I 43 k = (M 152 k).toInt8.toInt32) ∧
  p_con I M ∧ 179 ≤ n
/-- what a question may leave behind in the class -/
def p_cs (r : Nat → Nat → Option Nat) (I : Nat → Nat → Int32) (r' : Nat → Nat → Option Nat) (I' : Nat → Nat → Int32) : Prop :=
  (∀ a, ¬(45 ≤ a ∧ a ≤ 79) → I' a = I a) ∧ ∀ a k, ¬((a = 45 ∨ a = 57) ∧ 2 ≤ k ∧ k ≤ 4) → r' a k = r a k
theorem p_cs_refl {r : Nat → Nat → Option Nat} {I : Nat → Nat → Int32} : p_cs r I r I := ⟨fun _ _ => rfl, fun _ _ _ => rfl⟩
theorem p_cs_trans {r r' r'' : Nat → Nat → Option Nat} {I I' I'' : Nat → Nat → Int32} (h : p_cs r I r' I') (h' : p_cs r' I' r'' I'') : p_cs r I r'' I'' :=
  ⟨fun a ha => (h'.1 a ha).trans (h.1 a ha), fun a k hk => (h'.2 a k hk).trans (h.2 a k hk)⟩
theorem p_R_cs {r r' : Nat → Nat → Option Nat} {a k : Nat} (h : r' a k = r a k) : p_R r' a k = p_R r a k := by
  unfold p_R
  split
  · exact h
  · rfl
theorem p_CR_cs {L n : Nat} {r r' : Nat → Nat → Option Nat} {dk : Nat → Nat × Nat} {I I' M : Nat → Nat → Int32} (h : p_CR L r dk n I M) (hs : p_cs r I r' I') : p_CR L r' dk n I' M := by
  obtain ⟨c1, c2, c3, c4, c5, c6, c7, c8, c9⟩ := h
  obtain ⟨s1, s2⟩ := hs
  refine ⟨?_, ?_, ?_, ?_, ?_, ?_, ?_, ?_, c9⟩
  · rw [s1 32 (by omega)]; exact c1
  · intro s hs
    obtain ⟨⟨a1, a2⟩, a3, a4, a5⟩ := c2 s hs
    refine ⟨⟨?_, ?_⟩, ?_, ?_, ?_⟩
    · rw [s1 _ (by omega)]; exact a1
    · intro p hp
      rw [s1 (80 + 11 * s + 2) (by omega), s1 (80 + 11 * s + 3) (by omega), s1 (80 + 11 * s + 4) (by omega), s1 (80 + 11 * s + 5) (by omega), s1 (80 + 11 * s + 6) (by omega)]
      exact a2 p hp
    · rw [s1 _ (by omega)]; exact a3
    · rw [s1 _ (by omega)]; exact a4
    · intro p hp
      rw [s1 (80 + 11 * s + 8) (by omega), s1 (80 + 11 * s + 9) (by omega), s1 (80 + 11 * s + 10) (by omega)]
      exact a5 p hp
  · intro i hi
    obtain ⟨t, h1, h2, h3⟩ := c3 i hi
    refine ⟨t, (s2 34 i (by omega)).trans h1, h2, ?_⟩
    have ht := h3.1
    unfold p_to at h3 ⊢
    rw [s1 t (by omega), s2 t 1 (by omega)]
    exact h3
  · intro t ht
    obtain ⟨b, u, v, h1, h2, h3⟩ := c4 t ht
    refine ⟨b, u, v, (s2 35 t (by omega)).trans h1, h2, ?_⟩
    have hb := h3.1
    unfold p_lw at h3 ⊢
    rw [s1 u (by omega), s1 v (by omega), p_R_cs (s2 b 0 (by omega)), p_R_cs (s2 b 1 (by omega))]
    exact h3
  · intro s hs
    rw [s1 (124 + 2 * s) (by omega), s1 (125 + 2 * s) (by omega)]
    exact c5 s hs
  · rw [s1 37 (by omega), s1 38 (by omega), s1 39 (by omega), s1 40 (by omega), s1 41 (by omega)]
    exact c6
  · rw [s1 42 (by omega), s1 43 (by omega)]
    exact c7
  · unfold p_con at c8 ⊢
    rw [s1 0 (by omega), s1 1 (by omega)]
    exact c8
theorem wf_tw {M : Nat → Nat → Int32} {i : Nat} (h : p_wf M) (hi : i < p_tn M) : p_tw M i := by
  obtain ⟨⟨sn, hsn, esn⟩, h2, -, ⟨⟨tn, htn, etn⟩, h4⟩, -⟩ := h
  obtain ⟨a1, ⟨s, hs, es⟩, a3, a4, a5, a6, a7⟩ := h4 i hi
  have e1 : p_sn M = sn := by unfold p_sn; rw [esn, n_cl (by omega)]
  have e2 : p_tn M = tn := by unfold p_tn; rw [etn, n_cl (by omega)]
  exact ⟨by omega, a1, ⟨s, by omega, es, (h2 s (by omega)).1⟩, a5, a6, a7⟩
theorem wf_rw {M : Nat → Nat → Int32} (h : p_wf M) : p_rw M := by
  obtain ⟨⟨tx, htx, etx⟩, ⟨t, ht, et⟩, -, h4⟩ := h.2.2.2.2.2.2.1
  have e1 : p_tx M = tx := by unfold p_tx; rw [etx, n_cl (by omega)]
  exact ⟨t, by omega, et, h4 t ht⟩
theorem wf_swf {M : Nat → Nat → Int32} {s : Nat} (h : p_wf M) (hs : s < 4) : p_swf M s :=
  ⟨(h.2.1 s hs).1, fun p hp => ((h.2.1 s hs).2 p hp).2.2.2.1⟩
theorem wf_si {M : Nat → Nat → Int32} {i : Nat} (h : p_wf M) (hi : i < p_tn M) : p_si M i < 4 := by
  obtain ⟨-, -, ⟨s, hs, es, -⟩, -⟩ := wf_tw h hi
  unfold p_si
  rw [es, n_cl (by omega)]
  exact hs
theorem wf_way {M : Nat → Nat → Int32} {i : Nat} (h : p_wf M) (hi : i < p_tn M) : p_nb (M 145 i) 63 ∧ p_nb (M 146 i) 60 := by
  obtain ⟨-, -, a3, ⟨p, p1, p2, p3⟩, -⟩ := h.2.2.2.1.2 i hi
  exact ⟨a3, p, p2, p3⟩
