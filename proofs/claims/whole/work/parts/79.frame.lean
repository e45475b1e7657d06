/-! frames: what a change of the state leaves as it is -/
section
variable {L n : Nat} {I I' M M' : Nat → Nat → Int32} {r : Nat → Nat → Option Nat} {dk : Nat → Nat × Nat}
theorem CR_fr (h : p_CR L r dk n I M) (s1 : ∀ a, ¬(135 ≤ a ∧ a < 179) → I' a = I a) : p_CR L r dk n I' M := by
  obtain ⟨c1, c2, c3, c4, c5, c6, c7, c8, c9⟩ := h
  refine ⟨?_, ?_, ?_, ?_, ?_, ?_, ?_, ?_, c9⟩
  · rw [s1 32 (by omega)]; exact c1
  · intro s hs
    obtain ⟨⟨a1, a2⟩, a3, a4, a5⟩ := c2 s hs
    refine ⟨⟨?_, ?_⟩, ?_, ?_, ?_⟩
    · rw [s1 _ (by omega)]; exact a1
    · intro p hp
      rw [s1 (80 + 11 * s + 2) (by omega), s1 (80 + 11 * s + 3) (by omega), s1 (80 + 11 * s + 4) (by omega), s1 (80 + 11 * s + 5) (by omega), s1 (80 + 11 * s + 6) (by omega)]
      exact a2 p hp
    · rw [s1 _ (by omega)]; exact a3
    · rw [s1 _ (by omega)]; exact a4
    · intro p hp
      rw [s1 (80 + 11 * s + 8) (by omega), s1 (80 + 11 * s + 9) (by omega), s1 (80 + 11 * s + 10) (by omega)]
      exact a5 p hp
  · intro i hi
    obtain ⟨t, h1, h2, h3⟩ := c3 i hi
    refine ⟨t, h1, h2, ?_⟩
    have ht := h3.1
    unfold p_to at h3 ⊢
    rw [s1 t (by omega)]
    exact h3
  · intro t ht
    obtain ⟨b, u, v, h1, h2, h3⟩ := c4 t ht
    refine ⟨b, u, v, h1, h2, ?_⟩
    have hb := h3.1
    unfold p_lw at h3 ⊢
    rw [s1 u (by omega), s1 v (by omega)]
    exact h3
  · intro s hs
    rw [s1 (124 + 2 * s) (by omega), s1 (125 + 2 * s) (by omega)]
    exact c5 s hs
  · rw [s1 37 (by omega), s1 38 (by omega), s1 39 (by omega), s1 40 (by omega), s1 41 (by omega)]
    exact c6
  · rw [s1 42 (by omega), s1 43 (by omega)]
    exact c7
  · unfold p_con at c8 ⊢
    rw [s1 0 (by omega), s1 1 (by omega)]
    exact c8
theorem MR_fr (h : p_MR I M) (h' : ∀ a, 135 ≤ a → a ≤ 163 → I' a = I a) : p_MR I' M := p_MR_fr h h'
/-- the numbers of the model that say how many there are -/
def p_keep0 (M M' : Nat → Nat → Int32) : Prop := M' 135 10 = M 135 10 ∧ M' 135 18 = M 135 18 ∧ M' 135 22 = M 135 22 ∧ M' 135 25 = M 135 25 ∧ M' 135 29 = M 135 29
def p_keep (M M' : Nat → Nat → Int32) : Prop := M' 135 1 = M 135 1 ∧ p_keep0 M M'
theorem CR_set0 (h : p_CR L r dk n I M) (hI : ∀ a, a ≠ 32 → I' a = I a) (hM : ∀ a, a ≠ 135 → M' a = M a) (hk : p_keep0 M M')
    (c1 : I' 32 9 = M' 135 1 ∧ I' 32 10 = M' 135 10 ∧ I' 32 11 = M' 135 25 ∧ I' 32 12 = M' 135 26 ∧ I' 32 13 = M' 135 8 ∧ I' 32 14 = M' 135 9 ∧ I' 32 15 = M' 135 27 ∧ I' 32 16 = M' 135 30 ∧ I' 32 17 = M' 135 31 ∧ I' 32 18 = M' 135 32) : p_CR L r dk n I' M' := by
  obtain ⟨-, c2, c3, c4, c5, c6, c7, c8, c9⟩ := h
  obtain ⟨k10, k18, k22, k25, k29⟩ := hk
  have etn : p_tn M' = p_tn M := by unfold p_tn; rw [k10]
  have etx : p_tx M' = p_tx M := by unfold p_tx; rw [k25]
  have epl : p_ppl M' = p_ppl M := by unfold p_ppl; rw [k18]
  have eip : p_ipl M' = p_ipl M := by unfold p_ipl; rw [k29]
  have eic : ∀ s, p_ipc M' s = p_ipc M s := fun s => by unfold p_ipc; rw [hM 155 (by decide)]
  have epc : ∀ s, p_pc M' s = p_pc M s := fun s => by unfold p_pc; rw [hM 137 (by decide)]
  have esi : ∀ k, p_si M' k = p_si M k := fun k => by unfold p_si; rw [hM 144 (by decide)]
  refine ⟨c1, ?_, ?_, ?_, ?_, ?_, ?_, ?_, c9⟩
  · intro s hs
    have := c2 s hs
    unfold p_stk at this ⊢
    rw [eic, epc, hM 137 (by decide), hM 138 (by decide), hM 139 (by decide), hM 140 (by decide), hM 141 (by decide), hM 142 (by decide), hM 155 (by decide), hM 156 (by decide), hM 157 (by decide), hM 158 (by decide)]
    rw [hI _ (by omega), hI (80 + 11 * s + 2) (by omega), hI (80 + 11 * s + 3) (by omega), hI (80 + 11 * s + 4) (by omega), hI (80 + 11 * s + 5) (by omega), hI (80 + 11 * s + 6) (by omega), hI (80 + 11 * s + 8) (by omega), hI (80 + 11 * s + 9) (by omega), hI (80 + 11 * s + 10) (by omega)]
    exact this
  · intro i hi
    rw [etn] at hi
    obtain ⟨t, h1, h2, h3⟩ := c3 i hi
    refine ⟨t, h1, h2, ?_⟩
    have ht := h3.1
    unfold p_to at h3 ⊢
    rw [hI t (by omega), esi, hM 143 (by decide), hM 145 (by decide), hM 146 (by decide), hM 147 (by decide), hM 148 (by decide), hM 149 (by decide)]
    exact h3
  · intro t ht
    rw [etx] at ht
    obtain ⟨b, u, v, h1, h2, h3⟩ := c4 t ht
    refine ⟨b, u, v, h1, h2, ?_⟩
    have hb := h3.1
    unfold p_lw p_at p_cd at h3 ⊢
    rw [hI u (by omega), hI v (by omega), hM 153 (by decide), hM 154 (by decide)]
    exact h3
  · intro s hs
    rw [hI (124 + 2 * s) (by omega), hI (125 + 2 * s) (by omega), hM 161 (by decide), hM 162 (by decide), hM 163 (by decide)]
    exact c5 s hs
  · rw [hI 37 (by omega), hI 38 (by omega), hI 39 (by omega), hI 40 (by omega), hI 41 (by omega), epl, eip, k18, k29, hM 150 (by decide), hM 151 (by decide), hM 159 (by decide), hM 160 (by decide)]
    exact c6
  · rw [hI 42 (by omega), hI 43 (by omega), k22, hM 152 (by decide)]
    exact c7
  · unfold p_con at c8 ⊢
    rw [hI 0 (by omega), hI 1 (by omega), hM 136 (by decide)]
    exact c8
theorem CR_set (h : p_CR L r dk n I M) (hI : ∀ a, a ≠ 32 → I' a = I a) (hM : ∀ a, a ≠ 135 → M' a = M a) (hk : p_keep M M')
    (c1 : I' 32 9 = M' 135 1 ∧ I' 32 10 = M' 135 10 ∧ I' 32 11 = M' 135 25 ∧ I' 32 12 = M' 135 26 ∧ I' 32 13 = M' 135 8 ∧ I' 32 14 = M' 135 9 ∧ I' 32 15 = M' 135 27 ∧ I' 32 16 = M' 135 30 ∧ I' 32 17 = M' 135 31 ∧ I' 32 18 = M' 135 32) : p_CR L r dk n I' M' :=
  CR_set0 h hI hM hk.2 c1
theorem wf_set0 (h : p_wf M) (hM : ∀ a, a ≠ 135 → M' a = M a) (hk : p_keep0 M M') (h1 : p_nb (M' 135 1) 4) (hsn : p_sn M ≤ p_sn M') (hw : p_ww M') (h26 : ∃ t, t < p_tx M ∧ M' 135 26 = Int32.ofNat t) (h32 : ∃ t, t < p_tx M ∧ M' 135 32 = Int32.ofNat t) (h27 : p_nb (M' 135 27) 1) (h30 : p_nb (M' 135 30) 9) (h31 : p_nb (M' 135 31) 9) : p_wf M' := by
  obtain ⟨w1, w2, -, w4, w5, w6, ⟨w7, -, -, w8⟩, ⟨-, w9, -, -, w10⟩, w11, w12⟩ := h
  obtain ⟨k10, k18, k22, k25, k29⟩ := hk
  have etn : p_tn M' = p_tn M := by unfold p_tn; rw [k10]
  have etx : p_tx M' = p_tx M := by unfold p_tx; rw [k25]
  have eic : ∀ s, p_ipc M' s = p_ipc M s := fun s => by unfold p_ipc; rw [hM 155 (by decide)]
  have epc : ∀ s, p_pc M' s = p_pc M s := fun s => by unfold p_pc; rw [hM 137 (by decide)]
  refine ⟨?_, ?_, hw, ⟨?_, ?_⟩, ?_, ⟨?_, ?_⟩, ⟨?_, ?_, ?_, ?_⟩, ⟨h27, ?_, h30, h31, ?_⟩, ?_, ?_⟩
  · exact h1
  · intro s hs
    have := w2 s hs
    unfold p_pwf at this ⊢
    rw [epc, hM 137 (by decide), hM 138 (by decide), hM 139 (by decide), hM 140 (by decide), hM 141 (by decide), hM 142 (by decide)]
    exact this
  · rw [k10]; exact w4.1
  · intro i hi
    rw [etn] at hi
    have := w4.2 i hi
    unfold p_twf at this ⊢
    obtain ⟨g1, ⟨s, g2, g3⟩, g4⟩ := this
    have this : p_nb (M 143 i) 5 ∧ (∃ s, s < p_sn M' ∧ M 144 i = Int32.ofNat s) ∧ _ := ⟨g1, ⟨s, Nat.lt_of_lt_of_le g2 hsn, g3⟩, g4⟩
    rw [hM 143 (by decide), hM 144 (by decide), hM 145 (by decide), hM 146 (by decide), hM 147 (by decide), hM 148 (by decide), hM 149 (by decide)]
    exact this
  · rw [k18]; exact w5
  · rw [k22]; exact w6.1
  · rw [hM 152 (by decide)]; exact w6.2
  · rw [k25]; exact w7
  · rw [etx]; exact h26
  · rw [etx]; exact h32
  · intro t ht
    rw [etx] at ht
    have := w8 t ht
    unfold p_lawok p_at p_cd at this ⊢
    rw [hM 153 (by decide), hM 154 (by decide)]
    exact this
  · rw [k29]; exact w9
  · intro s hs
    have := w10 s hs
    rw [eic, hM 155 (by decide), hM 156 (by decide), hM 157 (by decide), hM 158 (by decide)]
    exact this
  · rw [hM 161 (by decide), hM 162 (by decide)]; exact w11
  · rw [hM 136 (by decide)]; exact w12
theorem wf_set (h : p_wf M) (hM : ∀ a, a ≠ 135 → M' a = M a) (hk : p_keep M M') (hw : p_ww M') (h26 : ∃ t, t < p_tx M ∧ M' 135 26 = Int32.ofNat t) (h32 : ∃ t, t < p_tx M ∧ M' 135 32 = Int32.ofNat t) (h27 : p_nb (M' 135 27) 1) (h30 : p_nb (M' 135 30) 9) (h31 : p_nb (M' 135 31) 9) : p_wf M' :=
  wf_set0 h hM hk.2 (by rw [hk.1]; exact h.1) (by unfold p_sn; rw [hk.1]; exact Nat.le_refl _) hw h26 h32 h27 h30 h31
end
