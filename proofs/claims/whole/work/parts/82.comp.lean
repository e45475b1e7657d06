/-! the components of what belongs together, and of what is in order, each with the cells it speaks of -/
section
variable {L n : Nat} {I I' M M' : Nat → Nat → Int32} {r r' : Nat → Nat → Option Nat} {dk : Nat → Nat × Nat}
theorem k1 (h : p_CR L r dk n I M) (hI : I' 32 = I 32) (hM : ∀ k, k ≤ 32 → k = 18 ∨ k = 22 ∨ k = 29 ∨ M' 135 k = M 135 k) : (I' 32 9 = M' 135 1 ∧ I' 32 10 = M' 135 10 ∧ I' 32 11 = M' 135 25 ∧ I' 32 12 = M' 135 26 ∧ I' 32 13 = M' 135 8 ∧ I' 32 14 = M' 135 9 ∧ I' 32 15 = M' 135 27 ∧ I' 32 16 = M' 135 30 ∧ I' 32 17 = M' 135 31 ∧ I' 32 18 = M' 135 32) := by
  obtain ⟨a1, a2, a3, a4, a5, a6, a7, a8, a9, a10⟩ := h.1
  have f : ∀ k, k ≤ 32 → k ≠ 18 → k ≠ 22 → k ≠ 29 → M' 135 k = M 135 k := fun k b1 b2 b3 b4 => by
    rcases hM k b1 with e | e | e | e
    · exact absurd e b2
    · exact absurd e b3
    · exact absurd e b4
    · exact e
  rw [hI, f 1 (by decide) (by decide) (by decide) (by decide), f 10 (by decide) (by decide) (by decide) (by decide), f 25 (by decide) (by decide) (by decide) (by decide), f 26 (by decide) (by decide) (by decide) (by decide), f 8 (by decide) (by decide) (by decide) (by decide), f 9 (by decide) (by decide) (by decide) (by decide), f 27 (by decide) (by decide) (by decide) (by decide), f 30 (by decide) (by decide) (by decide) (by decide), f 31 (by decide) (by decide) (by decide) (by decide), f 32 (by decide) (by decide) (by decide) (by decide)]
  exact ⟨a1, a2, a3, a4, a5, a6, a7, a8, a9, a10⟩
theorem k2 (h : p_CR L r dk n I M) (hI : ∀ a, 80 ≤ a ∧ a ≤ 123 → I' a = I a) (hM : ∀ a, (137 ≤ a ∧ a ≤ 142) ∨ (155 ≤ a ∧ a ≤ 158) → M' a = M a) : (∀ s, s < 4 → p_stk I' M' (80 + 11 * s) s ∧ I' (80 + 11 * s) 0 = Int32.ofNat s ∧ I' (80 + 11 * s) 4 = M' 155 s ∧ ∀ p, p < p_ipc M' s → I' (80 + 11 * s + 8) p = M' 156 (6 * s + p) ∧ I' (80 + 11 * s + 9) p = M' 157 (6 * s + p) ∧ I' (80 + 11 * s + 10) p = M' 158 (6 * s + p)) := by
  intro s hs
  have this := h.2.1 s hs
  have eic : p_ipc M' s = p_ipc M s := by unfold p_ipc; rw [hM 155 (by decide)]
  have epc : p_pc M' s = p_pc M s := by unfold p_pc; rw [hM 137 (by decide)]
  unfold p_stk at this ⊢
  rw [eic, epc, hM 137 (by decide), hM 138 (by decide), hM 139 (by decide), hM 140 (by decide), hM 141 (by decide), hM 142 (by decide), hM 155 (by decide), hM 156 (by decide), hM 157 (by decide), hM 158 (by decide)]
  rw [hI (80 + 11 * s) (by omega), hI (80 + 11 * s + 2) (by omega), hI (80 + 11 * s + 3) (by omega), hI (80 + 11 * s + 4) (by omega), hI (80 + 11 * s + 5) (by omega), hI (80 + 11 * s + 6) (by omega), hI (80 + 11 * s + 8) (by omega), hI (80 + 11 * s + 9) (by omega), hI (80 + 11 * s + 10) (by omega)]
  exact this
theorem k3 (h : p_CR L r dk n I M) (hI : ∀ a, 179 ≤ a → I' a = I a) (hM : ∀ a, 143 ≤ a ∧ a ≤ 149 → M' a = M a) (h10 : M' 135 10 = M 135 10) : (∀ i, i < p_tn M' → ∃ t, r 34 i = some t ∧ t < n ∧ p_to r dk I' M' i t) := by
  intro i hi
  have etn : p_tn M' = p_tn M := by unfold p_tn; rw [h10]
  rw [etn] at hi
  obtain ⟨t, h1, h2, h3⟩ := h.2.2.1 i hi
  refine ⟨t, h1, h2, ?_⟩
  have ht := h3.1
  have esi : p_si M' i = p_si M i := by unfold p_si; rw [hM 144 (by decide)]
  unfold p_to at h3 ⊢
  rw [hI t ht, esi, hM 143 (by decide), hM 145 (by decide), hM 146 (by decide), hM 147 (by decide), hM 148 (by decide), hM 149 (by decide)]
  exact h3
theorem k4 (h : p_CR L r dk n I M) (hI : ∀ a, (132 ≤ a ∧ a < 135) ∨ 179 ≤ a → I' a = I a) (hM : ∀ a, 153 ≤ a ∧ a ≤ 154 → M' a = M a) (h25 : M' 135 25 = M 135 25) : (∀ t, t < p_tx M' → ∃ b u v, r 35 t = some b ∧ (b < n ∧ u < n ∧ v < n) ∧ p_lw r dk L I' M' t b u v) := by
  intro t ht
  have etx : p_tx M' = p_tx M := by unfold p_tx; rw [h25]
  rw [etx] at ht
  obtain ⟨b, u, v, h1, h2, h3⟩ := h.2.2.2.1 t ht
  refine ⟨b, u, v, h1, h2, ?_⟩
  have hb := h3.1
  unfold p_lw p_at p_cd at h3 ⊢
  rw [hI u hb.2.1, hI v hb.2.2, hM 153 (by decide), hM 154 (by decide)]
  exact h3
theorem k5 (h : p_CR L r dk n I M) (hI : ∀ a, 124 ≤ a ∧ a ≤ 131 → I' a = I a) (hM : ∀ a, 161 ≤ a ∧ a ≤ 163 → M' a = M a) : (∀ s, s < 4 → I' (124 + 2 * s) 1 = M' 161 s ∧ I' (124 + 2 * s) 2 = M' 162 s ∧ ∀ k, k < 80 → I' (125 + 2 * s) k = M' 163 (80 * s + k)) := by
  intro s hs
  rw [hI (124 + 2 * s) (by omega), hI (125 + 2 * s) (by omega), hM 161 (by decide), hM 162 (by decide), hM 163 (by decide)]
  exact h.2.2.2.2.1 s hs
theorem k6 (h : p_CR L r dk n I M) (hI : ∀ a, 37 ≤ a ∧ a ≤ 41 → I' a = I a) (hM : ∀ a, a = 150 ∨ a = 151 ∨ a = 159 ∨ a = 160 → M' a = M a) (h18 : M' 135 18 = M 135 18) (h29 : M' 135 29 = M 135 29) : (I' 37 2 = M' 135 18 ∧ (∀ p, p < p_ppl M' → I' 38 p = M' 150 p ∧ I' 39 p = M' 151 p) ∧ I' 37 5 = M' 135 29 ∧ ∀ p, p < p_ipl M' → I' 40 p = M' 159 p ∧ I' 41 p = M' 160 p) := by
  have epl : p_ppl M' = p_ppl M := by unfold p_ppl; rw [h18]
  have eip : p_ipl M' = p_ipl M := by unfold p_ipl; rw [h29]
  rw [hI 37 (by omega), hI 38 (by omega), hI 39 (by omega), hI 40 (by omega), hI 41 (by omega), epl, eip, h18, h29, hM 150 (by decide), hM 151 (by decide), hM 159 (by decide), hM 160 (by decide)]
  exact h.2.2.2.2.2.1
theorem k7 (h : p_CR L r dk n I M) (hI : ∀ a, 42 ≤ a ∧ a ≤ 43 → I' a = I a) (hM : M' 152 = M 152) (h22 : M' 135 22 = M 135 22) : (I' 42 1 = M' 135 22 ∧ ∀ k, k < (M' 135 22).toNatClampNeg → I' 43 k = (M' 152 k).toInt8.toInt32) := by
  rw [hI 42 (by omega), hI 43 (by omega), hM, h22]
  exact h.2.2.2.2.2.2.1
theorem k8 (h : p_CR L r dk n I M) (hI : ∀ a, a ≤ 1 → I' a = I a) (hM : M' 136 = M 136) : p_con I' M' := by
  have c8 := h.2.2.2.2.2.2.2.1
  unfold p_con at c8 ⊢
  rw [hI 0 (by omega), hI 1 (by omega), hM]
  exact c8
theorem w2 (h : p_wf M) (hM : ∀ a, 137 ≤ a ∧ a ≤ 142 → M' a = M a) : (∀ s, s < 4 → p_nb (M' 137 s) 6 ∧ ∀ p, p < p_pc M' s → p_pwf M' (6 * s + p)) := by
  intro s hs
  have this := h.2.1 s hs
  have epc : p_pc M' s = p_pc M s := by unfold p_pc; rw [hM 137 (by decide)]
  unfold p_pwf at this ⊢
  rw [epc, hM 137 (by decide), hM 138 (by decide), hM 139 (by decide), hM 140 (by decide), hM 141 (by decide), hM 142 (by decide)]
  exact this
theorem w3 (h : p_wf M) (h8 : M' 135 8 = M 135 8) (h9 : M' 135 9 = M 135 9) : p_ww M' := by
  have this := h.2.2.1
  unfold p_ww at this ⊢
  rw [h8, h9]
  exact this
theorem w4 (h : p_wf M) (hM : ∀ a, 143 ≤ a ∧ a ≤ 149 → M' a = M a) (h10 : M' 135 10 = M 135 10) (hsn : p_sn M ≤ p_sn M') : (p_nb (M' 135 10) 8 ∧ ∀ i, i < p_tn M' → p_twf M' i) := by
  have etn : p_tn M' = p_tn M := by unfold p_tn; rw [h10]
  refine ⟨by rw [h10]; exact (h.2.2.2.1).1, fun i hi => ?_⟩
  rw [etn] at hi
  have this := (h.2.2.2.1).2 i hi
  unfold p_twf at this ⊢
  obtain ⟨g1, ⟨s, g2, g3⟩, g4⟩ := this
  rw [hM 143 (by decide), hM 144 (by decide), hM 145 (by decide), hM 146 (by decide), hM 147 (by decide), hM 148 (by decide), hM 149 (by decide)]
  exact ⟨g1, ⟨s, Nat.lt_of_lt_of_le g2 hsn, g3⟩, g4⟩
theorem w6 (h : p_wf M) (hM : M' 152 = M 152) (h22 : M' 135 22 = M 135 22) : (p_nb (M' 135 22) 160 ∧ ∀ k, k < 160 → p_nb (M' 152 k) 255) := by
  rw [hM, h22]
  exact h.2.2.2.2.2.1
theorem w7 (h : p_wf M) (hM : ∀ a, 153 ≤ a ∧ a ≤ 154 → M' a = M a) (h25 : M' 135 25 = M 135 25) (h26 : M' 135 26 = M 135 26) (h32 : M' 135 32 = M 135 32) : (p_nb (M' 135 25) 6 ∧ (∃ t, t < p_tx M' ∧ M' 135 26 = Int32.ofNat t) ∧ (∃ t, t < p_tx M' ∧ M' 135 32 = Int32.ofNat t) ∧ ∀ t, t < p_tx M' → p_lawok M' t) := by
  have etx : p_tx M' = p_tx M := by unfold p_tx; rw [h25]
  have w7 := h.2.2.2.2.2.2.1
  refine ⟨by rw [h25]; exact w7.1, by rw [etx, h26]; exact w7.2.1, by rw [etx, h32]; exact w7.2.2.1, fun t ht => ?_⟩
  rw [etx] at ht
  have this := w7.2.2.2 t ht
  unfold p_lawok p_at p_cd at this ⊢
  rw [hM 153 (by decide), hM 154 (by decide)]
  exact this
theorem w8 (h : p_wf M) (hM : ∀ a, 155 ≤ a ∧ a ≤ 158 → M' a = M a) (h27 : M' 135 27 = M 135 27) (h29 : M' 135 29 = M 135 29) (h30 : M' 135 30 = M 135 30) (h31 : M' 135 31 = M 135 31) : (p_nb (M' 135 27) 1 ∧ p_nb (M' 135 29) 6 ∧ p_nb (M' 135 30) 9 ∧ p_nb (M' 135 31) 9 ∧ ∀ s, s < 4 → p_nb (M' 155 s) 6 ∧ ∀ p, p < p_ipc M' s → p_nb (M' 156 (6 * s + p)) 20 ∧ p_nb (M' 157 (6 * s + p)) 20 ∧ p_nb (M' 158 (6 * s + p)) 20) := by
  have w8 := h.2.2.2.2.2.2.2.1
  refine ⟨by rw [h27]; exact w8.1, by rw [h29]; exact w8.2.1, by rw [h30]; exact w8.2.2.1, by rw [h31]; exact w8.2.2.2.1, fun s hs => ?_⟩
  have this := w8.2.2.2.2 s hs
  have eic : p_ipc M' s = p_ipc M s := by unfold p_ipc; rw [hM 155 (by decide)]
  rw [eic, hM 155 (by decide), hM 156 (by decide), hM 157 (by decide), hM 158 (by decide)]
  exact this
theorem w9 (h : p_wf M) (hM : ∀ a, 161 ≤ a ∧ a ≤ 162 → M' a = M a) : (∀ s, s < 4 → (M' 161 s = -1 ∨ p_nb (M' 161 s) 2) ∧ p_nb (M' 162 s) 80) := by
  rw [hM 161 (by decide), hM 162 (by decide)]
  exact h.2.2.2.2.2.2.2.2.1
theorem w10 (h : p_wf M) (hM : M' 136 = M 136) : ∀ k, k < 16 → -64 ≤ (M' 136 k).toInt ∧ (M' 136 k).toInt ≤ 64 := by
  rw [hM]
  exact h.2.2.2.2.2.2.2.2.2
end
