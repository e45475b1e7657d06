/-! the state when both constructors are done -/
theorem z_wls : y_wl z_o1 1 ∧ y_wl z_o2 1 ∧ y_wl z_o3 1 := by
  obtain ⟨htk, -⟩ := xlx_tk (Nat.zero_le _) z_lx
  obtain ⟨h1, h2, h3, -⟩ := ytx_wl htk z_tx
  exact ⟨h1, h2, h3⟩
theorem z_ml {I : Nat → Nat → Int32} (h : z_i3 I) : p_ml I 0 z_o1 z_o2 z_o3 := by
  obtain ⟨-, -, -, -, ⟨a0, a1, a2, a3⟩, ⟨b0, b1, b2, b3, b4, b5, b6, b7, b8, b9, b10, b11, b12⟩⟩ := h
  exact ⟨⟨a0, a1, a2, a3⟩, ⟨b4, b3, b2, b1, b0, trivial⟩, ⟨b9, b8, b7, b6, b5, trivial⟩, ⟨b12, b11, b10, trivial⟩⟩
section
variable {L : Nat} {xs : Nat → Int32} {I : Nat → Nat → Int32} {R : Nat → Nat → Option Nat}
theorem nb_z {x : Int32} {b : Nat} (h : x = 0) : p_nb x b := ⟨0, Nat.zero_le _, h⟩
theorem cl_z {x : Int32} (h : x = 0) : x.toNatClampNeg = 0 := by rw [h]; rfl
theorem i3_tx (h : z_i3 I) : p_tx I = 1 := by unfold p_tx; rw [h.2.1.1]; rfl
theorem i3_z (h : z_i3 I) {a k : Nat} (ha : 137 ≤ a) (h1 : a ≠ 153) (h2 : a ≠ 154) (h3 : a ≠ 161) : I a k = 0 := congrFun (h.1 a ha h1 h2 h3) k
theorem z_east : ∀ k : Fin 16, -64 ≤ (q_east.getD k.1 0).toInt ∧ (q_east.getD k.1 0).toInt ≤ 64 := by decide +kernel
theorem i3_wf (h : z_i3 I) : p_wf I := by
  have h5 := h.2.1.2
  have hpc : ∀ s, p_pc I s = 0 := fun s => cl_z (i3_z h (by decide) (by decide) (by decide) (by decide))
  have hic : ∀ s, p_ipc I s = 0 := fun s => cl_z (i3_z h (by decide) (by decide) (by decide) (by decide))
  have htn : p_tn I = 0 := cl_z (h5 10 (by decide))
  have htx := i3_tx h
  refine ⟨nb_z (h5 1 (by decide)), fun s hs => ⟨nb_z (i3_z h (by decide) (by decide) (by decide) (by decide)), fun p hp => ?_⟩, ⟨nb_z (h5 8 (by decide)), nb_z (h5 9 (by decide))⟩, ⟨nb_z (h5 10 (by decide)), fun i hi => ?_⟩, nb_z (h5 18 (by decide)), ⟨nb_z (h5 22 (by decide)), fun k hk => nb_z (i3_z h (by decide) (by decide) (by decide) (by decide))⟩,
    ⟨⟨1, by decide, h.2.1.1⟩, ⟨0, by rw [htx]; decide, h5 26 (by decide)⟩, ⟨0, by rw [htx]; decide, h5 32 (by decide)⟩, fun t ht => ?_⟩,
    ⟨nb_z (h5 27 (by decide)), nb_z (h5 29 (by decide)), nb_z (h5 30 (by decide)), nb_z (h5 31 (by decide)), fun s hs => ⟨nb_z (i3_z h (by decide) (by decide) (by decide) (by decide)), fun p hp => ?_⟩⟩, fun s hs => ⟨.inl (h.2.2.2.1 s hs), nb_z (i3_z h (by decide) (by decide) (by decide) (by decide))⟩, fun k hk => ?_⟩
  · rw [hpc] at hp; exact absurd hp (Nat.not_lt_zero _)
  · rw [htn] at hi; exact absurd hi (Nat.not_lt_zero _)
  · rw [htx] at ht
    obtain rfl : t = 0 := by omega
    exact lawok_ml (z_ml h) z_wls.1 z_wls.2.1 z_wls.2.2 (by decide)
  · rw [hic] at hp; exact absurd hp (Nat.not_lt_zero _)
  · rw [h.2.2.1 k hk]
    exact z_east ⟨k, hk⟩
theorem i3_CR {I1 : Nat → Nat → Int32} (g : z_i2 xs I1) (h : z_i3 I) (gI : ∀ a, a < 135 → I a = I1 a) (r0 : R 35 0 = some 134) (r1 : R 134 0 = some 133) (r2 : R 134 1 = some 132) : p_CR L R z_d0 179 I I := by
  have h5 := h.2.1.2
  have hpc : ∀ s, p_pc I s = 0 := fun s => cl_z (i3_z h (by decide) (by decide) (by decide) (by decide))
  have hic : ∀ s, p_ipc I s = 0 := fun s => cl_z (i3_z h (by decide) (by decide) (by decide) (by decide))
  have htn : p_tn I = 0 := cl_z (h5 10 (by decide))
  have htx := i3_tx h
  obtain ⟨c1, -, c3, c4, c5, ⟨c6, c6'⟩, c7, c8⟩ := g
  have e32 : ∀ k, k ≠ 11 → I 32 k = 0 := fun k hk => by rw [gI 32 (by decide)]; exact c6' k hk
  have z3 : ∀ a, a < 135 → (37 ≤ a ∧ a ≤ 41) ∨ (∃ s, s < 4 ∧ 80 + 11 * s < a ∧ a < 91 + 11 * s) ∨ a = 125 ∨ a = 127 ∨ a = 129 ∨ a = 131 → ∀ k, I a k = 0 := fun a ha hh k => by rw [gI a ha, c3 a hh]
  refine ⟨⟨(e32 9 (by decide)).trans (h5 1 (by decide)).symm, (e32 10 (by decide)).trans (h5 10 (by decide)).symm, ?_, (e32 12 (by decide)).trans (h5 26 (by decide)).symm, (e32 13 (by decide)).trans (h5 8 (by decide)).symm, (e32 14 (by decide)).trans (h5 9 (by decide)).symm, (e32 15 (by decide)).trans (h5 27 (by decide)).symm, (e32 16 (by decide)).trans (h5 30 (by decide)).symm, (e32 17 (by decide)).trans (h5 31 (by decide)).symm, (e32 18 (by decide)).trans (h5 32 (by decide)).symm⟩,
    fun s hs => ⟨⟨?_, fun p hp => ?_⟩, ?_, ?_, fun p hp => ?_⟩, fun i hi => ?_, fun t ht => ?_, fun s hs => ⟨?_, ?_, fun k hk => ?_⟩, ⟨?_, fun p hp => ?_, ?_, fun p hp => ?_⟩, ⟨?_, fun k hk => ?_⟩, ⟨fun k hk => ?_, ?_, ?_, ?_, ?_, ?_, ?_⟩, Nat.le_refl _⟩
  · rw [gI 32 (by decide), c6, h.2.1.1]
  · rw [gI _ (by omega), (c4 s hs).2 3 (by decide), i3_z h (by decide) (by decide) (by decide) (by decide)]
  · rw [hpc] at hp; exact absurd hp (Nat.not_lt_zero _)
  · rw [gI _ (by omega)]; exact (c4 s hs).1
  · rw [gI _ (by omega), (c4 s hs).2 4 (by decide), i3_z h (by decide) (by decide) (by decide) (by decide)]
  · rw [hic] at hp; exact absurd hp (Nat.not_lt_zero _)
  · rw [htn] at hi; exact absurd hi (Nat.not_lt_zero _)
  · rw [htx] at ht
    obtain rfl : t = 0 := by omega
    obtain ⟨⟨v0, v1, v2, v3⟩, v4, v5, v6, v7⟩ := c8
    obtain ⟨⟨w0, w1, w2, w3⟩, m7, m8, m9⟩ := z_ml h
    have at3 : p_at I 0 3 = z_o1.length + z_o2.length + z_o3.length := by unfold p_at; rw [w3]; rfl
    refine ⟨134, 133, 132, r0, ⟨by decide, by decide, by decide⟩, ?_⟩
    unfold p_lw
    rw [gI 133 (by decide), gI 132 (by decide), at3]
    refine ⟨⟨by omega, by omega, by omega⟩, rfl, ⟨13, rfl, by decide⟩, rfl, pR_134_0.trans r1, pR_134_1.trans r2, fun j hj => ?_, fun k hk => ?_⟩
    · have : j = 0 ∨ j = 1 ∨ j = 2 ∨ j = 3 := by omega
      rcases this with rfl | rfl | rfl | rfl
      · exact v0.trans w0.symm
      · exact v1.trans w1.symm
      · exact v2.trans w2.symm
      · exact v3.trans w3.symm
    · unfold p_cd
      by_cases k1 : k < z_o1.length
      · exact ysk_dec v5 m7 k k1
      · by_cases k2 : k < z_o1.length + z_o2.length
        · have := ysk_dec v6 m8 (k - z_o1.length) (by omega)
          rw [show z_o1.length + (k - z_o1.length) = k by omega] at this
          exact this
        · have := ysk_dec v7 m9 (k - (z_o1.length + z_o2.length)) (by omega)
          rw [show z_o1.length + z_o2.length + (k - (z_o1.length + z_o2.length)) = k by omega] at this
          exact this
  · rw [gI _ (by omega), (c5 s hs).1, h.2.2.2.1 s hs]
  · rw [gI _ (by omega), (c5 s hs).2 2 (by decide), i3_z h (by decide) (by decide) (by decide) (by decide)]
  · rw [z3 _ (by omega) (by omega) k, i3_z h (by decide) (by decide) (by decide) (by decide)]
  · rw [z3 37 (by decide) (by omega), h5 18 (by decide)]
  · rw [show p_ppl I = 0 from cl_z (h5 18 (by decide))] at hp; exact absurd hp (Nat.not_lt_zero _)
  · rw [z3 37 (by decide) (by omega), h5 29 (by decide)]
  · rw [show p_ipl I = 0 from cl_z (h5 29 (by decide))] at hp; exact absurd hp (Nat.not_lt_zero _)
  · rw [gI 42 (by decide), c7, h5 22 (by decide)]; rfl
  · rw [show (I 135 22).toNatClampNeg = 0 from cl_z (h5 22 (by decide))] at hk; exact absurd hk (Nat.not_lt_zero _)
  · rw [gI 0 (by decide), c1 0 (by decide), h.2.2.1 k hk]; rfl
  all_goals rw [gI 1 (by decide), c1 1 (by decide)]; rfl
theorem zK_179 : z_K L 179 = p_K L z_d0 := by
  funext a
  unfold z_K
  by_cases h : a < 179
  · rw [if_pos h]
  · rw [if_neg h, p_K_dyn (by omega)]
    rfl
end
