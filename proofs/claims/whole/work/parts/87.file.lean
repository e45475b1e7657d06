/-! a piece filed -/
section
variable {d c L n : Nat} {Q : Option Value → q_H → Prop} {I M : Nat → Nat → Int32} {r : Nat → Nat → Option Nat} {dk : Nat → Nat × Nat}
theorem CR_fil (hC : p_CR L r dk n I M) {s row p : Nat} {v : Int32} (hs : s < 4) (hr : row < 3) (hp : p < 6) (h6 : ∀ z, z < 4 → p_pc M z ≤ 6) : p_CR L r dk n (q_up I (80 + 11 * s + 2 + row) p v) (p_fil M s row p v) := by
  have hI : ∀ a, a ≠ 80 + 11 * s + 2 + row → q_up I (80 + 11 * s + 2 + row) p v a = I a := fun a h => q_up_fa h
  have hM : ∀ a, ¬(140 ≤ a ∧ a ≤ 142) → p_fil M s row p v a = M a := fun a h => q_up_fa (by omega)
  have h5 : p_fil M s row p v 135 = M 135 := hM 135 (by decide)
  refine ⟨k1 hC (hI 32 (by omega)) (fun j _ => .inr (.inr (.inr (by rw [h5])))), ?_, k3 hC (fun a ha => hI a (by omega)) (fun a ha => hM a (by omega)) (by rw [h5]), k4 hC (fun a ha => hI a (by omega)) (fun a ha => hM a (by omega)) (by rw [h5]), k5 hC (fun a ha => hI a (by omega)) (fun a ha => hM a (by omega)), k6 hC (fun a ha => hI a (by omega)) (fun a ha => hM a (by omega)) (by rw [h5]) (by rw [h5]), k7 hC (fun a ha => hI a (by omega)) (hM 152 (by decide)) (by rw [h5]), k8 hC (fun a ha => hI a (by omega)) (hM 136 (by decide)), hC.2.2.2.2.2.2.2.2⟩
  intro z hz
  obtain ⟨⟨a1, a2⟩, a3, a4, a5⟩ := hC.2.1 z hz
  have epc : p_pc (p_fil M s row p v) z = p_pc M z := by unfold p_pc; rw [hM 137 (by decide)]
  have eic : p_ipc (p_fil M s row p v) z = p_ipc M z := by unfold p_ipc; rw [hM 155 (by decide)]
  refine ⟨⟨?_, fun j hj => ?_⟩, ?_, ?_, fun j hj => ?_⟩
  · rw [hI _ (by omega), hM 137 (by decide)]; exact a1
  · rw [epc] at hj
    have b := a2 j hj
    have hj6 := h6 z hz
    rw [hM 138 (by decide), hM 139 (by decide)]
    have : row = 0 ∨ row = 1 ∨ row = 2 := by omega
    by_cases ez : z = s
    · subst ez
      by_cases ej : j = p
      · subst ej
        unfold p_fil
        rcases this with rfl | rfl | rfl
        · rw [show 80 + 11 * z + 2 + 0 = 80 + 11 * z + 2 from rfl, show 140 + 0 = 140 from rfl]
          simp (disch := omega) only [q_up_fa, q_up_same, true_and]
          exact b.2
        · rw [show 80 + 11 * z + 2 + 1 = 80 + 11 * z + 3 from rfl, show 140 + 1 = 141 from rfl]
          simp (disch := omega) only [q_up_fa, q_up_same, true_and]
          exact ⟨b.1, b.2.2⟩
        · rw [show 80 + 11 * z + 2 + 2 = 80 + 11 * z + 4 from rfl, show 140 + 2 = 142 from rfl]
          simp (disch := omega) only [q_up_fa, q_up_same, true_and]
          exact ⟨b.1, b.2.1, b.2.2.2⟩
      · have f1 : ∀ a, q_up I (80 + 11 * z + 2 + row) p v a j = I a j := fun a => by
          by_cases e : a = 80 + 11 * z + 2 + row
          · rw [e, q_up_k ej]
          · rw [q_up_fa e]
        have f2 : ∀ a, p_fil M z row p v a (6 * z + j) = M a (6 * z + j) := fun a => by
          unfold p_fil
          by_cases e : a = 140 + row
          · rw [e, q_up_k (by omega)]
          · rw [q_up_fa e]
        simp only [f1, f2]
        exact b
    · have f2 : ∀ a, p_fil M s row p v a (6 * z + j) = M a (6 * z + j) := fun a => by
        unfold p_fil
        by_cases e : a = 140 + row
        · rw [e, q_up_k (by omega)]
        · rw [q_up_fa e]
      rw [hI (80 + 11 * z + 2) (by omega), hI (80 + 11 * z + 3) (by omega), hI (80 + 11 * z + 4) (by omega), hI (80 + 11 * z + 5) (by omega), hI (80 + 11 * z + 6) (by omega), f2, f2, f2]
      exact b
  · rw [hI _ (by omega)]; exact a3
  · rw [hI _ (by omega), hM 155 (by decide)]; exact a4
  · rw [eic] at hj
    rw [hI (80 + 11 * z + 8) (by omega), hI (80 + 11 * z + 9) (by omega), hI (80 + 11 * z + 10) (by omega), hM 156 (by decide), hM 157 (by decide), hM 158 (by decide)]
    exact a5 j hj
theorem wf_fil (hW : p_wf M) {s row p v : Nat} (hv : v ≤ 20) (hr : row < 3) : p_wf (p_fil M s row p (Int32.ofNat v)) := by
  have hM : ∀ a, ¬(140 ≤ a ∧ a ≤ 142) → p_fil M s row p (Int32.ofNat v) a = M a := fun a h => q_up_fa (by omega)
  have h5 : p_fil M s row p (Int32.ofNat v) 135 = M 135 := hM 135 (by decide)
  have esn : p_sn (p_fil M s row p (Int32.ofNat v)) = p_sn M := by unfold p_sn; rw [h5]
  refine ⟨by rw [h5]; exact hW.1, ?_, w3 hW (by rw [h5]) (by rw [h5]), w4 hW (fun a ha => hM a (by omega)) (by rw [h5]) (by omega), by rw [h5]; exact hW.2.2.2.2.1, w6 hW (hM 152 (by decide)) (by rw [h5]), w7 hW (fun a ha => hM a (by omega)) (by rw [h5]) (by rw [h5]) (by rw [h5]), w8 hW (fun a ha => hM a (by omega)) (by rw [h5]) (by rw [h5]) (by rw [h5]) (by rw [h5]), w9 hW (fun a ha => hM a (by omega)), w10 hW (hM 136 (by decide))⟩
  intro z hz
  have b := hW.2.1 z hz
  have epc : p_pc (p_fil M s row p (Int32.ofNat v)) z = p_pc M z := by unfold p_pc; rw [hM 137 (by decide)]
  rw [epc, hM 137 (by decide)]
  refine ⟨b.1, fun j hj => ?_⟩
  have b2 := b.2 j hj
  have f : ∀ a, p_nb (M a (6 * z + j)) 20 → p_nb (p_fil M s row p (Int32.ofNat v) a (6 * z + j)) 20 := fun a h => by
    unfold p_fil
    by_cases e : a = 140 + row
    · subst e
      by_cases e2 : 6 * z + j = 6 * s + p
      · rw [e2, q_up_same]; exact ⟨v, hv, rfl⟩
      · rw [q_up_k e2]; exact h
    · rw [q_up_fa e]; exact h
  unfold p_pwf at b2 ⊢
  exact ⟨f 140 b2.1, f 141 b2.2.1, f 142 b2.2.2.1, by rw [hM 138 (by decide)]; exact b2.2.2.2.1, by rw [hM 139 (by decide)]; exact b2.2.2.2.2⟩
end
