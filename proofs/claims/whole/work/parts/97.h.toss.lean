/-! toss -/
def p_tos (M : Nat → Nat → Int32) (i s : Nat) (k w p l n e : Int32) : Nat → Nat → Int32 := q_up (q_up (q_up (q_up (q_up (q_up (q_up (q_up M 143 i k) 144 i (Int32.ofNat s)) 145 i w) 146 i p) 147 i l) 148 i n) 149 i e) 135 10 (Int32.ofNat (i + 1))
def p_tg {α : Type} (k g h e : Int32) (no : α) (y : α) : α := if Int32.ofNat 0 ≤ k ∧ k ≤ Int32.ofNat 5 then (if Int32.ofNat 0 ≤ g ∧ g ≤ Int32.ofNat 6399 then (if Int32.ofNat 1 ≤ g % Int32.ofNat 100 ∧ g % Int32.ofNat 100 ≤ Int32.ofNat 60 then (if Int32.ofNat 0 ≤ h ∧ h ≤ Int32.ofNat 1699 then (if Int32.ofNat 0 ≤ h % Int32.ofNat 100 ∧ h % Int32.ofNat 100 ≤ Int32.ofNat 60 then (if Int32.ofNat 0 ≤ e ∧ e ≤ Int32.ofNat 20 then y else no) else no) else no) else no) else no) else no
def t_toss (M : Nat → Nat → Int32) (k s g h e : Int32) : Nat → Nat → Int32 := p_sels M s M fun z => p_tg k g h e M (if p_tn M = 8 then M else p_tos M (p_tn M) z k (g / Int32.ofNat 100) (g % Int32.ofNat 100) (h / Int32.ofNat 100) (h % Int32.ofNat 100) e)
def a_toss (M : Nat → Nat → Int32) (k s g h e : Int32) : Int32 := p_sels M s (-2) fun _ => p_tg k g h e (-2) (if p_tn M = 8 then -4 else Int32.ofNat (p_tn M))
section
variable {d c L n : Nat} {Q : Option Value → q_H → Prop} {I M : Nat → Nat → Int32} {r : Nat → Nat → Option Nat} {dk : Nat → Nat × Nat}
theorem tos_o {i s a : Nat} {k w p l m e : Int32} (h : a ≠ 135) (h' : ¬(143 ≤ a ∧ a ≤ 149)) : p_tos M i s k w p l m e a = M a := by
  unfold p_tos
  simp (disch := omega) only [q_up_fa]
theorem tos_5 {i s j : Nat} {k w p l m e : Int32} (h : j ≠ 10) : p_tos M i s k w p l m e 135 j = M 135 j := by
  unfold p_tos
  simp (disch := omega) only [q_up_fa, q_up_k]
theorem tos_tn {i s : Nat} {k w p l m e : Int32} (h : i < 8) : p_tn (p_tos M i s k w p l m e) = i + 1 := by
  show (q_up _ 135 10 (Int32.ofNat (i + 1)) 135 10).toNatClampNeg = _
  rw [q_up_same, n_cl (by omega)]
theorem wf_tos (hW : p_wf M) {s k w p l m e : Nat} (h8 : p_tn M < 8) (hs : s < p_sn M) (hk : k ≤ 5) (hw : w ≤ 63) (hp : 1 ≤ p ∧ p ≤ 60) (hl : l ≤ 16) (hm : m ≤ 60) (he : e ≤ 20) : p_wf (p_tos M (p_tn M) s (Int32.ofNat k) (Int32.ofNat w) (Int32.ofNat p) (Int32.ofNat l) (Int32.ofNat m) (Int32.ofNat e)) := by
  generalize hM' : p_tos M (p_tn M) s (Int32.ofNat k) (Int32.ofNat w) (Int32.ofNat p) (Int32.ofNat l) (Int32.ofNat m) (Int32.ofNat e) = M'
  have hM : ∀ a, a ≠ 135 → ¬(143 ≤ a ∧ a ≤ 149) → M' a = M a := fun a h h' => by rw [← hM']; exact tos_o h h'
  have h5 : ∀ j, j ≠ 10 → M' 135 j = M 135 j := fun j h => by rw [← hM']; exact tos_5 h
  have esn : p_sn M' = p_sn M := by unfold p_sn; rw [h5 1 (by decide)]
  have etn : p_tn M' = p_tn M + 1 := by rw [← hM']; exact tos_tn h8
  refine ⟨by rw [h5 1 (by decide)]; exact hW.1, w2 hW (fun a ha => hM a (by omega) (by omega)), w3 hW (h5 8 (by decide)) (h5 9 (by decide)), ⟨⟨p_tn M + 1, by omega, by rw [← hM']; exact q_up_same⟩, fun i hi => ?_⟩, by rw [h5 18 (by decide)]; exact hW.2.2.2.2.1, w6 hW (hM 152 (by decide) (by decide)) (h5 22 (by decide)), w7 hW (fun a ha => hM a (by omega) (by omega)) (h5 25 (by decide)) (h5 26 (by decide)) (h5 32 (by decide)), w8 hW (fun a ha => hM a (by omega) (by omega)) (h5 27 (by decide)) (h5 29 (by decide)) (h5 30 (by decide)) (h5 31 (by decide)), w9 hW (fun a ha => hM a (by omega) (by omega)), w10 hW (hM 136 (by decide) (by decide))⟩
  rw [etn] at hi
  unfold p_twf
  rw [esn, ← hM']
  unfold p_tos
  by_cases ei : i = p_tn M
  · subst ei
    simp (disch := omega) only [q_up_fa, q_up_same]
    exact ⟨⟨k, hk, rfl⟩, ⟨s, hs, rfl⟩, ⟨w, hw, rfl⟩, ⟨p, hp.1, hp.2, rfl⟩, ⟨l, hl, rfl⟩, ⟨m, hm, rfl⟩, ⟨e, he, rfl⟩⟩
  · have := hW.2.2.2.1.2 i (by omega)
    unfold p_twf at this
    simp (disch := omega) only [q_up_fa, q_up_k]
    exact this
theorem tg_nat {α : Type} {k g h e : Int32} {no y : α} {P : α → Prop} (h0 : P no) (h1 : ∀ k' w p l m e', k = Int32.ofNat k' → k' ≤ 5 → w ≤ 63 → (1 ≤ p ∧ p ≤ 60) → l ≤ 16 → m ≤ 60 → e' ≤ 20 → e = Int32.ofNat e' → g = Int32.ofNat (100 * w + p) → h = Int32.ofNat (100 * l + m) → P y) : P (p_tg k g h e no y) := by
  unfold p_tg
  split
  · rename_i a1
    split
    · rename_i a2
      split
      · rename_i a3
        split
        · rename_i a4
          split
          · rename_i a5
            split
            · rename_i a6
              obtain ⟨k', hk, rfl⟩ := x_rng (by omega) a1
              obtain ⟨g', hg, rfl⟩ := x_rng (by omega) a2
              obtain ⟨h', hh, rfl⟩ := x_rng (by omega) a4
              obtain ⟨e', he, rfl⟩ := x_rng (by omega) a6
              rw [n_mod (by omega) (by omega), n_le (by omega) (by omega), n_le (by omega) (by omega)] at a3 a5
              exact h1 k' (g' / 100) (g' % 100) (h' / 100) (h' % 100) e' rfl hk (by omega) a3 (by omega) a5.2 he rfl (by congr 1; omega) (by congr 1; omega)
            · exact h0
          · exact h0
        · exact h0
      · exact h0
    · exact h0
  · exact h0
theorem n_dm {w p : Nat} (hw : w ≤ 63) (hp : p ≤ 60) : Int32.ofNat (100 * w + p) / Int32.ofNat 100 = Int32.ofNat w ∧ Int32.ofNat (100 * w + p) % Int32.ofNat 100 = Int32.ofNat p := by
  rw [n_div (by omega) (by omega), n_mod (by omega) (by omega)]
  exact ⟨by congr 1; omega, by congr 1; omega⟩
theorem wf_toss (hW : p_wf M) {k s g h e : Int32} : p_wf (t_toss M k s g h e) := by
  unfold t_toss
  by_cases hi : p_is s (p_sn M)
  · obtain ⟨z, hz, rfl⟩ := hi
    rw [p_sels_ok hW hz]
    have h8 := (p_tn_eq hW).2
    refine tg_nat (P := p_wf) hW fun k' w p l m e' q1 q2 q3 q4 q5 q6 q7 q8 q9 q10 => ?_
    split
    · exact hW
    · subst q1 q8 q9 q10
      obtain ⟨f1, f2⟩ := n_dm q3 q4.2
      obtain ⟨f3, f4⟩ := n_dm (show l ≤ 63 by omega) q6
      rw [f1, f2, f3, f4]
      exact wf_tos hW (by omega) hz q2 q3 q4 q5 q6 q7
  · rw [p_sels_no hW hi]; exact hW
/-- the class's memory behind a new throw at the place n -/
theorem CR_tos (hW : p_wf M) (hC : p_CR L r dk n I M) {s k w p l m e : Nat} (h8 : p_tn M < 8) (hs : s < p_sn M) (hk : k ≤ 5) {I' : Nat → Nat → Int32} {r' : Nat → Nat → Option Nat} {dk' : Nat → Nat × Nat}
    (hI : ∀ a, a ≠ 32 → a ≠ n → I' a = I a) (hT : (∀ j, j ≠ 10 → I' 32 j = I 32 j) ∧ I' 32 10 = Int32.ofNat (p_tn M + 1))
    (hN : I' n 0 = Int32.ofNat k ∧ I' n 2 = Int32.ofNat w ∧ I' n 3 = Int32.ofNat p ∧ I' n 4 = Int32.ofNat l ∧ I' n 5 = Int32.ofNat m ∧ I' n 6 = Int32.ofNat e ∧ I' n 7 = if k = 1 ∨ k = 3 ∨ k = 5 then 1 else 0)
    (hr : (∀ a j, a ≠ n → ¬(a = 34 ∧ j = p_tn M) → r' a j = r a j) ∧ r' n 1 = some (80 + 11 * s) ∧ r' 34 (p_tn M) = some n) (hdk : (∀ a, a ≠ n → dk' a = dk a) ∧ dk' n = (6, 0)) :
    p_CR L r' dk' (n + 1) I' (p_tos M (p_tn M) s (Int32.ofNat k) (Int32.ofNat w) (Int32.ofNat p) (Int32.ofNat l) (Int32.ofNat m) (Int32.ofNat e)) := by
  generalize hM' : p_tos M (p_tn M) s (Int32.ofNat k) (Int32.ofNat w) (Int32.ofNat p) (Int32.ofNat l) (Int32.ofNat m) (Int32.ofNat e) = M'
  have hM : ∀ a, a ≠ 135 → ¬(143 ≤ a ∧ a ≤ 149) → M' a = M a := fun a h h' => by rw [← hM']; exact tos_o h h'
  have h5 : ∀ j, j ≠ 10 → M' 135 j = M 135 j := fun j h => by rw [← hM']; exact tos_5 h
  have h10 : M' 135 10 = Int32.ofNat (p_tn M + 1) := by rw [← hM']; exact q_up_same
  have etn : p_tn M' = p_tn M + 1 := by rw [← hM']; exact tos_tn h8
  have h179 : 179 ≤ n := hC.2.2.2.2.2.2.2.2
  obtain ⟨a1, a2, a3, a4, a5, a6, a7, a8, a9, a10⟩ := hC.1
  obtain ⟨t1, t2⟩ := hT
  have h4 := (p_sn_eq hW).2
  refine ⟨⟨by rw [t1 9 (by decide), h5 1 (by decide)]; exact a1, by rw [t2, h10], by rw [t1 11 (by decide), h5 25 (by decide)]; exact a3, by rw [t1 12 (by decide), h5 26 (by decide)]; exact a4, by rw [t1 13 (by decide), h5 8 (by decide)]; exact a5, by rw [t1 14 (by decide), h5 9 (by decide)]; exact a6, by rw [t1 15 (by decide), h5 27 (by decide)]; exact a7, by rw [t1 16 (by decide), h5 30 (by decide)]; exact a8, by rw [t1 17 (by decide), h5 31 (by decide)]; exact a9, by rw [t1 18 (by decide), h5 32 (by decide)]; exact a10⟩, k2 hC (fun a ha => hI a (by omega) (by omega)) (fun a ha => hM a (by omega) (by omega)), fun i hi => ?_, fun t ht => ?_, k5 hC (fun a ha => hI a (by omega) (by omega)) (fun a ha => hM a (by omega) (by omega)), k6 hC (fun a ha => hI a (by omega) (by omega)) (fun a ha => hM a (by omega) (by omega)) (h5 18 (by decide)) (h5 29 (by decide)), k7 hC (fun a ha => hI a (by omega) (by omega)) (hM 152 (by decide) (by decide)) (h5 22 (by decide)), k8 hC (fun a ha => hI a (by omega) (by omega)) (hM 136 (by decide) (by decide)), by omega⟩
  · rw [etn] at hi
    by_cases ei : i = p_tn M
    · subst ei
      refine ⟨n, hr.2.2, by omega, ?_⟩
      have esi : p_si M' (p_tn M) = s := by
        unfold p_si
        rw [← hM']
        unfold p_tos
        simp (disch := omega) only [q_up_fa, q_up_same]
        rw [n_cl (by omega)]
      have e143 : M' 143 (p_tn M) = Int32.ofNat k := by
        rw [← hM']
        unfold p_tos
        simp (disch := omega) only [q_up_fa, q_up_same]
      refine ⟨h179, hdk.2, hN.1.trans e143.symm, ?_, ?_, ?_, ?_, ?_, ?_, by rw [esi]; exact hr.2.1⟩
      · rw [hN.2.1, ← hM']; unfold p_tos; simp (disch := omega) only [q_up_fa, q_up_same]
      · rw [hN.2.2.1, ← hM']; unfold p_tos; simp (disch := omega) only [q_up_fa, q_up_same]
      · rw [hN.2.2.2.1, ← hM']; unfold p_tos; simp (disch := omega) only [q_up_fa, q_up_same]
      · rw [hN.2.2.2.2.1, ← hM']; unfold p_tos; simp (disch := omega) only [q_up_fa, q_up_same]
      · rw [hN.2.2.2.2.2.1, ← hM']; unfold p_tos; simp (disch := omega) only [q_up_fa, q_up_same]
      · rw [hN.2.2.2.2.2.2, e143]
        simp (disch := omega) only [l_1, l_3, l_5, n_eq]
    · obtain ⟨t, g1, g2, g3⟩ := hC.2.2.1 i (by omega)
      refine ⟨t, by rw [hr.1 34 i (by omega) (by omega)]; exact g1, by omega, ?_⟩
      have ht := g3.1
      have esi : p_si M' i = p_si M i := by
        unfold p_si
        rw [← hM']
        unfold p_tos
        simp (disch := omega) only [q_up_fa, q_up_k]
      have ev : ∀ a, 143 ≤ a ∧ a ≤ 149 → M' a i = M a i := fun a ha => by
        rw [← hM']
        unfold p_tos
        simp (disch := omega) only [q_up_k]
      unfold p_to at g3 ⊢
      rw [hI t (by omega) (by omega), hdk.1 t (by omega), hr.1 t 1 (by omega) (by omega), esi, ev 143 (by decide), ev 145 (by decide), ev 146 (by decide), ev 147 (by decide), ev 148 (by decide), ev 149 (by decide)]
      exact g3
  · have etx : p_tx M' = p_tx M := by unfold p_tx; rw [h5 25 (by decide)]
    rw [etx] at ht
    obtain ⟨b, u, v, g1, g2, g3⟩ := hC.2.2.2.1 t ht
    refine ⟨b, u, v, by rw [hr.1 35 t (by omega) (by omega)]; exact g1, ⟨by omega, by omega, by omega⟩, ?_⟩
    have hb := g3.1
    have kd : ∀ a, a < n → p_K L dk' a = p_K L dk a := fun a ha => by
      unfold p_K
      rw [hdk.1 a (by omega)]
    unfold p_lw p_at p_cd at g3 ⊢
    rw [hI u (by omega) (by omega), hI v (by omega) (by omega), hM 153 (by decide) (by decide), hM 154 (by decide) (by decide), kd b g2.1, kd u g2.2.1, kd v g2.2.2, p_R_cs (hr.1 b 0 (by omega) (by omega)), p_R_cs (hr.1 b 1 (by omega) (by omega))]
    exact g3
end
