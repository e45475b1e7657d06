/-! text, the model: what is in order -/
theorem wfr_of {cd : Nat → Int32} {k0 : Nat} : ∀ (o : List Nat) (e m : Nat), y_wl o e → y_sk Int32.ofNat (fun k => cd (k0 + k)) o → p_wfr cd m (k0 + o.length) e → p_wfr cd (o.length + m) k0 0
  | [], e, m, h, _, hw => by
    obtain rfl : e = 0 := h
    rw [List.length_nil, Nat.zero_add]
    exact hw
  | a :: t, e, m, h, hs, hw => by
    have hc : cd (k0 + t.length) = Int32.ofNat a := hs.1
    rw [List.length_cons, show t.length + 1 + m = t.length + (m + 1) by omega]
    have hw : p_wfr cd m (k0 + t.length + 1) e := hw
    rcases h with ⟨h1, e', rfl, h2⟩ | ⟨h1, h2, h3⟩ | ⟨h1, h2, h3⟩
    · refine wfr_of t e' (m + 1) h2 hs.2 (.inl ⟨?_, hw⟩)
      rw [hc]
      unfold p_isp
      rcases h1 with h1 | h1
      · left
        rw [show (0 : Int32) = Int32.ofNat 0 from rfl, show (5 : Int32) = Int32.ofNat 5 from rfl, n_le (by omega) (by omega), n_le (by omega) (by omega)]
        omega
      · right
        rw [show (100000 : Int32) = Int32.ofNat 100000 from rfl, show (109999 : Int32) = Int32.ofNat 109999 from rfl, n_le (by omega) (by omega), n_le (by omega) (by omega)]
        omega
    · refine wfr_of t e (m + 1) h3 hs.2 (.inr (.inl ⟨?_, h2, hw⟩))
      rw [hc]
      rcases h1 with rfl | rfl
      · exact .inl rfl
      · exact .inr rfl
    · refine wfr_of t (e + 1) (m + 1) h3 hs.2 (.inr (.inr ⟨?_, by omega, hw⟩))
      rw [hc]
      unfold p_isb
      rcases h1 with rfl | rfl | rfl | rfl | rfl | rfl | rfl
      · exact .inl rfl
      · exact .inr (.inl rfl)
      · exact .inr (.inr (.inl rfl))
      · exact .inr (.inr (.inr (.inl rfl)))
      · exact .inr (.inr (.inr (.inr (.inl rfl))))
      · exact .inr (.inr (.inr (.inr (.inr (.inl rfl)))))
      · exact .inr (.inr (.inr (.inr (.inr (.inr rfl)))))
theorem yky_wl {N j : Nat} {ts ts' : List (Nat × Nat × Nat)} {out : List Nat} (htk : y_tk ts) (h : y_ky N j ts = .inr (ts', out)) : y_wl out 1 ∧ ts'.length + out.length + 2 ≤ ts.length ∧ y_tk ts' := by
  unfold y_ky at h
  split at h
  · rename_i hk
    cases ts with
    | nil => exact absurd hk.1 (by decide)
    | cons t tr =>
      have r1 := ygo_wl tr true true [] 0 [] ts' out (fun x hx => htk x (List.mem_cons_of_mem _ hx)) (fun a ha => absurd ha (by simp)) rfl h
      simp only [List.length_nil, List.length_cons] at r1 ⊢
      exact ⟨r1.1, by omega, r1.2.2⟩
  · exact absurd h (by simp)
theorem ytx_wl {N : Nat} {ts : List (Nat × Nat × Nat)} {o1 o2 o3 : List Nat} (htk : y_tk ts) (h : y_tx N ts = .inr (o1, o2, o3)) : y_wl o1 1 ∧ y_wl o2 1 ∧ y_wl o3 1 ∧ o1.length + o2.length + o3.length ≤ ts.length := by
  unfold y_tx at h
  split at h
  · exact absurd h (by simp)
  · rename_i t1 q1 e1
    split at h
    · exact absurd h (by simp)
    · rename_i t2 q2 e2
      split at h
      · exact absurd h (by simp)
      · rename_i t3 q3 e3
        unfold y_e at h
        split at h
        · have h := Sum.inr.inj h
          have g1 : q1 = o1 := congrArg (fun z => z.1) h
          have g2 : q2 = o2 := congrArg (fun z => z.2.1) h
          have g3 : q3 = o3 := congrArg (fun z => z.2.2) h
          subst g1 g2 g3
          obtain ⟨a1, a2, a3⟩ := yky_wl htk e1
          obtain ⟨b1, b2, b3⟩ := yky_wl a3 e2
          obtain ⟨c1, c2, c3⟩ := yky_wl b3 e3
          exact ⟨a1, b1, c1, by omega⟩
        · exact absurd h (by simp)
theorem lawok_ml {M : Nat → Nat → Int32} {t : Nat} {o1 o2 o3 : List Nat} (h : p_ml M t o1 o2 o3) (h1 : y_wl o1 1) (h2 : y_wl o2 1) (h3 : y_wl o3 1) (hl : o1.length + o2.length + o3.length ≤ 160) : p_lawok M t := by
  obtain ⟨⟨w0, w1, w2, w3⟩, s1, s2, s3⟩ := h
  have a0 : p_at M t 0 = 0 := by unfold p_at; rw [Nat.add_zero, w0, n_cl (by omega)]
  have a1 : p_at M t 1 = o1.length := by unfold p_at; rw [w1, n_cl (by omega)]
  have a2 : p_at M t 2 = o1.length + o2.length := by unfold p_at; rw [w2, n_cl (by omega)]
  have a3 : p_at M t 3 = o1.length + o2.length + o3.length := by unfold p_at; rw [w3, n_cl (by omega)]
  refine ⟨fun j hj => ?_, fun j hj => ?_⟩
  · have : j = 0 ∨ j = 1 ∨ j = 2 ∨ j = 3 := by omega
    rcases this with rfl | rfl | rfl | rfl
    · rw [a0]; exact ⟨w0, by omega⟩
    · rw [a1]; exact ⟨w1, by omega⟩
    · rw [a2]; exact ⟨w2, by omega⟩
    · rw [a3]; exact ⟨w3, by omega⟩
  · have : j = 0 ∨ j = 1 ∨ j = 2 := by omega
    rcases this with rfl | rfl | rfl
    · show p_at M t 0 ≤ p_at M t 1 ∧ p_wfr (p_cd M t) (p_at M t 1 - p_at M t 0) (p_at M t 0) 0
      rw [a0, a1]
      refine ⟨Nat.zero_le _, ?_⟩
      have := wfr_of (cd := p_cd M t) (k0 := 0) o1 1 0 h1 (by simp only [p_cd, Nat.zero_add]; exact s1) rfl
      exact this
    · show p_at M t 1 ≤ p_at M t 2 ∧ p_wfr (p_cd M t) (p_at M t 2 - p_at M t 1) (p_at M t 1) 0
      rw [a1, a2, Nat.add_sub_cancel_left]
      refine ⟨by omega, ?_⟩
      exact wfr_of (cd := p_cd M t) (k0 := o1.length) o2 1 0 h2 s2 rfl
    · show p_at M t 2 ≤ p_at M t 3 ∧ p_wfr (p_cd M t) (p_at M t 3 - p_at M t 2) (p_at M t 2) 0
      rw [a2, a3, Nat.add_sub_cancel_left]
      refine ⟨by omega, ?_⟩
      exact wfr_of (cd := p_cd M t) (k0 := o1.length + o2.length) o3 1 0 h3 s3 rfl
theorem wf_rel {M M' : Nat → Nat → Int32} {ts : List (Nat × Nat × Nat)} (hW : p_wf M) (h : p_rel M ts M') (htk : y_tk ts) (hl : ts.length ≤ 160) : p_wf M' := by
  unfold p_rel at h
  by_cases h6 : p_tx M = 6
  · rw [if_pos h6] at h
    rw [h]; exact hW
  · rw [if_neg h6] at h
    obtain ⟨m1, m2, m3, m4, m5⟩ := h
    obtain ⟨v1, ⟨q, vq, v2⟩, ⟨q', vq', v3⟩, v4⟩ := hW.2.2.2.2.2.2.1
    have h6' := (p_tx_eq hW).2
    have esn : p_sn M' = p_sn M := by unfold p_sn; rw [m2 1 (by decide) (by decide)]
    have old : ∀ t, t < p_tx M → p_lawok M' t := fun t ht => by
      obtain ⟨o1, o2⟩ := m4 t ht
      have lk := v4 t ht
      have ea : ∀ j, j < 4 → p_at M' t j = p_at M t j := fun j hj => by unfold p_at; rw [o2 j hj]
      refine ⟨fun j hj => by rw [ea j hj, o2 j hj]; exact lk.1 j hj, fun j hj => ?_⟩
      rw [ea j (by omega), ea (j + 1) (by omega)]
      refine ⟨(lk.2 j hj).1, ?_⟩
      have b1 := (lk.1 (j + 1) (by omega)).2
      have ext : ∀ (m k e : Nat), k + m ≤ 160 → p_wfr (p_cd M t) m k e → p_wfr (p_cd M' t) m k e := by
        intro m
        induction m with
        | zero => intro k e _ h; exact h
        | succ m ih =>
          intro k e hk h
          have ec : p_cd M' t k = p_cd M t k := o1 k (by omega)
          rcases h with ⟨z1, z2⟩ | ⟨z1, z2, z3⟩ | ⟨z1, z2, z3⟩
          · exact .inl ⟨by rw [ec]; exact z1, ih _ _ (by omega) z2⟩
          · exact .inr (.inl ⟨by rw [ec]; exact z1, z2, ih _ _ (by omega) z3⟩)
          · exact .inr (.inr ⟨by rw [ec]; exact z1, z2, ih _ _ (by omega) z3⟩)
      have b0 := (lk.2 j hj).1
      exact ext _ _ _ (by omega) (lk.2 j hj).2
    have w7 : p_nb (M' 135 25) 6 ∧ p_tx M ≤ p_tx M' ∧ ∀ t, t < p_tx M' → p_lawok M' t := by
      cases hy : y_tx (p_tz M) ts with
      | inl f =>
        rw [hy] at m5
        have m5 : M' 135 25 = M 135 25 := m5
        have etx : p_tx M' = p_tx M := by unfold p_tx; rw [m5]
        exact ⟨by rw [m5]; exact v1, by omega, fun t ht => old t (by omega)⟩
      | inr o =>
        obtain ⟨o1, o2, o3⟩ := o
        rw [hy] at m5
        obtain ⟨m5, m6⟩ := m5
        have etx : p_tx M' = p_tx M + 1 := by unfold p_tx; rw [m5, n_cl (by omega)]; rfl
        obtain ⟨y1, y2, y3, y4⟩ := ytx_wl htk hy
        refine ⟨⟨p_tx M + 1, by omega, m5⟩, by omega, fun t ht => ?_⟩
        by_cases e : t = p_tx M
        · rw [e]; exact lawok_ml m6 y1 y2 y3 (Nat.le_trans y4 hl)
        · exact old t (by omega)
    refine ⟨by rw [m2 1 (by decide) (by decide)]; exact hW.1, w2 hW (fun a ha => m1 a (by omega) (by omega) (by omega)), w3 hW (m2 8 (by decide) (by decide)) (m2 9 (by decide) (by decide)), w4 hW (fun a ha => m1 a (by omega) (by omega) (by omega)) (m2 10 (by decide) (by decide)) (by omega), by rw [m2 18 (by decide) (by decide)]; exact hW.2.2.2.2.1, ⟨⟨0, by omega, m3⟩, by rw [m1 152 (by decide) (by decide) (by decide)]; exact hW.2.2.2.2.2.1.2⟩, ⟨w7.1, ⟨q, by omega, by rw [m2 26 (by decide) (by decide)]; exact v2⟩, ⟨q', by omega, by rw [m2 32 (by decide) (by decide)]; exact v3⟩, w7.2.2⟩, w8 hW (fun a ha => m1 a (by omega) (by omega) (by omega)) (m2 27 (by decide) (by decide)) (m2 29 (by decide) (by decide)) (m2 30 (by decide) (by decide)) (m2 31 (by decide) (by decide)), w9 hW (fun a ha => m1 a (by omega) (by omega) (by omega)), w10 hW (m1 136 (by decide) (by decide) (by decide))⟩
