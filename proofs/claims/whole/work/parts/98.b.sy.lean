/-! how the model reads an E: signs held, put when what they stand between is there -/
def y_rk (s : Nat) : Nat := if s = 0 then 0 else if s = 11 then 1 else if s = 12 then 2 else if s = 13 then 3 else if s ≤ 15 then 4 else if s ≤ 17 then 5 else if s = 18 then 6 else 7
def y_un (r : Nat) : List Nat → Nat → List Nat → List Nat × Nat × List Nat
  | [], o, out => ([], o, out)
  | a :: H, o, out => if r ≤ y_rk a then y_un r H (if a = 13 ∨ a = 19 then o - 1 else o) (a :: out) else (a :: H, o, out)
def y_sn (T : Nat) : Nat := if T = 4 then 11 else if T = 5 then 12 else if T = 60 then 14 else if T = 61 then 15 else if T = 43 then 16 else if T = 45 then 17 else if T = 42 then 18 else 0
def y_lr (s : Nat) : Nat := if y_rk s = 4 then 5 else y_rk s
def y_t4 : List Nat → Prop
  | [] => False
  | a :: _ => y_rk a = 4
def y_b4 : List Nat → Bool
  | [] => false
  | a :: _ => decide (y_rk a = 4)
/-- wants: an operand is wanted; mn: a not may stand -/
def y_go (N : Nat) : List (Nat × Nat × Nat) → Bool → Bool → List Nat → Nat → List Nat → Nat ⊕ (List (Nat × Nat × Nat) × List Nat)
  | [], _, _, _, _, _ => .inl N
  | t :: ts, true, mn, H, o, out =>
    if t.1 = 1 then y_go N ts false false (y_un 7 H o ((100000 + t.2.1) :: out)).1 (y_un 7 H o ((100000 + t.2.1) :: out)).2.1 (y_un 7 H o ((100000 + t.2.1) :: out)).2.2
    else if t.1 = 2 then y_go N ts false false (y_un 7 H o (t.2.1 :: out)).1 (y_un 7 H o (t.2.1 :: out)).2.1 (y_un 7 H o (t.2.1 :: out)).2.2
    else if t.1 = 6 ∧ mn = true then (if o = 5 then .inl t.2.2 else y_go N ts true mn (13 :: H) (o + 1) out)
    else if t.1 = 45 then (if o = 5 then .inl t.2.2 else y_go N ts true false (19 :: H) (o + 1) out)
    else if t.1 = 40 then (if o = 5 then .inl t.2.2 else y_go N ts true true (0 :: H) (o + 1) out)
    else .inl t.2.2
  | t :: ts, false, _, H, o, out =>
    if t.1 = 59 then (match (y_un 1 H o out).1 with
      | [] => Sum.inr (ts, (y_un 1 H o out).2.2)
      | _ :: _ => Sum.inl t.2.2)
    else if t.1 = 41 then (match (y_un 1 H o out).1 with
      | [] => Sum.inl t.2.2
      | _ :: H' => y_go N ts false false (y_un 7 H' ((y_un 1 H o out).2.1 - 1) (y_un 1 H o out).2.2).1 (y_un 7 H' ((y_un 1 H o out).2.1 - 1) (y_un 1 H o out).2.2).2.1 (y_un 7 H' ((y_un 1 H o out).2.1 - 1) (y_un 1 H o out).2.2).2.2)
    else if y_sn t.1 = 0 then .inl t.2.2
    else if y_rk (y_sn t.1) = 4 ∧ y_b4 (y_un (y_lr (y_sn t.1)) H o out).1 = true then .inl t.2.2
    else y_go N ts true (decide (y_sn t.1 ≤ 12)) (y_sn t.1 :: (y_un (y_lr (y_sn t.1)) H o out).1) (y_un (y_lr (y_sn t.1)) H o out).2.1 (y_un (y_lr (y_sn t.1)) H o out).2.2
def y_W (N : Nat) (ts : List (Nat × Nat × Nat)) (mn : Bool) (H : List Nat) (o : Nat) (out : List Nat) := y_go N ts true mn H o out
def y_A (N : Nat) (ts : List (Nat × Nat × Nat)) (S : List Nat × Nat × List Nat) := y_go N ts false false S.1 S.2.1 S.2.2
/-- S comes to S' when it is unwound to r -/
def y_C (r : Nat) (S S' : List Nat × Nat × List Nat) : Prop := ∀ q, q ≤ r → y_un q S.1 S.2.1 S.2.2 = y_un q S'.1 S'.2.1 S'.2.2
theorem yC_rfl {r : Nat} {S : List Nat × Nat × List Nat} : y_C r S S := fun _ _ => rfl
theorem yC_trans {r : Nat} {S S' S'' : List Nat × Nat × List Nat} (h : y_C r S S') (h' : y_C r S' S'') : y_C r S S'' := fun q hq => (h q hq).trans (h' q hq)
theorem yC_mono {r r' : Nat} {S S' : List Nat × Nat × List Nat} (h : y_C r S S') (hr : r' ≤ r) : y_C r' S S' := fun q hq => h q (by omega)
theorem yun_yes {r a o : Nat} {H out : List Nat} (h : r ≤ y_rk a) : y_un r (a :: H) o out = y_un r H (if a = 13 ∨ a = 19 then o - 1 else o) (a :: out) := if_pos h
theorem yun_no {r a o : Nat} {H out : List Nat} (h : ¬ r ≤ y_rk a) : y_un r (a :: H) o out = (a :: H, o, out) := if_neg h
theorem yun_un {r q : Nat} (hq : q ≤ r) : ∀ (H : List Nat) (o : Nat) (out : List Nat), y_un q (y_un r H o out).1 (y_un r H o out).2.1 (y_un r H o out).2.2 = y_un q H o out
  | [], _, _ => rfl
  | a :: H, o, out => by
    by_cases h : r ≤ y_rk a
    · rw [yun_yes h, yun_un hq H, yun_yes (Nat.le_trans hq h)]
    · rw [yun_no h]
theorem yC_un {r : Nat} {H : List Nat} {o : Nat} {out : List Nat} : y_C r (y_un r H o out) (H, o, out) := fun _ hq => yun_un hq H o out
/-- a sign that is put -/
theorem yC_put {r a o o' : Nat} {H out : List Nat} (h : r ≤ y_rk a) (ho : (if a = 13 ∨ a = 19 then o - 1 else o) = o') : y_C r (a :: H, o, out) (H, o', a :: out) := fun q hq => by
  show y_un q (a :: H) o out = y_un q H o' (a :: out)
  rw [yun_yes (Nat.le_trans hq h), ho]
/-- the sign on top binds less than r -/
def y_tp (H : List Nat) (r : Nat) : Prop := ∀ a H', H = a :: H' → y_rk a < r
theorem ytp_un {H : List Nat} {r o : Nat} {out : List Nat} (h : y_tp H r) : y_un r H o out = (H, o, out) := by
  cases H with
  | nil => rfl
  | cons a H' => exact yun_no (by have := h a H' rfl; omega)
theorem ytp_mono {H : List Nat} {r r' : Nat} (h : y_tp H r) (hr : r ≤ r') : y_tp H r' := fun a H' e => by have := h a H' e; omega
theorem ytp_cons {a r : Nat} {H : List Nat} (h : y_rk a < r) : y_tp (a :: H) r := fun b H' e => by
  obtain ⟨rfl, -⟩ := List.cons.inj e
  exact h
theorem ysn_cases (T : Nat) : (y_sn T = 0 ∧ T ≠ 4 ∧ T ≠ 5 ∧ T ≠ 60 ∧ T ≠ 61 ∧ T ≠ 43 ∧ T ≠ 45 ∧ T ≠ 42) ∨ (T = 4 ∧ y_sn T = 11) ∨ (T = 5 ∧ y_sn T = 12) ∨ (T = 60 ∧ y_sn T = 14) ∨ (T = 61 ∧ y_sn T = 15) ∨ (T = 43 ∧ y_sn T = 16) ∨ (T = 45 ∧ y_sn T = 17) ∨ (T = 42 ∧ y_sn T = 18) := by
  unfold y_sn
  split; · omega
  split; · omega
  split; · omega
  split; · omega
  split; · omega
  split; · omega
  split; · omega
  omega
/-- a sign between two -/
theorem yA_sign {N s : Nat} {t : Nat × Nat × Nat} {ts : List (Nat × Nat × Nat)} {S : List Nat × Nat × List Nat} {H : List Nat} {o : Nat} {out : List Nat} (hs : y_sn t.1 = s) (h0 : s ≠ 0) (hC : y_C (y_lr s) S (H, o, out)) (hu : y_un (y_lr s) H o out = (H, o, out)) (h4 : ¬(y_rk s = 4 ∧ y_b4 H = true)) :
    y_A N (t :: ts) S = y_W N ts (decide (s ≤ 12)) (s :: H) o out := by
  have e := (hC (y_lr s) (Nat.le_refl _)).trans hu
  subst hs
  have hT : t.1 ≠ 59 ∧ t.1 ≠ 41 := by
    rcases ysn_cases t.1 with h | h | h | h | h | h | h | h
    · exact absurd h.1 h0
    all_goals omega
  show (if t.1 = 59 then _ else if t.1 = 41 then _ else if y_sn t.1 = 0 then _ else if y_rk (y_sn t.1) = 4 ∧ y_b4 (y_un (y_lr (y_sn t.1)) S.1 S.2.1 S.2.2).1 = true then _ else y_go N ts true (decide (y_sn t.1 ≤ 12)) (y_sn t.1 :: (y_un (y_lr (y_sn t.1)) S.1 S.2.1 S.2.2).1) (y_un (y_lr (y_sn t.1)) S.1 S.2.1 S.2.2).2.1 (y_un (y_lr (y_sn t.1)) S.1 S.2.1 S.2.2).2.2) = _
  rw [if_neg hT.1, if_neg hT.2, if_neg h0, e, if_neg h4]
  rfl
/-- a second comparison -/
theorem yA_cmp {N : Nat} {t : Nat × Nat × Nat} {ts : List (Nat × Nat × Nat)} {S : List Nat × Nat × List Nat} {H : List Nat} {a o : Nat} {out : List Nat} (ht : t.1 = 60 ∨ t.1 = 61) (hC : y_C 5 S (a :: H, o, out)) (ha : y_rk a = 4) : y_A N (t :: ts) S = .inl t.2.2 := by
  have e := hC 5 (Nat.le_refl _)
  rw [show y_un 5 (a :: H, o, out).1 (a :: H, o, out).2.1 (a :: H, o, out).2.2 = (a :: H, o, out) from yun_no (by omega)] at e
  have hs : y_sn t.1 ≠ 0 ∧ y_rk (y_sn t.1) = 4 ∧ y_lr (y_sn t.1) = 5 := by
    rcases ht with h | h <;> rw [h] <;> decide
  show (if t.1 = 59 then _ else if t.1 = 41 then _ else if y_sn t.1 = 0 then _ else if y_rk (y_sn t.1) = 4 ∧ y_b4 (y_un (y_lr (y_sn t.1)) S.1 S.2.1 S.2.2).1 = true then _ else _) = _
  rw [if_neg (by omega), if_neg (by omega), if_neg hs.1, hs.2.2, e, if_pos ⟨hs.2.1, decide_eq_true ha⟩]
/-- a bracket that ends -/
theorem yA_close {N : Nat} {t : Nat × Nat × Nat} {ts : List (Nat × Nat × Nat)} {S : List Nat × Nat × List Nat} {H : List Nat} {o : Nat} {out : List Nat} (ht : t.1 = 41) (hC : y_C 1 S (0 :: H, o + 1, out)) : y_A N (t :: ts) S = y_A N ts (y_un 7 H o out) := by
  have e := hC 1 (Nat.le_refl _)
  rw [show y_un 1 (0 :: H, o + 1, out).1 (0 :: H, o + 1, out).2.1 (0 :: H, o + 1, out).2.2 = (0 :: H, o + 1, out) from yun_no (by decide)] at e
  show (if t.1 = 59 then _ else if t.1 = 41 then (match (y_un 1 S.1 S.2.1 S.2.2).1 with
      | [] => Sum.inl t.2.2
      | _ :: H' => y_go N ts false false (y_un 7 H' ((y_un 1 S.1 S.2.1 S.2.2).2.1 - 1) (y_un 1 S.1 S.2.1 S.2.2).2.2).1 (y_un 7 H' ((y_un 1 S.1 S.2.1 S.2.2).2.1 - 1) (y_un 1 S.1 S.2.1 S.2.2).2.2).2.1 (y_un 7 H' ((y_un 1 S.1 S.2.1 S.2.2).2.1 - 1) (y_un 1 S.1 S.2.1 S.2.2).2.2).2.2) else _) = _
  rw [if_neg (by omega), if_pos ht, e]
  rfl
/-- what can't go on: behind an E that nothing joins -/
theorem yA_bad {N q : Nat} {ts : List (Nat × Nat × Nat)} {S : List Nat × Nat × List Nat} {H : List Nat} {o : Nat} {out : List Nat} (hq : x_k ts ≠ q) (h1 : x_k ts ≠ 4 ∧ x_k ts ≠ 5 ∧ x_k ts ≠ 43 ∧ x_k ts ≠ 45 ∧ x_k ts ≠ 42) (h2 : x_k ts = 60 ∨ x_k ts = 61 → y_A N ts S = .inl (x_b N ts)) (hC : y_C 1 S (H, o, out)) (hH : (q = 41 ∧ ∃ H', H = 0 :: H') ∨ (q = 59 ∧ H = [])) : y_A N ts S = .inl (x_b N ts) := by
  cases ts with
  | nil => rfl
  | cons t ts =>
    have hq : t.1 ≠ q := hq
    have h1 : t.1 ≠ 4 ∧ t.1 ≠ 5 ∧ t.1 ≠ 43 ∧ t.1 ≠ 45 ∧ t.1 ≠ 42 := h1
    by_cases hc : t.1 = 60 ∨ t.1 = 61
    · exact h2 hc
    · have e := hC 1 (Nat.le_refl _)
      show (if t.1 = 59 then (match (y_un 1 S.1 S.2.1 S.2.2).1 with
        | [] => Sum.inr (ts, (y_un 1 S.1 S.2.1 S.2.2).2.2)
        | _ :: _ => Sum.inl t.2.2) else if t.1 = 41 then (match (y_un 1 S.1 S.2.1 S.2.2).1 with
        | [] => Sum.inl t.2.2
        | _ :: H' => _) else if y_sn t.1 = 0 then .inl t.2.2 else _) = Sum.inl t.2.2
      rw [e]
      have hs : y_sn t.1 = 0 := by
        rcases ysn_cases t.1 with h | h | h | h | h | h | h | h
        · exact h.1
        all_goals omega
      rcases hH with ⟨hq2, H', rfl⟩ | ⟨hq2, rfl⟩
      · rw [show y_un 1 (0 :: H', o, out).1 (0 :: H', o, out).2.1 (0 :: H', o, out).2.2 = (0 :: H', o, out) from yun_no (by decide)]
        by_cases h59 : t.1 = 59
        · rw [if_pos h59]
        · rw [if_neg h59, if_neg (by omega), if_pos hs]
      · by_cases h41 : t.1 = 41
        · rw [if_neg (by omega), if_pos h41]
          rfl
        · rw [if_neg (by omega), if_neg h41, if_pos hs]
/-- the end of an E -/
theorem yA_end {N : Nat} {t : Nat × Nat × Nat} {ts : List (Nat × Nat × Nat)} {S : List Nat × Nat × List Nat} {o : Nat} {out : List Nat} (ht : t.1 = 59) (hC : y_C 1 S ([], o, out)) : y_A N (t :: ts) S = .inr (ts, out) := by
  have e := hC 1 (Nat.le_refl _)
  show (if t.1 = 59 then (match (y_un 1 S.1 S.2.1 S.2.2).1 with
      | [] => Sum.inr (ts, (y_un 1 S.1 S.2.1 S.2.2).2.2)
      | _ :: _ => Sum.inl t.2.2) else _) = _
  rw [if_pos ht, e]
  rfl
theorem yW_num {N o : Nat} {t : Nat × Nat × Nat} {ts : List (Nat × Nat × Nat)} {mn : Bool} {H out : List Nat} (ht : t.1 = 1) : y_W N (t :: ts) mn H o out = y_A N ts (y_un 7 H o ((100000 + t.2.1) :: out)) := if_pos ht
theorem yW_name {N o : Nat} {t : Nat × Nat × Nat} {ts : List (Nat × Nat × Nat)} {mn : Bool} {H out : List Nat} (ht : t.1 = 2) : y_W N (t :: ts) mn H o out = y_A N ts (y_un 7 H o (t.2.1 :: out)) := (if_neg (by omega)).trans (if_pos ht)
theorem yW_not {N o : Nat} {t : Nat × Nat × Nat} {ts : List (Nat × Nat × Nat)} {H out : List Nat} (ht : t.1 = 6) : y_W N (t :: ts) true H o out = if o = 5 then .inl t.2.2 else y_W N ts true (13 :: H) (o + 1) out := (if_neg (by omega)).trans ((if_neg (by omega)).trans (if_pos ⟨ht, rfl⟩))
theorem yW_neg {N o : Nat} {t : Nat × Nat × Nat} {ts : List (Nat × Nat × Nat)} {mn : Bool} {H out : List Nat} (ht : t.1 = 45) : y_W N (t :: ts) mn H o out = if o = 5 then .inl t.2.2 else y_W N ts false (19 :: H) (o + 1) out := (if_neg (by omega)).trans ((if_neg (by omega)).trans ((if_neg (by omega)).trans (if_pos ht)))
theorem yW_open {N o : Nat} {t : Nat × Nat × Nat} {ts : List (Nat × Nat × Nat)} {mn : Bool} {H out : List Nat} (ht : t.1 = 40) : y_W N (t :: ts) mn H o out = if o = 5 then .inl t.2.2 else y_W N ts true (0 :: H) (o + 1) out := (if_neg (by omega)).trans ((if_neg (by omega)).trans ((if_neg (by omega)).trans ((if_neg (by omega)).trans (if_pos ht))))
theorem yW_bad {N o : Nat} {ts : List (Nat × Nat × Nat)} {mn : Bool} {H out : List Nat} (h : x_k ts ≠ 1 ∧ x_k ts ≠ 2 ∧ x_k ts ≠ 45 ∧ x_k ts ≠ 40) (h6 : mn = true → x_k ts ≠ 6) : y_W N ts mn H o out = .inl (x_b N ts) := by
  cases ts with
  | nil => rfl
  | cons t ts =>
    have h : t.1 ≠ 1 ∧ t.1 ≠ 2 ∧ t.1 ≠ 45 ∧ t.1 ≠ 40 := h
    exact (if_neg h.1).trans ((if_neg h.2.1).trans ((if_neg fun z => h6 z.2 z.1).trans ((if_neg h.2.2.1).trans (if_neg h.2.2.2))))
/-! what is put is well formed -/
def y_wl : List Nat → Nat → Prop
  | [], d => d = 0
  | a :: t, d => ((a ≤ 5 ∨ (100000 ≤ a ∧ a ≤ 109999)) ∧ ∃ e, d = e + 1 ∧ y_wl t e) ∨ ((a = 13 ∨ a = 19) ∧ 1 ≤ d ∧ y_wl t d) ∨ ((a = 11 ∨ a = 12 ∨ a = 14 ∨ a = 15 ∨ a = 16 ∨ a = 17 ∨ a = 18) ∧ 1 ≤ d ∧ y_wl t (d + 1))
/-- the signs held: how many stand between two -/
def y_nb : List Nat → Nat
  | [] => 0
  | a :: H => y_nb H + if a = 0 ∨ a = 13 ∨ a = 19 then 0 else 1
def y_hs (H : List Nat) : Prop := ∀ a, a ∈ H → a = 0 ∨ (11 ≤ a ∧ a ≤ 19)
theorem yun_wl {r : Nat} (hr : 1 ≤ r) : ∀ (H : List Nat) (o : Nat) (out : List Nat), y_hs H → y_wl out (y_nb H + 1) → y_hs (y_un r H o out).1 ∧ y_wl (y_un r H o out).2.2 (y_nb (y_un r H o out).1 + 1) ∧ (y_un r H o out).2.2.length + (y_un r H o out).1.length = out.length + H.length
  | [], _, out, h1, h2 => ⟨h1, h2, rfl⟩
  | a :: H, o, out, h1, h2 => by
    by_cases h : r ≤ y_rk a
    · rw [yun_yes h]
      have ha := h1 a (List.mem_cons_self ..)
      have hH : y_hs H := fun b hb => h1 b (List.mem_cons_of_mem _ hb)
      have h0 : a ≠ 0 := by
        intro e
        rw [e] at h
        have : y_rk 0 = 0 := rfl
        omega
      have h2 : y_wl out (y_nb H + (if a = 0 ∨ a = 13 ∨ a = 19 then 0 else 1) + 1) := h2
      obtain ⟨g1, g2, g3⟩ := yun_wl hr H (if a = 13 ∨ a = 19 then o - 1 else o) (a :: out) hH (by
        by_cases hu : a = 13 ∨ a = 19
        · rw [if_pos (.inr hu)] at h2
          exact .inr (.inl ⟨hu, by omega, h2⟩)
        · rw [if_neg (by omega)] at h2
          exact .inr (.inr ⟨by omega, by omega, h2⟩))
      refine ⟨g1, g2, ?_⟩
      rw [g3]
      simp only [List.length_cons]
      omega
    · rw [yun_no h]
      exact ⟨h1, h2, rfl⟩
