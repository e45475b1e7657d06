/-! the tokens of a tape: bytes B, N of them -/
def x_wh (C : Nat → Bool) : Nat → Nat → Nat
  | 0, p => p
  | m + 1, p => if C p = true then x_wh C m (p + 1) else p
def x_w (C : Nat → Bool) (N p : Nat) : Nat := x_wh C (N - p) p
def x_cb (B : Nat → Nat) (N p : Nat) : Bool := decide (p < N ∧ (B p = 32 ∨ B p = 10))
def x_cl (B : Nat → Nat) (N p : Nat) : Bool := decide (p < N ∧ 97 ≤ B p ∧ B p ≤ 122)
def x_cd (B : Nat → Nat) (N p : Nat) : Bool := decide (p < N ∧ 48 ≤ B p ∧ B p ≤ 57)
theorem xw_eq {C : Nat → Bool} {N p : Nat} (h : C p = true → p < N) : x_w C N p = if C p = true then x_w C N (p + 1) else p := by
  unfold x_w
  by_cases hp : p < N
  · obtain ⟨m, hm⟩ : ∃ m, N - p = m + 1 := ⟨N - p - 1, by omega⟩
    rw [hm, show N - (p + 1) = m by omega]
    rfl
  · rw [show N - p = 0 by omega, if_neg fun e => hp (h e)]
    rfl
theorem xw_b {C : Nat → Bool} {N : Nat} (h : ∀ p, C p = true → p < N) : ∀ m p, m = N - p → p ≤ N → p ≤ x_w C N p ∧ x_w C N p ≤ N
  | 0, p, hm, hp => by
    rw [xw_eq (h p)]
    split
    · rename_i e; have := h p e; omega
    · omega
  | m + 1, p, hm, hp => by
    rw [xw_eq (h p)]
    split
    · have := xw_b h m (p + 1) (by omega) (by omega); omega
    · omega
theorem xw_in {C : Nat → Bool} {N : Nat} (h : ∀ p, C p = true → p < N) : ∀ m p, m = N - p → p ≤ N → ∀ k, p ≤ k → k < x_w C N p → C k = true
  | 0, p, hm, hp, k, k1, k2 => by
    rw [xw_eq (h p)] at k2
    split at k2
    · rename_i e; have := h p e; omega
    · omega
  | m + 1, p, hm, hp, k, k1, k2 => by
    rw [xw_eq (h p)] at k2
    split at k2
    · rename_i e
      by_cases ek : k = p
      · rw [ek]; exact e
      · exact xw_in h m (p + 1) (by omega) (by omega) k (by omega) k2
    · omega
theorem xcb {B : Nat → Nat} {N p : Nat} (h : x_cb B N p = true) : p < N := (of_decide_eq_true h).1
theorem xcl {B : Nat → Nat} {N p : Nat} (h : x_cl B N p = true) : p < N := (of_decide_eq_true h).1
theorem xcd {B : Nat → Nat} {N p : Nat} (h : x_cd B N p = true) : p < N := (of_decide_eq_true h).1
/-- the bytes from s on, n of them, the last first -/
def x_ls (B : Nat → Nat) (s : Nat) : Nat → List Nat
  | 0 => []
  | n + 1 => B (s + n) :: x_ls B s n
theorem xls_len (B : Nat → Nat) (s : Nat) : ∀ n, (x_ls B s n).length = n
  | 0 => rfl
  | n + 1 => by show (x_ls B s n).length + 1 = n + 1; rw [xls_len B s n]
/-- the words, backwards: lift turn slow speed spin tilt high stick wind or and not -/
def x_wd (i : Nat) : List Nat :=
  if i = 0 then [116, 102, 105, 108] else if i = 1 then [110, 114, 117, 116] else if i = 2 then [119, 111, 108, 115] else if i = 3 then [100, 101, 101, 112, 115] else if i = 4 then [110, 105, 112, 115]
  else if i = 5 then [116, 108, 105, 116] else if i = 6 then [104, 103, 105, 104] else if i = 7 then [107, 99, 105, 116, 115] else if i = 8 then [100, 110, 105, 119] else if i = 9 then [114, 111] else if i = 10 then [100, 110, 97] else [116, 111, 110]
def x_wf (l : List Nat) : Nat → Nat → Nat
  | 0, k => k
  | m + 1, k => if x_wd k = l then k else x_wf l m (k + 1)
/-- which word it is, 12: none -/
def x_wc (l : List Nat) : Nat := x_wf l 12 0
theorem xwf_le (l : List Nat) : ∀ m k, x_wf l m k ≤ k + m
  | 0, k => Nat.le_refl _
  | m + 1, k => by
    unfold x_wf
    split
    · omega
    · have := xwf_le l m (k + 1); omega
def x_nm : List Nat → Nat
  | [] => 0
  | d :: t => 10 * x_nm t + (d - 48)
def x_wk (k : Nat) : Nat := if k < 3 then 3 else if k < 9 then 2 else if k = 12 then 7 else k - 5
def x_wv (k : Nat) : Nat := if k < 3 then k else k - 3
def x_sg (b : Nat) : Nat := if b = 40 ∨ b = 41 ∨ b = 59 ∨ b = 43 ∨ b = 45 ∨ b = 42 ∨ b = 60 ∨ b = 61 then b else 7
/-- a token: its kind (0 none, 1 number, 2 name, 3 key, 4 or, 5 and, 6 not, 7 unknown, else a sign), value, place -/
def x_tk (B : Nat → Nat) (N p : Nat) : (Nat × Nat × Nat) × Nat :=
  if N ≤ x_w (x_cb B N) N p then ((0, 0, x_w (x_cb B N) N p), x_w (x_cb B N) N p)
  else if 97 ≤ B (x_w (x_cb B N) N p) ∧ B (x_w (x_cb B N) N p) ≤ 122 then
    ((x_wk (x_wc (x_ls B (x_w (x_cb B N) N p) (x_w (x_cl B N) N (x_w (x_cb B N) N p) - x_w (x_cb B N) N p))), x_wv (x_wc (x_ls B (x_w (x_cb B N) N p) (x_w (x_cl B N) N (x_w (x_cb B N) N p) - x_w (x_cb B N) N p))), x_w (x_cb B N) N p), x_w (x_cl B N) N (x_w (x_cb B N) N p))
  else if 48 ≤ B (x_w (x_cb B N) N p) ∧ B (x_w (x_cb B N) N p) ≤ 57 then
    (if x_w (x_cd B N) N (x_w (x_cb B N) N p) - x_w (x_cb B N) N p ≤ 4 then ((1, x_nm (x_ls B (x_w (x_cb B N) N p) (x_w (x_cd B N) N (x_w (x_cb B N) N p) - x_w (x_cb B N) N p)), x_w (x_cb B N) N p), x_w (x_cd B N) N (x_w (x_cb B N) N p)) else ((7, 0, x_w (x_cb B N) N p), x_w (x_cd B N) N (x_w (x_cb B N) N p)))
  else ((x_sg (B (x_w (x_cb B N) N p)), 0, x_w (x_cb B N) N p), x_w (x_cb B N) N p + 1)
def x_ok (t : Nat × Nat × Nat) : Prop := (t.1 = 1 → t.2.1 ≤ 9999) ∧ (t.1 = 2 → t.2.1 ≤ 5) ∧ (t.1 = 3 → t.2.1 ≤ 2) ∧ (t.1 ≤ 7 ∨ t.1 = 40 ∨ t.1 = 41 ∨ t.1 = 59 ∨ t.1 = 43 ∨ t.1 = 45 ∨ t.1 = 42 ∨ t.1 = 60 ∨ t.1 = 61)
theorem xnm_le {l : List Nat} : (∀ d, d ∈ l → 48 ≤ d ∧ d ≤ 57) → l.length ≤ 4 → x_nm l < 10 ^ l.length := by
  induction l with
  | nil => intro _ _; decide
  | cons d t ih =>
    intro h hl
    have h1 := h d (List.mem_cons_self ..)
    have h2 := ih (fun x hx => h x (List.mem_cons_of_mem _ hx)) (by simp only [List.length_cons] at hl; omega)
    show 10 * x_nm t + (d - 48) < 10 ^ (t.length + 1)
    rw [Nat.pow_succ]
    omega
theorem xls_mem {B : Nat → Nat} {s : Nat} : ∀ {n x : Nat}, x ∈ x_ls B s n → ∃ k, s ≤ k ∧ k < s + n ∧ x = B k
  | 0, x, h => absurd h (by simp [x_ls])
  | n + 1, x, h => by
    rcases List.mem_cons.1 h with h | h
    · exact ⟨s + n, by omega, by omega, h⟩
    · obtain ⟨k, k1, k2, k3⟩ := xls_mem h
      exact ⟨k, k1, by omega, k3⟩
theorem xsk_b (B : Nat → Nat) {N p : Nat} (hp : p ≤ N) : p ≤ x_w (x_cb B N) N p ∧ x_w (x_cb B N) N p ≤ N := xw_b (fun _ => xcb) _ _ rfl hp
/-- what a token is like -/
theorem xtk_ok (B : Nat → Nat) {N p : Nat} (hp : p ≤ N) : x_ok (x_tk B N p).1 ∧ p ≤ (x_tk B N p).1.2.2 ∧ (x_tk B N p).2 ≤ N ∧ ((x_tk B N p).1.1 = 0 → (x_tk B N p).1.2.2 = N ∧ (x_tk B N p).2 = N) ∧ ((x_tk B N p).1.1 ≠ 0 → (x_tk B N p).1.2.2 < (x_tk B N p).2) := by
  obtain ⟨s1, s2⟩ := xsk_b B hp
  unfold x_tk
  generalize x_w (x_cb B N) N p = s at s1 s2 ⊢
  by_cases h0 : N ≤ s
  · rw [if_pos h0]
    exact ⟨⟨fun h => absurd (show 0 = 1 from h) (by decide), fun h => absurd (show 0 = 2 from h) (by decide), fun h => absurd (show 0 = 3 from h) (by decide), .inl (Nat.zero_le 7)⟩, s1, s2, fun _ => ⟨by show s = N; omega, by show s = N; omega⟩, fun h => absurd rfl h⟩
  · rw [if_neg h0]
    by_cases h1 : 97 ≤ B s ∧ B s ≤ 122
    · rw [if_pos h1]
      obtain ⟨e1, e2⟩ := xw_b (N := N) (fun q => @xcl B N q) _ s rfl s2
      have e3 : s < x_w (x_cl B N) N s := by
        rw [xw_eq xcl, if_pos (show x_cl B N s = true from decide_eq_true ⟨by omega, h1⟩)]
        have := (xw_b (N := N) (fun q => @xcl B N q) _ (s + 1) rfl (by omega)).1
        omega
      have hk := xwf_le (x_ls B s (x_w (x_cl B N) N s - s)) 12 0
      unfold x_wc
      generalize x_wf (x_ls B s (x_w (x_cl B N) N s - s)) 12 0 = k at hk ⊢
      have hw : x_wk k ≠ 0 := by unfold x_wk; split; decide; split; decide; split; decide; omega
      refine ⟨⟨fun h => ?_, fun h => ?_, fun h => ?_, .inl ?_⟩, s1, e2, fun h => absurd h hw, fun _ => e3⟩
      · exfalso; revert h; show x_wk k = 1 → False; unfold x_wk; split; omega; split; omega; split; omega; omega
      · show x_wv k ≤ 5
        revert h
        show x_wk k = 2 → _
        unfold x_wk x_wv
        split
        · omega
        · split
          · omega
          · split
            · omega
            · omega
      · show x_wv k ≤ 2
        revert h
        show x_wk k = 3 → _
        unfold x_wk x_wv
        split
        · omega
        · split
          · omega
          · split
            · omega
            · omega
      · show x_wk k ≤ 7
        unfold x_wk; split; omega; split; omega; split; omega; omega
    · rw [if_neg h1]
      by_cases h2 : 48 ≤ B s ∧ B s ≤ 57
      · rw [if_pos h2]
        obtain ⟨e1, e2⟩ := xw_b (N := N) (fun q => @xcd B N q) _ s rfl s2
        have e3 : s < x_w (x_cd B N) N s := by
          rw [xw_eq xcd, if_pos (show x_cd B N s = true from decide_eq_true ⟨by omega, h2⟩)]
          have := (xw_b (N := N) (fun q => @xcd B N q) _ (s + 1) rfl (by omega)).1
          omega
        split
        · rename_i h4
          refine ⟨⟨fun _ => ?_, fun h => absurd (show 1 = 2 from h) (by decide), fun h => absurd (show 1 = 3 from h) (by decide), .inl (show 1 ≤ 7 by decide)⟩, s1, e2, fun h => absurd (show 1 = 0 from h) (by decide), fun _ => e3⟩
          have hl := xls_len B s (x_w (x_cd B N) N s - s)
          have := xnm_le (l := x_ls B s (x_w (x_cd B N) N s - s)) (fun d hd => ?_) (by omega)
          · rw [hl] at this
            have hp : 10 ^ (x_w (x_cd B N) N s - s) ≤ 10 ^ 4 := Nat.pow_le_pow_right (by decide) h4
            show x_nm _ ≤ 9999
            omega
          · obtain ⟨k, k1, k2, rfl⟩ := xls_mem hd
            have := xw_in (N := N) (fun q => @xcd B N q) _ s rfl s2 k k1 (by omega)
            exact (of_decide_eq_true this).2
        · exact ⟨⟨fun h => absurd (show 7 = 1 from h) (by decide), fun h => absurd (show 7 = 2 from h) (by decide), fun h => absurd (show 7 = 3 from h) (by decide), .inl (show 7 ≤ 7 by decide)⟩, s1, e2, fun h => absurd (show 7 = 0 from h) (by decide), fun _ => e3⟩
      · rw [if_neg h2]
        have hs : x_sg (B s) = 7 ∨ x_sg (B s) = 40 ∨ x_sg (B s) = 41 ∨ x_sg (B s) = 59 ∨ x_sg (B s) = 43 ∨ x_sg (B s) = 45 ∨ x_sg (B s) = 42 ∨ x_sg (B s) = 60 ∨ x_sg (B s) = 61 := by
          unfold x_sg
          split
          · rename_i h; omega
          · exact .inl rfl
        refine ⟨⟨fun h => ?_, fun h => ?_, fun h => ?_, ?_⟩, s1, by show s + 1 ≤ N; omega, fun h => ?_, fun _ => by show s < s + 1; omega⟩
        · have h : x_sg (B s) = 1 := h; omega
        · have h : x_sg (B s) = 2 := h; omega
        · have h : x_sg (B s) = 3 := h; omega
        · have g : x_sg (B s) ≤ 7 ∨ x_sg (B s) = 40 ∨ x_sg (B s) = 41 ∨ x_sg (B s) = 59 ∨ x_sg (B s) = 43 ∨ x_sg (B s) = 45 ∨ x_sg (B s) = 42 ∨ x_sg (B s) = 60 ∨ x_sg (B s) = 61 := by omega
          exact g
        · have h : x_sg (B s) = 0 := h; omega
/-- the tokens from p on -/
def x_lx (B : Nat → Nat) (N : Nat) : Nat → List (Nat × Nat × Nat) → Prop
  | p, [] => (x_tk B N p).1.1 = 0
  | p, t :: ts => (x_tk B N p).1 = t ∧ t.1 ≠ 0 ∧ x_lx B N (x_tk B N p).2 ts
theorem xlx_ex (B : Nat → Nat) (N : Nat) : ∀ m p, m = N - p → p ≤ N → ∃ ts, x_lx B N p ts := by
  intro m
  induction m using Nat.strongRecOn with
  | ind m ih =>
    intro p hm hp
    obtain ⟨-, h1, h2, h3, h4⟩ := xtk_ok B hp
    by_cases h0 : (x_tk B N p).1.1 = 0
    · exact ⟨[], h0⟩
    · have := h4 h0
      obtain ⟨ts, hts⟩ := ih (N - (x_tk B N p).2) (by omega) _ rfl h2
      exact ⟨_ :: ts, rfl, h0, hts⟩
/-- where the first of the tokens stands, its kind and its value -/
def x_b (N : Nat) : List (Nat × Nat × Nat) → Nat
  | [] => N
  | t :: _ => t.2.2
def x_k : List (Nat × Nat × Nat) → Nat
  | [] => 0
  | t :: _ => t.1
def x_v : List (Nat × Nat × Nat) → Nat
  | [] => 0
  | t :: _ => t.2.1
theorem xlx_hd {B : Nat → Nat} {N p : Nat} {ts : List (Nat × Nat × Nat)} (h : x_lx B N p ts) (hp : p ≤ N) : (x_tk B N p).1.1 = x_k ts ∧ (x_tk B N p).1.2.2 = x_b N ts ∧ (ts ≠ [] → (x_tk B N p).1.2.1 = x_v ts ∧ x_lx B N (x_tk B N p).2 ts.tail) ∧ (ts = [] → x_lx B N (x_tk B N p).2 ts.tail) := by
  obtain ⟨-, h1, h2, h3, h4⟩ := xtk_ok B hp
  cases ts with
  | nil =>
    obtain ⟨a1, a2⟩ := h3 h
    refine ⟨h, a1, fun h => absurd rfl h, fun _ => ?_⟩
    show (x_tk B N (x_tk B N p).2).1.1 = 0
    rw [a2]
    obtain ⟨-, g1, g2, g3, g4⟩ := xtk_ok B (Nat.le_refl N)
    by_cases h0 : (x_tk B N N).1.1 = 0
    · exact h0
    · have := g4 h0; omega
  | cons t ts =>
    obtain ⟨a1, a2, a3⟩ := h
    rw [a1]
    exact ⟨rfl, rfl, fun _ => ⟨rfl, a3⟩, fun h => absurd h (by simp)⟩
