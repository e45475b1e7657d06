/-! toLaw over the whole heap -/
section
variable {d c L n : Nat} {Q : Option Value → q_H → Prop} {I : Nat → Nat → Int32} {r : Nat → Nat → Option Nat} {dk : Nat → Nat × Nat} {B : Nat → Nat} {N : Nat} {ts : List (Nat × Nat × Nat)}
theorem s_toLawP (hT : x_T I B N) (hS : x_S I) {K : Nat} (hK : 48 ≤ K) (hn : 179 ≤ n) (hc : 3 ≤ c) (hx : x_lx B N 0 ts)
    (hF : ∀ I' f, y_tx N ts = .inl f → y_fr n I I' → I' 42 2 = Int32.ofNat f → f ≤ 160 → Q (some .null) (p_h L I' (q_nw r n fun _ => none) (q_nw dk n (100, 4)) (n + 1)))
    (hO : ∀ I' r' dk' len o1 o2 o3, y_tx N ts = .inr (o1, o2, o3) → (∀ a, a ≠ 42 → a ≠ 44 → a < n → I' a = I a) → I' 42 1 = I 42 1 → y_lw I' (n + 1) n o1 o2 o3 → len = o1.length + o2.length + o3.length → (∀ a k, a < n → r' a k = r a k) → r' (n + 2) 0 = some (n + 1) → r' (n + 2) 1 = some n → (∀ a, a < n → dk' a = dk a) → dk' n = (100, 4) → dk' (n + 1) = (100, len) → dk' (n + 2) = (1, 0) → Q (some (.ref (n + 2))) (p_h L I' r' dk' (n + 3))) :
    q_wp (K + 10) c 3002 0 [.ref 42, q_jk, q_jk] [] (p_h L I r dk n) Q := by
  have hz : y_z (p_R r) (p_K L dk) := ⟨rfl, rfl, rfl, rfl, rfl, fun a a1 a2 => by
    unfold p_K
    rw [if_pos (by omega), if_neg (by omega)]⟩
  refine s_toLaw (zJ := p_J) hz hT hS hK (by omega) hc hx (fun I' f h1 h2 h3 h4 => ?_) (fun I' len o1 o2 o3 h1 h2 h3 h4 h5 h6 => ?_)
  · rw [J_nw hn, R_nw hn, K_nw hn]
    exact hF I' f h1 h2 h3 h4
  · rw [J_nw hn, J_nw (by omega), J_nw (by omega), R_nw hn, R_nw (by omega), R_nw (by omega), pRd (by omega), pRd (by omega), K_nw hn, K_nw (by omega), K_nw (by omega)]
    refine hO I' _ _ len o1 o2 o3 h1 h2 h3 h4 h5 (fun a k ha => ?_) ?_ ?_ (fun a ha => ?_) ?_ ?_ ?_
    · rw [q_up_a (by omega), q_up_a (by omega), nw_o (by omega), nw_o (by omega), nw_o (by omega)]
    · rw [q_up_k (by decide), q_up_same]
    · exact q_up_same
    · rw [nw_o (by omega), nw_o (by omega), nw_o (by omega)]
    · rw [nw_o (by omega), nw_o (by omega), nw_s]
    · rw [nw_o (by omega), nw_s]
    · exact nw_s
end
