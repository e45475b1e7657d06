theorem q_pI_m {st : List Value} {k k' : Int32 → List Value → Prop} (h : ∀ x r, k x r → k' x r) : q_pI st k → q_pI st k' := by
  unfold q_pI; split
  · exact h _ _
  · exact id
theorem q_pJ_m {st : List Value} {k k' : Int64 → List Value → Prop} (h : ∀ x r, k x r → k' x r) : q_pJ st k → q_pJ st k' := by
  unfold q_pJ; split
  · exact h _ _
  · exact id
theorem q_pR_m {st : List Value} {k k' : Nat → List Value → Prop} (h : ∀ x r, k x r → k' x r) : q_pR st k → q_pR st k' := by
  unfold q_pR; split
  · exact h _ _
  · exact id
theorem q_pA_m {st : List Value} {k k' : Value → List Value → Prop} (h : ∀ x r, k x r → k' x r) : q_pA st k → q_pA st k' := by
  unfold q_pA; split
  · exact h _ _
  · exact h _ _
  · exact id
theorem q_p1_m {st : List Value} {k k' : Value → List Value → Prop} (h : ∀ x r, k x r → k' x r) : q_p1 st k → q_p1 st k' := by
  unfold q_p1; split
  · exact And.imp_right (h _ _)
  · exact id
theorem q_lI_m {ls : List Value} {i : Nat} {k k' : Int32 → Prop} (h : ∀ x, k x → k' x) : q_lI ls i k → q_lI ls i k' := by
  unfold q_lI; split
  · exact h _
  · exact id
theorem q_lJ_m {ls : List Value} {i : Nat} {k k' : Int64 → Prop} (h : ∀ x, k x → k' x) : q_lJ ls i k → q_lJ ls i k' := by
  unfold q_lJ; split
  · exact h _
  · exact id
theorem q_lA_m {ls : List Value} {i : Nat} {k k' : Value → Prop} (h : ∀ x, k x → k' x) : q_lA ls i k → q_lA ls i k' := by
  unfold q_lA; split
  · exact h _
  · exact h _
  · exact id
theorem q_o_m {α : Type} {o : Option α} {k k' : α → Prop} (h : ∀ x, k x → k' x) : q_o o k → q_o o k' := by
  unfold q_o; split
  · exact h _
  · exact id
theorem q_oe_m {α : Type} {o : Option α} {k k' : α → Prop} {z z' : Prop} (h : ∀ x, k x → k' x) (hz : z → z') : q_oe o k z → q_oe o k' z' := by
  unfold q_oe; split
  · exact h _
  · exact hz
theorem q_ite_m {p a b a' b' : Prop} [Decidable p] (ha : a → a') (hb : b → b') : (if p then a else b) → (if p then a' else b') := by
  split
  · exact ha
  · exact hb
section QMono
variable {call call' : Nat → Nat → List Value → q_H → (Option Value → q_H → Prop) → Prop} {M : Nat} {X Y : Nat → Nat → List Value → List Value → q_H → Prop} {Q Q' : Option Value → q_H → Prop}
theorem q_call_m (hc : ∀ c M as h (P P' : Option Value → q_H → Prop), (∀ r h, P r h → P' r h) → call c M as h P → call' c M as h P') (hX : ∀ c pc ls st h, X c pc ls st h → Y c pc ls st h) {c pc : Nat} {ls : List Value} {h : q_H} {M' : Nat} {as rest : List Value} :
    q_call call X c pc ls h M' as rest → q_call call' Y c pc ls h M' as rest := fun ⟨a, b, d, e⟩ => ⟨a, b, d, hc _ _ _ _ _ _ (fun _ _ => hX _ _ _ _ _) e⟩
theorem q_copy_m (hX : ∀ c pc ls st h, X c pc ls st h → Y c pc ls st h) {c pc : Nat} {ls st : List Value} {h : q_H} : q_copy X c pc ls st h → q_copy Y c pc ls st h :=
  q_pI_m fun _ _ => q_pI_m fun _ _ => q_pR_m fun _ _ => q_pI_m fun _ _ => q_pR_m fun _ _ => And.imp_right (hX _ _ _ _ _)
set_option maxHeartbeats 1000000 in
theorem q_ins_m (hc : ∀ c M as h (P P' : Option Value → q_H → Prop), (∀ r h, P r h → P' r h) → call c M as h P → call' c M as h P') (hX : ∀ c pc ls st h, X c pc ls st h → Y c pc ls st h) (hQ : ∀ r h, Q r h → Q' r h) {c pc : Nat} {i : Instr} {n : Nat} {ls st : List Value} {h : q_H} :
    q_ins call M X Q c pc i n ls st h → q_ins call' M Y Q' c pc i n ls st h := by
  unfold q_ins
  split
  all_goals
    repeat' first
      | exact hX _ _ _ _ _
      | exact hQ _ _
      | exact id
      | exact q_call_m hc hX
      | exact q_copy_m hX
      | refine And.imp_right ?_
      | refine q_pI_m fun _ _ => ?_
      | refine q_pJ_m fun _ _ => ?_
      | refine q_pR_m fun _ _ => ?_
      | refine q_pA_m fun _ _ => ?_
      | refine q_p1_m fun _ _ => ?_
      | refine q_lI_m fun _ => ?_
      | refine q_lJ_m fun _ => ?_
      | refine q_lA_m fun _ => ?_
      | refine q_o_m fun _ => ?_
      | refine q_oe_m (fun _ => ?_) ?_
      | refine q_ite_m ?_ ?_
theorem q_step_m (hc : ∀ c M as h (P P' : Option Value → q_H → Prop), (∀ r h, P r h → P' r h) → call c M as h P → call' c M as h P') (hX : ∀ c pc ls st h, X c pc ls st h → Y c pc ls st h) (hQ : ∀ r h, Q r h → Q' r h) {c pc : Nat} {ls st : List Value} {h : q_H} :
    q_step call M X Q c pc ls st h → q_step call' M Y Q' c pc ls st h := by
  unfold q_step
  split
  · exact q_ins_m hc hX hQ
  · exact id
end QMono
abbrev q_cll (d : Nat) : Nat → Nat → List Value → q_H → (Option Value → q_H → Prop) → Prop := fun c M as h Q => q_wp d c M 0 (q_ent (q_md M).2.2.1 as) [] h Q
theorem q_wp_m : ∀ (d : Nat) {c M pc : Nat} {ls st : List Value} {h : q_H} {Q Q' : Option Value → q_H → Prop}, (∀ r h, Q r h → Q' r h) → q_wp d c M pc ls st h Q → q_wp d c M pc ls st h Q' := by
  intro d
  induction d with
  | zero => intro c M pc ls st h Q Q' _ hh; exact hh
  | succ d ih =>
    intro c M pc ls st h Q Q' hQ hh X hX
    refine hh X (fun c pc ls st h hs => hX c pc ls st h ?_)
    exact q_step_m (call := q_cll d) (call' := q_cll d) (fun c M as h P P' hP hh => ih hP hh) (fun _ _ _ _ _ hx => hx) hQ hs
theorem q_cll_m (d : Nat) : ∀ c M as h (P P' : Option Value → q_H → Prop), (∀ r h, P r h → P' r h) → q_cll d c M as h P → q_cll d c M as h P' := fun _ _ _ _ _ _ hP hh => q_wp_m d hP hh
theorem q_fold {d c M pc : Nat} {ls st : List Value} {h : q_H} {Q : Option Value → q_H → Prop} (hs : q_step (q_cll d) M (fun c pc ls st h => q_wp (d + 1) c M pc ls st h Q) Q c pc ls st h) : q_wp (d + 1) c M pc ls st h Q := by
  intro X hX
  exact hX c pc ls st h (q_step_m (call := q_cll d) (call' := q_cll d) (X := fun c pc ls st h => q_wp (d + 1) c M pc ls st h Q) (q_cll_m d) (fun c pc ls st h hx => hx X hX) (fun _ _ q => q) hs)
theorem q_unf {d c M pc : Nat} {ls st : List Value} {h : q_H} {Q : Option Value → q_H → Prop} : q_wp (d + 1) c M pc ls st h Q = q_step (q_cll d) M (fun c pc ls st h => q_wp (d + 1) c M pc ls st h Q) Q c pc ls st h := by
  refine propext ⟨fun hh => ?_, q_fold⟩
  refine hh (fun c pc ls st h => q_step (q_cll d) M (fun c pc ls st h => q_wp (d + 1) c M pc ls st h Q) Q c pc ls st h) (fun c pc ls st h hs => ?_)
  exact q_step_m (call := q_cll d) (call' := q_cll d) (X := fun c pc ls st h => q_step (q_cll d) M (fun c pc ls st h => q_wp (d + 1) c M pc ls st h Q) Q c pc ls st h) (Y := fun c pc ls st h => q_wp (d + 1) c M pc ls st h Q) (q_cll_m d) (fun c pc ls st h hx => q_fold hx) (fun _ _ q => q) hs
/-- an instruction of the method M -/
theorem q_at {d c M pc : Nat} {ls st : List Value} {h : q_H} {Q : Option Value → q_H → Prop} {i : Instr} {n : Nat} (hd : decode (q_md M).2.1 pc = .ok (i, n)) : q_wp (d + 1) c M pc ls st h Q = q_ins (q_cll d) M (fun c pc ls st h => q_wp (d + 1) c M pc ls st h Q) Q c pc i n ls st h := by
  rw [q_unf, q_step, hd]
