def q_east : List Int32 := [64, 59, 45, 24, 0, (-24), (-45), (-59), (-64), (-59), (-45), (-24), 0, 24, 45, 59]
def q_above : List Int32 := [(-1), 0, 0, 1, 0, 3]
def q_len : List Nat := [63, 5, 4, 4, 4, 5, 4, 2, 3, 3, 4, 4, 4]
def q_byt : List (List Int32) := [[108, 105, 102, 116, 32, 116, 105, 108, 116, 32, 45, 32, 54, 32, 43, 32, 115, 116, 105, 99, 107, 32, 59, 32, 116, 117, 114, 110, 32, 50, 32, 43, 32, 40, 115, 112, 105, 110, 32, 60, 32, 49, 48, 41, 32, 59, 32, 115, 108, 111, 119, 32, 49, 32, 43, 32, 115, 116, 105, 99, 107, 32, 59], [115, 112, 101, 101, 100], [115, 112, 105, 110], [116, 105, 108, 116], [104, 105, 103, 104], [115, 116, 105, 99, 107], [119, 105, 110, 100], [111, 114], [97, 110, 100], [110, 111, 116], [108, 105, 102, 116], [116, 117, 114, 110], [115, 108, 111, 119]]
def q_tm (i : Nat) : Term := match q_kS[i]? with
  | some e => .string (q_cn e.1) e.2.1
  | none => .string "" 0
def q_sK (L a : Nat) : Nat × Nat := if a = 0 then (100, 16) else if a = 1 then (100, 6) else if a = 2 then (100, L) else if a < 16 then (200, 0) else if a < 29 then (101, q_len.getD (a - 16) 0) else (300, 0)
def q_sI (xs : Nat → Int32) (a j : Nat) : Int32 := if a = 0 then q_east.getD j 0 else if a = 1 then q_above.getD j 0 else if a = 2 then xs j else if a < 16 then 0 else if a < 29 then (q_byt.getD (a - 16) []).getD j 0 else 0
/-- the start: the static rows, the script, the String constants -/
def q_h0 (L : Nat) (xs : Nat → Int32) : q_H := (q_sI xs, fun _ _ => 0, fun _ _ => none, q_sK L, 32)
abbrev q_flat : List Cond := flatC (Jvm.Cond.and given_1 narrow_1)
def q_ps : List Nat := [73, 140, 150, 160, 171, 183, 197, 211, 224, 239, 255, 273, 292]
theorem q_fl (i : Nat) {c : Cond} (h : q_flat[i]? = some c) : c ∈ q_flat := List.mem_of_getElem? h
set_option maxRecDepth 100000 in
theorem q_n_east : ∀ j, j < 16 → q_flat[21 + j]? = some (Cond.eq (.elem (.static "ComesBack$Flight" "EAST" "[I") (.int (Int32.ofNat j))) (.int (q_east.getD j 0))) := by decide +kernel
set_option maxRecDepth 100000 in
theorem q_n_above : ∀ j, j < 6 → q_flat[12 + j]? = some (Cond.eq (.elem (.static "ComesBack$Toss" "KIND_ABOVE" "[I") (.int (Int32.ofNat j))) (.int (q_above.getD j 0))) := by decide +kernel
set_option maxRecDepth 100000 in
theorem q_n_ea : q_flat[19]? = some (Cond.arrayOf (.static "ComesBack$Flight" "EAST" "[I") .int) ∧ q_flat[20]? = some (Cond.eq (.length (.static "ComesBack$Flight" "EAST" "[I")) (.int (Int32.ofNat 16))) := by decide +kernel
set_option maxRecDepth 100000 in
theorem q_n_ka : q_flat[10]? = some (Cond.arrayOf (.static "ComesBack$Toss" "KIND_ABOVE" "[I") .int) ∧ q_flat[11]? = some (Cond.eq (.length (.static "ComesBack$Toss" "KIND_ABOVE" "[I")) (.int (Int32.ofNat 6))) := by decide +kernel
set_option maxRecDepth 100000 in
theorem q_n_cs : q_flat[4]? = some (Cond.eq (.static "java/lang/String" "COMPACT_STRINGS" "Z") (.int 1)) ∧ q_flat[5]? = some (Cond.isRef (.static "jdk/internal/util/Preconditions" "SIOOBE_FORMATTER" "Ljava/util/function/BiFunction;")) := by decide +kernel
set_option maxRecDepth 100000 in
theorem q_n_s1 : ∀ i, i < 13 → (q_flat[q_ps.getD i 0]? = some (Cond.exactly (q_tm i) "java/lang/String") ∧ q_flat[q_ps.getD i 0 + 1]? = some (Cond.eq (.field (q_tm i) "java/lang/String" "coder" "B") (.int 0)) ∧ q_flat[q_ps.getD i 0 + 2]? = some (Cond.arrayOf (.field (q_tm i) "java/lang/String" "value" "[B") .byte) ∧ q_flat[q_ps.getD i 0 + 3]? = some (Cond.eq (.length (.field (q_tm i) "java/lang/String" "value" "[B")) (.int (Int32.ofNat (q_len.getD i 0))))) := by decide +kernel
set_option maxRecDepth 100000 in
theorem q_n_s2 : ∀ i, i < 13 → ∀ j, j < q_len.getD i 0 → q_flat[q_ps.getD i 0 + 4 + j]? = some (Cond.eq (.elem (.field (q_tm i) "java/lang/String" "value" "[B") (.int (Int32.ofNat j))) (.int ((q_byt.getD i []).getD j 0))) := by decide +kernel
/-- the String constants, by their places -/
theorem q_Sof {args : Array Value} {s : State} {N : Nat} {tm : Nat → Term} {len : List Nat} {byt : List (List Int32)} {A : Nat → Prop} (hN : ∀ i : Nat, i < N → len.getD i 0 < 2 ^ 31) (hex : ∀ i : Nat, i < N → (Cond.exactly (tm i) "java/lang/String").before args s = true) (hco : ∀ i : Nat, i < N → (Cond.eq (.field (tm i) "java/lang/String" "coder" "B") (.int 0)).before args s = true)
    (har : ∀ i : Nat, i < N → (Cond.arrayOf (.field (tm i) "java/lang/String" "value" "[B") .byte).before args s = true) (hle : ∀ i : Nat, i < N → (Cond.eq (.length (.field (tm i) "java/lang/String" "value" "[B")) (.int (Int32.ofNat (len.getD i 0)))).before args s = true)
    (hel : ∀ i : Nat, i < N → ∀ j : Nat, j < len.getD i 0 → (Cond.eq (.elem (.field (tm i) "java/lang/String" "value" "[B") (.int (Int32.ofNat j))) (.int ((byt.getD i []).getD j 0))).before args s = true) (hA : ∀ a : Nat, a < s.heap.size → ¬ A a) :
    ∃ adK adV : Nat → Nat, ∀ i : Nat, i < N → (tm i).eval args s none [] s = some (.ref (adK i)) ∧ va_O "java/lang/String" (adK i) A s s.heap ∧ va_OF "java/lang/String" "coder" "B" (.int 0) (adK i) A s s.heap ∧ va_OF "java/lang/String" "value" "[B" (.ref (adV i)) (adK i) A s s.heap ∧ va_T .byte (adV i) (len.getD i 0) (fun j => .int ((byt.getD i []).getD j 0)) A s s.heap := by
  have h0 : ∀ i : Nat, ∃ q : Nat × Nat, i < N → (tm i).eval args s none [] s = some (.ref q.1) ∧ va_O "java/lang/String" q.1 A s s.heap ∧ va_OF "java/lang/String" "coder" "B" (.int 0) q.1 A s s.heap ∧ va_OF "java/lang/String" "value" "[B" (.ref q.2) q.1 A s s.heap ∧ va_T .byte q.2 (len.getD i 0) (fun j => .int ((byt.getD i []).getD j 0)) A s s.heap := by
    intro i
    by_cases hi : i < N
    · obtain ⟨a, c, cA, kA, q1, q2, q3, q4, q5, q6, -⟩ := Cond.exactly_spec (args := args) (first := s) (o := none) (s := s) (idx := []) (t := tm i) (cls := "java/lang/String") (hex i hi)
      obtain ⟨t, ht, hT⟩ := va_Tof (f := fun j => .int ((byt.getD i []).getD j 0)) (A := A) (hN i hi) (har i hi) (va_eqt (hle i hi)) (fun j hj => va_eqt (hel i hi j hj)) hA
      exact ⟨(a, t), fun _ => ⟨q1, ⟨cA, q3, q5, by rw [q6]; exact q2, hA a (Array.getElem?_eq_some_iff.mp q3).1⟩, vk_OFof q1 (va_eqt (hco i hi)) hA, vk_OFof q1 ht hA, hT⟩⟩
    · exact ⟨(0, 0), fun h => absurd h hi⟩
  obtain ⟨ad, had⟩ := Classical.axiomOfChoice h0
  exact ⟨fun i => (ad i).1, fun i => (ad i).2, had⟩
theorem q_n_len : ∀ i, i < 13 → q_len.getD i 0 < 2 ^ 31 := by decide +kernel
