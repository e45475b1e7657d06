def q_east : List Int32 := [64, 59, 45, 24, 0, (-24), (-45), (-59), (-64), (-59), (-45), (-24), 0, 24, 45, 59]
def q_above : List Int32 := [(-1), 0, 0, 1, 0, 3]
def q_len : List Nat := [63, 5, 4, 4, 4, 5, 4, 2, 3, 3, 4, 4, 4]
def q_byt : List (List Int32) := [[108, 105, 102, 116, 32, 116, 105, 108, 116, 32, 45, 32, 54, 32, 43, 32, 115, 116, 105, 99, 107, 32, 59, 32, 116, 117, 114, 110, 32, 50, 32, 43, 32, 40, 115, 112, 105, 110, 32, 60, 32, 49, 48, 41, 32, 59, 32, 115, 108, 111, 119, 32, 49, 32, 43, 32, 115, 116, 105, 99, 107, 32, 59], [115, 112, 101, 101, 100], [115, 112, 105, 110], [116, 105, 108, 116], [104, 105, 103, 104], [115, 116, 105, 99, 107], [119, 105, 110, 100], [111, 114], [97, 110, 100], [110, 111, 116], [108, 105, 102, 116], [116, 117, 114, 110], [115, 108, 111, 119]]
def q_tm (i : Nat) : Term := match q_kS[i]? with
  | some e => .string (q_cn e.1) e.2.1
  | none => .string "" 0
def q_sK (L a : Nat) : Nat × Nat := if a = 0 then (100, 16) else if a = 1 then (100, 6) else if a = 2 then (100, L) else if a < 16 then (200, 0) else if a < 29 then (101, q_len.getD (a - 16) 0) else (300, 0)
def q_sI (xs : Nat → Int32) (a j : Nat) : Int32 := if a = 0 then q_east.getD j 0 else if a = 1 then q_above.getD j 0 else if a = 2 then xs j else if a < 16 then 0 else if a < 29 then (q_byt.getD (a - 16) []).getD j 0 else 0
/-- the start: the static rows, the script, the String constants -/
def q_h0 (L : Nat) (xs : Nat → Int32) : q_H := (q_sI xs, fun _ _ => 0, fun _ _ => none, q_sK L, 32)
abbrev q_flat : List Cond := flatC (Jvm.Cond.and given_1 narrow_1)
set_option maxRecDepth 100000 in
theorem q_n_east : ∀ j, j < 16 → Cond.eq (.elem (.static "ComesBack$Flight" "EAST" "[I") (.int (Int32.ofNat j))) (.int (q_east.getD j 0)) ∈ q_flat := by decide +kernel
set_option maxRecDepth 100000 in
theorem q_n_above : ∀ j, j < 6 → Cond.eq (.elem (.static "ComesBack$Toss" "KIND_ABOVE" "[I") (.int (Int32.ofNat j))) (.int (q_above.getD j 0)) ∈ q_flat := by decide +kernel
set_option maxRecDepth 100000 in
theorem q_n_ea : Cond.arrayOf (.static "ComesBack$Flight" "EAST" "[I") .int ∈ q_flat ∧ Cond.eq (.length (.static "ComesBack$Flight" "EAST" "[I")) (.int (Int32.ofNat 16)) ∈ q_flat := by decide +kernel
set_option maxRecDepth 100000 in
theorem q_n_ka : Cond.arrayOf (.static "ComesBack$Toss" "KIND_ABOVE" "[I") .int ∈ q_flat ∧ Cond.eq (.length (.static "ComesBack$Toss" "KIND_ABOVE" "[I")) (.int (Int32.ofNat 6)) ∈ q_flat := by decide +kernel
set_option maxRecDepth 100000 in
theorem q_n_cs : Cond.eq (.static "java/lang/String" "COMPACT_STRINGS" "Z") (.int 1) ∈ q_flat ∧ Cond.isRef (.static "jdk/internal/util/Preconditions" "SIOOBE_FORMATTER" "Ljava/util/function/BiFunction;") ∈ q_flat := by decide +kernel
set_option maxRecDepth 100000 in
theorem q_n_s1 : ∀ i, i < 13 → (Cond.exactly (q_tm i) "java/lang/String" ∈ q_flat ∧ Cond.eq (.field (q_tm i) "java/lang/String" "coder" "B") (.int 0) ∈ q_flat ∧ Cond.arrayOf (.field (q_tm i) "java/lang/String" "value" "[B") .byte ∈ q_flat ∧ Cond.eq (.length (.field (q_tm i) "java/lang/String" "value" "[B")) (.int (Int32.ofNat (q_len.getD i 0))) ∈ q_flat) := by decide +kernel
set_option maxRecDepth 100000 in
theorem q_n_s2 : ∀ i, i < 13 → ∀ j, j < q_len.getD i 0 → Cond.eq (.elem (.field (q_tm i) "java/lang/String" "value" "[B") (.int (Int32.ofNat j))) (.int ((q_byt.getD i []).getD j 0)) ∈ q_flat := by decide +kernel
set_option maxRecDepth 100000 in
theorem q_n_s3 : ∀ i, i < 13 → ∀ j, j < 13 → i ≠ j → (Cond.not (Cond.eq (q_tm i) (q_tm j)) ∈ q_flat ∨ Cond.not (Cond.eq (q_tm j) (q_tm i)) ∈ q_flat) := by decide +kernel
theorem q_n_len : ∀ i, i < 13 → q_len.getD i 0 < 2 ^ 31 := by decide +kernel
