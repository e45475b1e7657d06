/-! WHAT IS ANSWERED, as functions of M, the model's own int memory (cells 135 .. 178) -/
def p_sm (f : Nat → Int32) : Nat → Int32
  | 0 => 0
  | k + 1 => p_sm f k + f k
def p_or (f : Nat → Int32) : Nat → Int32
  | 0 => 0
  | k + 1 => p_or f k ||| ((1 : Int32) <<< (f k &&& 31))
/-- a sum goes on from what it is -/
def p_pc (M : Nat → Nat → Int32) (s : Nat) : Nat := (M 137 s).toNatClampNeg
def p_tm (M : Nat → Nat → Int32) (s w p : Nat) : Int32 :=
  if w = 0 then M 140 (6 * s + p) * M 139 (6 * s + p) else if w = 1 then M 141 (6 * s + p) * M 139 (6 * s + p)
  else if w = 2 then M 142 (6 * s + p) else M 142 (6 * s + p) * M 139 (6 * s + p) * M 139 (6 * s + p)
def p_bits (a : Int32) : Int32 := (a &&& 1) + (a >>> ((1 : Int32) &&& 31) &&& 1) + (a >>> ((2 : Int32) &&& 31) &&& 1) + (a >>> ((3 : Int32) &&& 31) &&& 1)
def p_sum (M : Nat → Nat → Int32) (s w : Nat) : Int32 :=
  if w < 4 then p_sm (p_tm M s w) (p_pc M s) else p_bits (p_or (fun p => M 138 (6 * s + p)) (p_pc M s))
def p_wd (M : Nat → Nat → Int32) (z : Int32) : Int32 := M 135 8 + M 135 9 * z / 20
def p_si (M : Nat → Nat → Int32) (i : Nat) : Nat := (M 144 i).toNatClampNeg
def p_all (M : Nat → Nat → Int32) (s : Nat) : Int32 := if p_sum M s 2 < 1 then 1 else p_sum M s 2
def p_share (M : Nat → Nat → Int32) (s part : Nat) : Int32 := if part = 1 then p_sum M s 4 else p_sum M s (if part = 0 then 0 else 1) / p_all M s
def p_clp (v lo hi : Int32) : Int32 := if v < lo then lo else if hi < v then hi else v
/-- the law's signs -/
def p_two (c a b : Int32) : Int32 :=
  if c = 11 then (if a = 0 then (if b = 0 then 0 else 1) else 1)
  else if c = 12 then (if a = 0 then 0 else if b = 0 then 0 else 1)
  else if c = 14 then (if a < b then 1 else 0)
  else if c = 15 then (if a = b then 1 else 0)
  else if c = 16 then a + b
  else if c = 17 then a - b
  else a * b
def p_op (c : Int32) (nm : Nat → Int32) (st : List Int32) : List Int32 :=
  if c < 11 then nm c.toNatClampNeg :: st
  else if 100000 ≤ c then (c - 100000) :: st
  else if c = 13 then (match st with | a :: t => (if a = 0 then 1 else 0) :: t | [] => [])
  else if c = 19 then (match st with | a :: t => -a :: t | [] => [])
  else match st with | b :: a :: t => p_two c a b :: t | s => s
def p_run (cd nm : Nat → Int32) : Nat → Nat → List Int32 → List Int32
  | 0, _, st => st
  | m + 1, k, st => p_run cd nm m (k + 1) (p_op (cd k) nm st)
def p_isp (c : Int32) : Prop := (0 ≤ c ∧ c ≤ 5) ∨ (100000 ≤ c ∧ c ≤ 109999)
def p_isb (c : Int32) : Prop := c = 11 ∨ c = 12 ∨ c = 14 ∨ c = 15 ∨ c = 16 ∨ c = 17 ∨ c = 18
def p_wfr (cd : Nat → Int32) : Nat → Nat → Nat → Prop
  | 0, _, d => d = 1
  | m + 1, k, d => (p_isp (cd k) ∧ p_wfr cd m (k + 1) (d + 1)) ∨ ((cd k = 13 ∨ cd k = 19) ∧ 1 ≤ d ∧ p_wfr cd m (k + 1) d) ∨ (p_isb (cd k) ∧ 2 ≤ d ∧ p_wfr cd m (k + 1) (d - 1))
/-- where the part j of the law t begins -/
def p_at (M : Nat → Nat → Int32) (t j : Nat) : Nat := (M 154 (4 * t + j)).toNatClampNeg
def p_cd (M : Nat → Nat → Int32) (t : Nat) : Nat → Int32 := fun k => M 153 (200 * t + k)
def p_rl (M : Nat → Nat → Int32) : Nat := (M 135 26).toNatClampNeg
def p_val (M : Nat → Nat → Int32) (part : Nat) (nm : Nat → Int32) : Int32 :=
  (p_run (p_cd M (p_rl M)) nm (p_at M (p_rl M) (part + 1) - p_at M (p_rl M) part) (p_at M (p_rl M) part) []).headD 0
/-- a tick: X, Y, HEIGHT, WAY, PACE, SPIN, TILT -/
def p_nm (M : Nat → Nat → Int32) (i part : Nat) (S : Nat → Int32) : Nat → Int32
  | 0 => S 4
  | 1 => S 5
  | 2 => S 6
  | 3 => S 2
  | 4 => p_share M (p_si M i) part
  | _ => p_wd M (S 2)
def p_says (M : Nat → Nat → Int32) (i part : Nat) (S : Nat → Int32) : Int32 := p_val M part (p_nm M i part S)
def p_up (M : Nat → Nat → Int32) (i k : Nat) (S : Nat → Int32) : Int32 :=
  let v := p_clp (p_says M i 0 S) (-9) 9
  if M 143 i = 4 then (if k < 5 then v + M 149 i % 4 else v - 1) else if M 143 i = 5 then (if v < -1 then -1 else v) else v
def p_turn (M : Nat → Nat → Int32) (i : Nat) (S : Nat → Int32) : Int32 :=
  let v := p_clp (p_says M i 1 S) (-8) 8
  if M 143 i = 1 ∨ M 143 i = 3 ∨ M 143 i = 5 then v + M 149 i % 3 else v
def p_less (M : Nat → Nat → Int32) (i k : Nat) (S : Nat → Int32) : Int32 :=
  let v := p_clp (p_says M i 2 S) 0 9
  if M 143 i = 2 then (if M 149 i ≤ Int32.ofNat k then v + 2 else v) else v
def p_hi (M : Nat → Nat → Int32) (i : Nat) : Int32 := 6 + (if M 143 i = 3 ∨ M 143 i = 5 then M 149 i else 0)
def p_nx (M : Nat → Nat → Int32) (i : Nat) (mir : Bool) (k : Nat) (S : Nat → Int32) : Nat → Int32
  | 0 => S 0 + M 136 (S 3 / 4).toNatClampNeg * S 4 / 64
  | 1 => S 1 + M 136 ((S 3 / 4 + 12) % 16).toNatClampNeg * S 4 / 64 + p_wd M (S 2)
  | 2 => if S 2 + p_up M i k S - 1 < 0 then 0 else S 2 + p_up M i k S - 1
  | 3 => (S 3 + (if mir = true then - p_turn M i S else p_turn M i S) + 640) % 64
  | 4 => if S 4 - p_less M i k S < 0 then 0 else S 4 - p_less M i k S
  | 5 => if 0 < S 5 then S 5 - 1 else S 5
  | 6 => if k % 3 = 2 ∧ 0 < S 6 then S 6 - 1 else S 6
  | _ => 0
def p_s0 (M : Nat → Nat → Int32) (i : Nat) (w p : Int32) : Nat → Int32
  | 0 => 0
  | 1 => 0
  | 2 => p_hi M i
  | 3 => w
  | 4 => p
  | 5 => M 148 i
  | 6 => M 147 i
  | _ => 0
def p_row (M : Nat → Nat → Int32) (i : Nat) (w p : Int32) (mir : Bool) : Nat → Nat → Int32
  | 0 => p_s0 M i w p
  | k + 1 => p_nx M i mir k (p_row M i w p mir k)
/-- from the tick k on: the first that lies, or 40 -/
def p_ls (R : Nat → Nat → Int32) : Nat → Nat → Nat
  | 0, k => k
  | m + 1, k => if R k 2 = 0 then k else p_ls R m (k + 1)
def p_last (R : Nat → Nat → Int32) : Nat := p_ls R 40 0
def p_off (S : Nat → Int32) : Int32 := S 0 * S 0 + S 1 * S 1
