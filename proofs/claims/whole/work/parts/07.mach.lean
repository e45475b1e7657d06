/-! THE ABSTRACT MACHINE. A heap: ints, longs, references by cell and place; kind and length of a cell; the next address. -/
abbrev q_H : Type := (Nat → Nat → Int32) × (Nat → Nat → Int64) × (Nat → Nat → Option Nat) × (Nat → Nat × Nat) × Nat
def q_up {α : Type} (f : Nat → Nat → α) (a k : Nat) (v : α) : Nat → Nat → α := fun b j => if b = a ∧ j = k then v else f b j
def q_nw {α : Type} (f : Nat → α) (a : Nat) (v : α) : Nat → α := fun b => if b = a then v else f b
def q_jk : Value := .retAddr 0
def q_pI (st : List Value) (k : Int32 → List Value → Prop) : Prop := match st with
  | .int x :: r => k x r
  | _ => False
def q_pJ (st : List Value) (k : Int64 → List Value → Prop) : Prop := match st with
  | .long x :: r => k x r
  | _ => False
def q_pR (st : List Value) (k : Nat → List Value → Prop) : Prop := match st with
  | .ref x :: r => k x r
  | _ => False
def q_pA (st : List Value) (k : Value → List Value → Prop) : Prop := match st with
  | .ref x :: r => k (.ref x) r
  | .null :: r => k .null r
  | _ => False
def q_p1 (st : List Value) (k : Value → List Value → Prop) : Prop := match st with
  | v :: r => v.category = 1 ∧ k v r
  | _ => False
def q_lI (ls : List Value) (i : Nat) (k : Int32 → Prop) : Prop := match ls[i]? with
  | some (.int x) => k x
  | _ => False
def q_lJ (ls : List Value) (i : Nat) (k : Int64 → Prop) : Prop := match ls[i]? with
  | some (.long x) => k x
  | _ => False
def q_lA (ls : List Value) (i : Nat) (k : Value → Prop) : Prop := match ls[i]? with
  | some (.ref x) => k (.ref x)
  | some .null => k .null
  | _ => False
def q_nl (ls : List Value) (i : Nat) : Prop := match i with
  | 0 => True
  | i + 1 => match ls[i]? with
    | some v => v.category = 1
    | none => True
def q_o {α : Type} (o : Option α) (k : α → Prop) : Prop := match o with
  | some a => k a
  | none => False
def q_oe {α : Type} (o : Option α) (k : α → Prop) (z : Prop) : Prop := match o with
  | some a => k a
  | none => z
def q_tg (pc : Nat) (off : Int) : Nat := ((pc : Int) + off).toNat
def q_isR (ci k : Nat) : Bool := match q_tyf ci k with
  | .object _ => true
  | .array _ => true
  | _ => false
def q_fin (ci k : Nat) : Bool := (q_TT ci k).2.2.2
def q_fv (ci k : Nat) (h : q_H) (a : Nat) : Value := if q_isR ci k = true then va_rf (h.2.2.1 a k) else .int (h.1 a k)
def q_vr (v : Value) : Option Nat := match v with
  | .ref b => some b
  | _ => none
def q_rok (v : Value) : Prop := match v with
  | .ref b => 32 ≤ b
  | _ => True
/-- a final field is put by the constructor of its class alone -/
def q_fok (M ci k : Nat) : Bool := !q_fin ci k || (decide ((q_md M).1.name = "<init>") && decide (M / 1000 = ci))
/-- how many cells a method may make -/
def q_al (M : Nat) : Nat := match M with
  | 7000 => 110
  | 0 => 11
  | 2000 => 4
  | 3000 => 2
  | 4000 => 1
  | 5000 => 10
  | 8000 => 70
  | 3002 => 3
  | 7011 => 3
  | 7007 => 1
  | _ => 0
def q_kc (t : Nat) : Nat := if t = 11 then 200 else t
def q_cs (vs : List Value) : Nat := (vs.map fun v => v.category).sum
def q_ent : Nat → List Value → List Value
  | m, [] => List.replicate m q_jk
  | m, v :: vs => if v.category = 2 then v :: q_jk :: q_ent (m - 2) vs else v :: q_ent (m - 1) vs
def q_mal (h : q_H) (k len : Nat) : q_H := (q_nw h.1 h.2.2.2.2 (fun _ => 0), q_nw h.2.1 h.2.2.2.2 (fun _ => 0), q_nw h.2.2.1 h.2.2.2.2 (fun _ => none), q_nw h.2.2.2.1 h.2.2.2.2 (k, len), h.2.2.2.2 + 1)
/-- new int[N][L] -/
def q_mal2 (h : q_H) (N L : Nat) : q_H :=
  (fun b => if h.2.2.2.2 ≤ b ∧ b ≤ h.2.2.2.2 + N then (fun _ => 0) else h.1 b,
   fun b => if h.2.2.2.2 ≤ b ∧ b ≤ h.2.2.2.2 + N then (fun _ => 0) else h.2.1 b,
   fun b => if h.2.2.2.2 ≤ b ∧ b ≤ h.2.2.2.2 + N then (fun j => if b = h.2.2.2.2 ∧ j < N then some (h.2.2.2.2 + 1 + j) else none) else h.2.2.1 b,
   fun b => if h.2.2.2.2 ≤ b ∧ b ≤ h.2.2.2.2 + N then (if b = h.2.2.2.2 then (103, N) else (100, L)) else h.2.2.2.1 b,
   h.2.2.2.2 + 1 + N)
def q_ak (t : ArrayType) : Option Nat := match t with
  | .int => some 100
  | .byte => some 101
  | .long => some 102
  | _ => none
section QM
variable (call : Nat → Nat → List Value → q_H → (Option Value → q_H → Prop) → Prop) (M : Nat) (X : Nat → Nat → List Value → List Value → q_H → Prop) (Q : Option Value → q_H → Prop)
def q_call (c pc : Nat) (ls : List Value) (h : q_H) (M' : Nat) (as rest : List Value) : Prop :=
  q_cs rest ≤ 8 ∧ q_cs as ≤ (q_md M').2.2.1 ∧ q_al M' ≤ c ∧ call (q_al M') M' as h (fun r h' => X (c - q_al M') (pc + 3) ls (r.toList ++ rest) h')
def q_copy (c pc : Nat) (ls st : List Value) (h : q_H) : Prop :=
  q_pI st fun n st => q_pI st fun dp st => q_pR st fun d st => q_pI st fun sp st => q_pR st fun s st =>
    (32 ≤ s ∧ 32 ≤ d ∧ (h.2.2.2.1 s).1 = 100 ∧ (h.2.2.2.1 d).1 = 100 ∧ (¬ sp < 0 ∧ ¬ dp < 0 ∧ ¬ n < 0) ∧ sp.toNatClampNeg + n.toNatClampNeg ≤ (h.2.2.2.1 s).2 ∧ dp.toNatClampNeg + n.toNatClampNeg ≤ (h.2.2.2.1 d).2 ∧ q_cs st ≤ 8) ∧
    X c (pc + 3) ls st (q_nw h.1 d (va_cpy (h.1 s) (h.1 d) sp.toNatClampNeg dp.toNatClampNeg n.toNatClampNeg), h.2)
def q_ins (c pc : Nat) (i : Instr) (n : Nat) (ls st : List Value) (h : q_H) : Prop :=
  match i with
  | .iconst v => n = 1 ∧ X c (pc + 1) ls (.int (Int32.ofInt v) :: st) h
  | .lconst v => n = 1 ∧ X c (pc + 1) ls (.long (Int64.ofNat (v : Nat)) :: st) h
  | .bipush v => n = 2 ∧ X c (pc + 2) ls (.int (Int8.ofInt v).toInt32 :: st) h
  | .sipush v => n = 3 ∧ X c (pc + 3) ls (.int (Int16.ofInt v).toInt32 :: st) h
  | .aconst_null => n = 1 ∧ X c (pc + 1) ls (.null :: st) h
  | .ldc k => n = 2 ∧ q_oe (q_ki (M / 1000) k) (fun e => X c (pc + 2) ls (.int e.1 :: st) h) (q_o (q_ks (M / 1000) k) fun j => X c (pc + 2) ls (.ref (3 + j) :: st) h)
  | .ldc_w k => n = 3 ∧ q_o (q_ki (M / 1000) k) fun e => X c (pc + 3) ls (.int e.1 :: st) h
  | .ldc2_w k => n = 3 ∧ q_o (q_kj (M / 1000) k) fun e => X c (pc + 3) ls (.long e.1 :: st) h
  | .iload k => n = 2 ∧ q_lI ls k fun x => X c (pc + 2) ls (.int x :: st) h
  | .iload_n k => n = 1 ∧ q_lI ls k fun x => X c (pc + 1) ls (.int x :: st) h
  | .lload k => n = 2 ∧ q_lJ ls k fun x => X c (pc + 2) ls (.long x :: st) h
  | .lload_n k => n = 1 ∧ q_lJ ls k fun x => X c (pc + 1) ls (.long x :: st) h
  | .aload k => n = 2 ∧ q_lA ls k fun x => X c (pc + 2) ls (x :: st) h
  | .aload_n k => n = 1 ∧ q_lA ls k fun x => X c (pc + 1) ls (x :: st) h
  | .istore k => n = 2 ∧ q_pI st fun x r => (k < ls.length ∧ q_nl ls k) ∧ X c (pc + 2) (ls.set k (.int x)) r h
  | .istore_n k => n = 1 ∧ q_pI st fun x r => (k < ls.length ∧ q_nl ls k) ∧ X c (pc + 1) (ls.set k (.int x)) r h
  | .lstore k => n = 2 ∧ q_pJ st fun x r => (k + 1 < ls.length ∧ q_nl ls k) ∧ X c (pc + 2) ((ls.set k (.long x)).set (k + 1) q_jk) r h
  | .lstore_n k => n = 1 ∧ q_pJ st fun x r => (k + 1 < ls.length ∧ q_nl ls k) ∧ X c (pc + 1) ((ls.set k (.long x)).set (k + 1) q_jk) r h
  | .astore k => n = 2 ∧ q_pA st fun x r => (k < ls.length ∧ q_nl ls k) ∧ X c (pc + 2) (ls.set k x) r h
  | .astore_n k => n = 1 ∧ q_pA st fun x r => (k < ls.length ∧ q_nl ls k) ∧ X c (pc + 1) (ls.set k x) r h
  | .iinc k v => n = 3 ∧ q_lI ls k fun x => X c (pc + 3) (ls.set k (.int (x + Int32.ofInt v))) st h
  | .iadd => n = 1 ∧ q_pI st fun y st => q_pI st fun x st => X c (pc + 1) ls (.int (x + y) :: st) h
  | .isub => n = 1 ∧ q_pI st fun y st => q_pI st fun x st => X c (pc + 1) ls (.int (x - y) :: st) h
  | .imul => n = 1 ∧ q_pI st fun y st => q_pI st fun x st => X c (pc + 1) ls (.int (x * y) :: st) h
  | .idiv => n = 1 ∧ q_pI st fun y st => q_pI st fun x st => ¬ y = 0 ∧ X c (pc + 1) ls (.int (x / y) :: st) h
  | .irem => n = 1 ∧ q_pI st fun y st => q_pI st fun x st => ¬ y = 0 ∧ X c (pc + 1) ls (.int (x % y) :: st) h
  | .ineg => n = 1 ∧ q_pI st fun x st => X c (pc + 1) ls (.int (-x) :: st) h
  | .iand => n = 1 ∧ q_pI st fun y st => q_pI st fun x st => X c (pc + 1) ls (.int (x &&& y) :: st) h
  | .ior => n = 1 ∧ q_pI st fun y st => q_pI st fun x st => X c (pc + 1) ls (.int (x ||| y) :: st) h
  | .ixor => n = 1 ∧ q_pI st fun y st => q_pI st fun x st => X c (pc + 1) ls (.int (x ^^^ y) :: st) h
  | .ishl => n = 1 ∧ q_pI st fun y st => q_pI st fun x st => X c (pc + 1) ls (.int (x <<< (y &&& 31)) :: st) h
  | .ishr => n = 1 ∧ q_pI st fun y st => q_pI st fun x st => X c (pc + 1) ls (.int (x >>> (y &&& 31)) :: st) h
  | .iushr => n = 1 ∧ q_pI st fun y st => q_pI st fun x st => X c (pc + 1) ls (.int (x.toUInt32 >>> (y.toUInt32 &&& Int32.toUInt32 31)).toInt32 :: st) h
  | .i2l => n = 1 ∧ q_pI st fun x st => X c (pc + 1) ls (.long x.toInt64 :: st) h
  | .i2b => n = 1 ∧ q_pI st fun x st => X c (pc + 1) ls (.int x.toInt8.toInt32 :: st) h
  | .i2s => n = 1 ∧ q_pI st fun x st => X c (pc + 1) ls (.int x.toInt16.toInt32 :: st) h
  | .i2c => n = 1 ∧ q_pI st fun x st => X c (pc + 1) ls (.int (x.toUInt32 % 65536).toInt32 :: st) h
  | .l2i => n = 1 ∧ q_pJ st fun x st => X c (pc + 1) ls (.int x.toInt32 :: st) h
  | .ladd => n = 1 ∧ q_pJ st fun y st => q_pJ st fun x st => X c (pc + 1) ls (.long (x + y) :: st) h
  | .lmul => n = 1 ∧ q_pJ st fun y st => q_pJ st fun x st => X c (pc + 1) ls (.long (x * y) :: st) h
  | .ldiv => n = 1 ∧ q_pJ st fun y st => q_pJ st fun x st => ¬ y = 0 ∧ X c (pc + 1) ls (.long (x / y) :: st) h
  | .lrem => n = 1 ∧ q_pJ st fun y st => q_pJ st fun x st => ¬ y = 0 ∧ X c (pc + 1) ls (.long (x % y) :: st) h
  | .land => n = 1 ∧ q_pJ st fun y st => q_pJ st fun x st => X c (pc + 1) ls (.long (x &&& y) :: st) h
  | .lor => n = 1 ∧ q_pJ st fun y st => q_pJ st fun x st => X c (pc + 1) ls (.long (x ||| y) :: st) h
  | .lshl => n = 1 ∧ q_pI st fun y st => q_pJ st fun x st => X c (pc + 1) ls (.long (x <<< (y.toInt64 &&& 63)) :: st) h
  | .lshr => n = 1 ∧ q_pI st fun y st => q_pJ st fun x st => X c (pc + 1) ls (.long (x >>> (y.toInt64 &&& 63)) :: st) h
  | .lushr => n = 1 ∧ q_pI st fun y st => q_pJ st fun x st => X c (pc + 1) ls (.long (x.toUInt64 >>> (y.toInt64.toUInt64 &&& Int64.toUInt64 63)).toInt64 :: st) h
  | .lcmp => n = 1 ∧ q_pJ st fun y st => q_pJ st fun x st => X c (pc + 1) ls (.int (lg_cmp x y) :: st) h
  | .dup => n = 1 ∧ q_p1 st fun v r => X c (pc + 1) ls (v :: v :: r) h
  | .pop => n = 1 ∧ q_p1 st fun _ r => X c (pc + 1) ls r h
  | .dup_x1 => n = 1 ∧ q_p1 st fun v r => q_p1 r fun w r => X c (pc + 1) ls (v :: w :: v :: r) h
  | .dup2 => n = 1 ∧ q_p1 st fun v r => q_p1 r fun w r => X c (pc + 1) ls (v :: w :: v :: w :: r) h
  | .goto off => n = 3 ∧ 0 ≤ (pc : Int) + off ∧ X c (q_tg pc off) ls st h
  | .ifCond .eq off => n = 3 ∧ 0 ≤ (pc : Int) + off ∧ q_pI st fun x r => if x = 0 then X c (q_tg pc off) ls r h else X c (pc + 3) ls r h
  | .ifCond .ne off => n = 3 ∧ 0 ≤ (pc : Int) + off ∧ q_pI st fun x r => if x = 0 then X c (pc + 3) ls r h else X c (q_tg pc off) ls r h
  | .ifCond .lt off => n = 3 ∧ 0 ≤ (pc : Int) + off ∧ q_pI st fun x r => if x < 0 then X c (q_tg pc off) ls r h else X c (pc + 3) ls r h
  | .ifCond .ge off => n = 3 ∧ 0 ≤ (pc : Int) + off ∧ q_pI st fun x r => if 0 ≤ x then X c (q_tg pc off) ls r h else X c (pc + 3) ls r h
  | .ifCond .gt off => n = 3 ∧ 0 ≤ (pc : Int) + off ∧ q_pI st fun x r => if 0 < x then X c (q_tg pc off) ls r h else X c (pc + 3) ls r h
  | .ifCond .le off => n = 3 ∧ 0 ≤ (pc : Int) + off ∧ q_pI st fun x r => if x ≤ 0 then X c (q_tg pc off) ls r h else X c (pc + 3) ls r h
  | .if_icmp .eq off => n = 3 ∧ 0 ≤ (pc : Int) + off ∧ q_pI st fun y r => q_pI r fun x r => if x = y then X c (q_tg pc off) ls r h else X c (pc + 3) ls r h
  | .if_icmp .ne off => n = 3 ∧ 0 ≤ (pc : Int) + off ∧ q_pI st fun y r => q_pI r fun x r => if x = y then X c (pc + 3) ls r h else X c (q_tg pc off) ls r h
  | .if_icmp .lt off => n = 3 ∧ 0 ≤ (pc : Int) + off ∧ q_pI st fun y r => q_pI r fun x r => if x < y then X c (q_tg pc off) ls r h else X c (pc + 3) ls r h
  | .if_icmp .ge off => n = 3 ∧ 0 ≤ (pc : Int) + off ∧ q_pI st fun y r => q_pI r fun x r => if y ≤ x then X c (q_tg pc off) ls r h else X c (pc + 3) ls r h
  | .if_icmp .gt off => n = 3 ∧ 0 ≤ (pc : Int) + off ∧ q_pI st fun y r => q_pI r fun x r => if y < x then X c (q_tg pc off) ls r h else X c (pc + 3) ls r h
  | .if_icmp .le off => n = 3 ∧ 0 ≤ (pc : Int) + off ∧ q_pI st fun y r => q_pI r fun x r => if x ≤ y then X c (q_tg pc off) ls r h else X c (pc + 3) ls r h
  | .ifnull off => n = 3 ∧ 0 ≤ (pc : Int) + off ∧ q_pA st fun v r => q_rok v ∧ if v = .null then X c (q_tg pc off) ls r h else X c (pc + 3) ls r h
  | .ifnonnull off => n = 3 ∧ 0 ≤ (pc : Int) + off ∧ q_pA st fun v r => q_rok v ∧ if v = .null then X c (pc + 3) ls r h else X c (q_tg pc off) ls r h
  | .tableswitch df lo hi offs => q_pI st fun x r => if x.toInt < lo ∨ hi < x.toInt then (0 ≤ (pc : Int) + df ∧ X c (q_tg pc df) ls r h) else q_o (offs[(x.toInt - lo).toNat]?) fun off => 0 ≤ (pc : Int) + off ∧ X c (q_tg pc off) ls r h
  | .lookupswitch df ps => q_pI st fun x r => ((ps.toList.zip (ps.toList.drop 1)).all (fun (a, next) => a.1 < next.1) = true ∧ 0 ≤ (pc : Int) + Op.lookupswitch.offset ps.toList df x.toInt) ∧ X c (q_tg pc (Op.lookupswitch.offset ps.toList df x.toInt)) ls r h
  | .iaload => n = 1 ∧ q_pI st fun i st => q_pR st fun a st => ((h.2.2.2.1 a).1 = 100 ∧ vp_in i (h.2.2.2.1 a).2) ∧ X c (pc + 1) ls (.int (h.1 a i.toNatClampNeg) :: st) h
  | .baload => n = 1 ∧ q_pI st fun i st => q_pR st fun a st => ((h.2.2.2.1 a).1 = 101 ∧ vp_in i (h.2.2.2.1 a).2) ∧ X c (pc + 1) ls (.int (h.1 a i.toNatClampNeg) :: st) h
  | .laload => n = 1 ∧ q_pI st fun i st => q_pR st fun a st => (32 ≤ a ∧ (h.2.2.2.1 a).1 = 102 ∧ vp_in i (h.2.2.2.1 a).2) ∧ X c (pc + 1) ls (.long (h.2.1 a i.toNatClampNeg) :: st) h
  | .aaload => n = 1 ∧ q_pI st fun i st => q_pR st fun a st => (32 ≤ a ∧ (103 ≤ (h.2.2.2.1 a).1 ∧ (h.2.2.2.1 a).1 < 119) ∧ vp_in i (h.2.2.2.1 a).2) ∧ X c (pc + 1) ls (va_rf (h.2.2.1 a i.toNatClampNeg) :: st) h
  | .iastore => n = 1 ∧ q_pI st fun v st => q_pI st fun i st => q_pR st fun a st => (32 ≤ a ∧ (h.2.2.2.1 a).1 = 100 ∧ vp_in i (h.2.2.2.1 a).2) ∧ X c (pc + 1) ls st (q_up h.1 a i.toNatClampNeg v, h.2)
  | .bastore => n = 1 ∧ q_pI st fun v st => q_pI st fun i st => q_pR st fun a st => (32 ≤ a ∧ (h.2.2.2.1 a).1 = 101 ∧ vp_in i (h.2.2.2.1 a).2) ∧ X c (pc + 1) ls st (q_up h.1 a i.toNatClampNeg v.toInt8.toInt32, h.2)
  | .lastore => n = 1 ∧ q_pJ st fun v st => q_pI st fun i st => q_pR st fun a st => (32 ≤ a ∧ (h.2.2.2.1 a).1 = 102 ∧ vp_in i (h.2.2.2.1 a).2) ∧ X c (pc + 1) ls st (h.1, q_up h.2.1 a i.toNatClampNeg v, h.2.2)
  | .aastore => n = 1 ∧ q_pR st fun b st => q_pI st fun i st => q_pR st fun a st => ((32 ≤ a ∧ 32 ≤ b ∧ b < h.2.2.2.2) ∧ (h.2.2.2.1 b).1 < 9 ∧ (h.2.2.2.1 a).1 = 110 + (h.2.2.2.1 b).1 ∧ vp_in i (h.2.2.2.1 a).2) ∧ X c (pc + 1) ls st (h.1, h.2.1, q_up h.2.2.1 a i.toNatClampNeg (some b), h.2.2.2)
  | .arraylength => n = 1 ∧ q_pR st fun a st => (100 ≤ (h.2.2.2.1 a).1 ∧ (h.2.2.2.1 a).1 < 119) ∧ X c (pc + 1) ls (.int (Int32.ofNat (h.2.2.2.1 a).2) :: st) h
  | .newarray t => n = 2 ∧ q_pI st fun k st => (¬ k < 0 ∧ k.toNatClampNeg ≤ 1200 ∧ 1 ≤ c) ∧ q_o (q_ak t) fun z => X (c - 1) (pc + 2) ls (.ref h.2.2.2.2 :: st) (q_mal h z k.toNatClampNeg)
  | .anewarray i => n = 3 ∧ q_pI st fun k st => (¬ k < 0 ∧ k.toNatClampNeg ≤ 1200 ∧ 1 ≤ c) ∧ q_o (q_nt (M / 1000) i) fun e => (4 ≤ e.1 ∧ e.1 < 7 ∨ e.1 = 1) ∧ X (c - 1) (pc + 3) ls (.ref h.2.2.2.2 :: st) (q_mal h (110 + e.1) k.toNatClampNeg)
  | .multianewarray i dm => (n = 4 ∧ dm = 2) ∧ q_pI st fun k st => q_pI st fun N st => (¬ k < 0 ∧ ¬ N < 0 ∧ k.toNatClampNeg ≤ 1000 ∧ 1 + N.toNatClampNeg ≤ c ∧ N.toNatClampNeg ≤ 1000) ∧ q_o (q_mt (M / 1000) i) fun _ => X (c - (1 + N.toNatClampNeg)) (pc + 4) ls (.ref h.2.2.2.2 :: st) (q_mal2 h N.toNatClampNeg k.toNatClampNeg)
  | .new i => n = 3 ∧ q_o (q_nt (M / 1000) i) fun e => (1 ≤ c ∧ e.1 < 9) ∧ X (c - 1) (pc + 3) ls (.ref h.2.2.2.2 :: st) (q_mal h e.1 0)
  | .getfield i => n = 3 ∧ q_pR st fun a st => q_oe (q_f (M / 1000) i) (fun e => (32 ≤ a ∧ (h.2.2.2.1 a).1 = e.1) ∧ X c (pc + 3) ls (q_fv e.1 e.2.1 h a :: st) h) (q_o (q_sf (M / 1000) i) fun e => (3 ≤ a ∧ a < 16) ∧ X c (pc + 3) ls ((if e.1 = 0 then .ref (a + 13) else .int 0) :: st) h)
  | .putfield i => n = 3 ∧ q_o (q_f (M / 1000) i) fun e => q_fok M e.1 e.2.1 = true ∧ if q_isR e.1 e.2.1 = true then
      (q_pA st fun v st => q_pR st fun a st => (32 ≤ a ∧ (h.2.2.2.1 a).1 = e.1 ∧ q_rok v) ∧ X c (pc + 3) ls st (h.1, h.2.1, q_up h.2.2.1 a e.2.1 (q_vr v), h.2.2.2))
      else (q_pI st fun v st => q_pR st fun a st => (32 ≤ a ∧ (h.2.2.2.1 a).1 = e.1 ∧ narrow (q_tyf e.1 e.2.1) (.int v) = .int v) ∧ X c (pc + 3) ls st (q_up h.1 a e.2.1 v, h.2))
  | .getstatic i => n = 3 ∧ q_o (q_st (M / 1000) i) fun e => X c (pc + 3) ls ((if e.1 = 0 then .ref 0 else if e.1 = 1 then .ref 1 else if e.1 = 2 then .int 1 else .ref 29) :: st) h
  | .invokestatic i => n = 3 ∧ q_o (q_c (M / 1000) i) fun e => if e.1 = 5 then q_copy X c pc ls st h else (e.1 = 0 ∧ e.2.2.1 ≤ st.length) ∧ q_call call X c pc ls h e.2.1 (st.take e.2.2.1).reverse (st.drop e.2.2.1)
  | .invokevirtual i => n = 3 ∧ q_o (q_c (M / 1000) i) fun e => (e.1 = 1 ∧ e.2.2.1 ≤ st.length) ∧ q_pR (st.drop e.2.2.1) fun b r => (if b < 32 then (3 ≤ b ∧ b < 16) ∧ e.2.1 / 1000 = 11 else (h.2.2.2.1 b).1 < 9 ∧ e.2.1 / 1000 = (h.2.2.2.1 b).1) ∧ q_call call X c pc ls h e.2.1 (.ref b :: (st.take e.2.2.1).reverse) r
  | .invokespecial i => n = 3 ∧ q_o (q_c (M / 1000) i) fun e => if e.1 = 4 then (q_pR st fun b r => (32 ≤ b ∧ q_cs r ≤ 8) ∧ X c (pc + 3) ls r h) else ((e.1 = 2 ∨ e.1 = 3) ∧ e.2.2.1 ≤ st.length) ∧ q_pR (st.drop e.2.2.1) fun b r => 32 ≤ b ∧ q_call call X c pc ls h e.2.1 (.ref b :: (st.take e.2.2.1).reverse) r
  | .ireturn => n = 1 ∧ q_pI st fun v r => q_o (q_md M).2.2.2.1 fun ty => (r = [] ∧ narrow ty (.int v) = .int v) ∧ Q (some (.int v)) h
  | .lreturn => n = 1 ∧ q_pJ st fun v r => (r = [] ∧ (q_md M).2.2.2.1 = some .long) ∧ Q (some (.long v)) h
  | .areturn => n = 1 ∧ q_pA st fun v r => q_o (q_md M).2.2.2.1 fun ty => (r = [] ∧ (ty.isReference = true ∧ q_rok v)) ∧ Q (some v) h
  | .return_ => n = 1 ∧ (st = [] ∧ (q_md M).2.2.2.1 = none) ∧ Q none h
  | _ => False
def q_step (c pc : Nat) (ls st : List Value) (h : q_H) : Prop := match decode (q_md M).2.1 pc with
  | .ok (i, n) => q_ins call M X Q c pc i n ls st h
  | _ => False
end QM
/-- from this configuration the method returns, with Q: d calls deep at most, at most c new cells -/
def q_wp : Nat → Nat → Nat → Nat → List Value → List Value → q_H → (Option Value → q_H → Prop) → Prop
  | 0, _, _, _, _, _, _, _ => False
  | d + 1, c, M, pc, ls, st, h, Q => ∀ X : Nat → Nat → List Value → List Value → q_H → Prop, (∀ c pc ls st h, q_step (fun c M as h Q => q_wp d c M 0 (q_ent (q_md M).2.2.1 as) [] h Q) M X Q c pc ls st h → X c pc ls st h) → X c pc ls st h
