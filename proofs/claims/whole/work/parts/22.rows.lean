/-! the instructions of the abstract machine as equations -/
section QW
variable {d c M pc : Nat} {ls st : List Value} {h : q_H} {Q : Option Value → q_H → Prop}
theorem w_const {v : Int} {x : Int32} (hd : decode (q_b M) pc = .ok (.iconst v, 1)) (hv : Int32.ofInt v = x) : q_wp (d + 1) c M pc ls st h Q = q_wp (d + 1) c M (pc + 1) ls (.int x :: st) h Q := by
  rw [q_at hd]; subst hv; simp [q_ins]
theorem w_lconst {v : Fin 2} {x : Int64} (hd : decode (q_b M) pc = .ok (.lconst v, 1)) (hv : Int64.ofNat (v : Nat) = x) : q_wp (d + 1) c M pc ls st h Q = q_wp (d + 1) c M (pc + 1) ls (.long x :: st) h Q := by
  rw [q_at hd]; subst hv; simp [q_ins]
theorem w_bipush {v : Int} {x : Int32} (hd : decode (q_b M) pc = .ok (.bipush v, 2)) (hv : (Int8.ofInt v).toInt32 = x) : q_wp (d + 1) c M pc ls st h Q = q_wp (d + 1) c M (pc + 2) ls (.int x :: st) h Q := by
  rw [q_at hd]; subst hv; simp [q_ins]
theorem w_sipush {v : Int} {x : Int32} (hd : decode (q_b M) pc = .ok (.sipush v, 3)) (hv : (Int16.ofInt v).toInt32 = x) : q_wp (d + 1) c M pc ls st h Q = q_wp (d + 1) c M (pc + 3) ls (.int x :: st) h Q := by
  rw [q_at hd]; subst hv; simp [q_ins]
theorem w_null (hd : decode (q_b M) pc = .ok (.aconst_null, 1)) : q_wp (d + 1) c M pc ls st h Q = q_wp (d + 1) c M (pc + 1) ls (.null :: st) h Q := by
  rw [q_at hd]; simp [q_ins]
theorem w_ldc {k p : Nat} {x : Int32} (hd : decode (q_b M) pc = .ok (.ldc k, 2)) (hk : q_ki (M / 1000) k = some (x, p)) : q_wp (d + 1) c M pc ls st h Q = q_wp (d + 1) c M (pc + 2) ls (.int x :: st) h Q := by
  rw [q_at hd]; simp [q_ins, q_oe, hk]
theorem w_ldcS {k j : Nat} (hd : decode (q_b M) pc = .ok (.ldc k, 2)) (hk : q_ki (M / 1000) k = none) (hj : q_ks (M / 1000) k = some j) : q_wp (d + 1) c M pc ls st h Q = q_wp (d + 1) c M (pc + 2) ls (.ref (3 + j) :: st) h Q := by
  rw [q_at hd]; simp [q_ins, q_oe, q_o, hk, hj]
theorem w_ldcw {k p : Nat} {x : Int32} (hd : decode (q_b M) pc = .ok (.ldc_w k, 3)) (hk : q_ki (M / 1000) k = some (x, p)) : q_wp (d + 1) c M pc ls st h Q = q_wp (d + 1) c M (pc + 3) ls (.int x :: st) h Q := by
  rw [q_at hd]; simp [q_ins, q_o, hk]
theorem w_ldc2 {k p : Nat} {x : Int64} (hd : decode (q_b M) pc = .ok (.ldc2_w k, 3)) (hk : q_kj (M / 1000) k = some (x, p)) : q_wp (d + 1) c M pc ls st h Q = q_wp (d + 1) c M (pc + 3) ls (.long x :: st) h Q := by
  rw [q_at hd]; simp [q_ins, q_o, hk]
theorem w_iload {k : Nat} {x : Int32} (hd : decode (q_b M) pc = .ok (.iload k, 2)) (hl : ls[k]? = some (.int x)) : q_wp (d + 1) c M pc ls st h Q = q_wp (d + 1) c M (pc + 2) ls (.int x :: st) h Q := by
  rw [q_at hd]; simp [q_ins, q_lI, hl]
theorem w_iload_n {k : Fin 4} {x : Int32} (hd : decode (q_b M) pc = .ok (.iload_n k, 1)) (hl : ls[(k : Nat)]? = some (.int x)) : q_wp (d + 1) c M pc ls st h Q = q_wp (d + 1) c M (pc + 1) ls (.int x :: st) h Q := by
  rw [q_at hd]; simp [q_ins, q_lI, hl]
theorem w_lload {k : Nat} {x : Int64} (hd : decode (q_b M) pc = .ok (.lload k, 2)) (hl : ls[k]? = some (.long x)) : q_wp (d + 1) c M pc ls st h Q = q_wp (d + 1) c M (pc + 2) ls (.long x :: st) h Q := by
  rw [q_at hd]; simp [q_ins, q_lJ, hl]
theorem w_lload_n {k : Fin 4} {x : Int64} (hd : decode (q_b M) pc = .ok (.lload_n k, 1)) (hl : ls[(k : Nat)]? = some (.long x)) : q_wp (d + 1) c M pc ls st h Q = q_wp (d + 1) c M (pc + 1) ls (.long x :: st) h Q := by
  rw [q_at hd]; simp [q_ins, q_lJ, hl]
theorem w_aload {k : Nat} {x : Nat} (hd : decode (q_b M) pc = .ok (.aload k, 2)) (hl : ls[k]? = some (.ref x)) : q_wp (d + 1) c M pc ls st h Q = q_wp (d + 1) c M (pc + 2) ls (.ref x :: st) h Q := by
  rw [q_at hd]; simp [q_ins, q_lA, hl]
theorem w_aload_n {k : Fin 4} {x : Nat} (hd : decode (q_b M) pc = .ok (.aload_n k, 1)) (hl : ls[(k : Nat)]? = some (.ref x)) : q_wp (d + 1) c M pc ls st h Q = q_wp (d + 1) c M (pc + 1) ls (.ref x :: st) h Q := by
  rw [q_at hd]; simp [q_ins, q_lA, hl]
theorem w_aloadN {k : Nat} (hd : decode (q_b M) pc = .ok (.aload k, 2)) (hl : ls[k]? = some .null) : q_wp (d + 1) c M pc ls st h Q = q_wp (d + 1) c M (pc + 2) ls (.null :: st) h Q := by
  rw [q_at hd]; simp [q_ins, q_lA, hl]
theorem w_aload_nN {k : Fin 4} (hd : decode (q_b M) pc = .ok (.aload_n k, 1)) (hl : ls[(k : Nat)]? = some .null) : q_wp (d + 1) c M pc ls st h Q = q_wp (d + 1) c M (pc + 1) ls (.null :: st) h Q := by
  rw [q_at hd]; simp [q_ins, q_lA, hl]
theorem w_istore {k : Nat} {x : Int32} {ls' : List Value} {z : Prop} (hd : decode (q_b M) pc = .ok (.istore k, 2)) (hk : (k < ls.length ∧ q_nl ls k) = z) (hl : ls.set k (.int x) = ls') : q_wp (d + 1) c M pc ls (.int x :: st) h Q = (z ∧ q_wp (d + 1) c M (pc + 2) ls' st h Q) := by
  rw [q_at hd]; subst hk; subst hl; simp [q_ins, q_pI]
theorem w_istore_n {k : Fin 4} {x : Int32} {ls' : List Value} {z : Prop} (hd : decode (q_b M) pc = .ok (.istore_n k, 1)) (hk : ((k : Nat) < ls.length ∧ q_nl ls k) = z) (hl : ls.set k (.int x) = ls') : q_wp (d + 1) c M pc ls (.int x :: st) h Q = (z ∧ q_wp (d + 1) c M (pc + 1) ls' st h Q) := by
  rw [q_at hd]; subst hk; subst hl; simp [q_ins, q_pI]
theorem w_lstore {k : Nat} {x : Int64} {ls' : List Value} {z : Prop} (hd : decode (q_b M) pc = .ok (.lstore k, 2)) (hk : (k + 1 < ls.length ∧ q_nl ls k) = z) (hl : (ls.set k (.long x)).set (k + 1) q_jk = ls') : q_wp (d + 1) c M pc ls (.long x :: st) h Q = (z ∧ q_wp (d + 1) c M (pc + 2) ls' st h Q) := by
  rw [q_at hd]; subst hk; subst hl; simp [q_ins, q_pJ]
theorem w_lstore_n {k : Fin 4} {x : Int64} {ls' : List Value} {z : Prop} (hd : decode (q_b M) pc = .ok (.lstore_n k, 1)) (hk : ((k : Nat) + 1 < ls.length ∧ q_nl ls k) = z) (hl : (ls.set k (.long x)).set ((k : Nat) + 1) q_jk = ls') : q_wp (d + 1) c M pc ls (.long x :: st) h Q = (z ∧ q_wp (d + 1) c M (pc + 1) ls' st h Q) := by
  rw [q_at hd]; subst hk; subst hl; simp [q_ins, q_pJ]
theorem w_astore {k : Nat} {v : Value} {ls' : List Value} {z : Prop} (hd : decode (q_b M) pc = .ok (.astore k, 2)) (hv : va_rf (q_vr v) = v) (hk : (k < ls.length ∧ q_nl ls k) = z) (hl : ls.set k v = ls') : q_wp (d + 1) c M pc ls (v :: st) h Q = (z ∧ q_wp (d + 1) c M (pc + 2) ls' st h Q) := by
  rw [q_at hd]; subst hk; subst hl; cases v <;> first | (simp [va_rf, q_vr] at hv; done) | simp [q_ins, q_pA]
theorem w_astore_n {k : Fin 4} {v : Value} {ls' : List Value} {z : Prop} (hd : decode (q_b M) pc = .ok (.astore_n k, 1)) (hv : va_rf (q_vr v) = v) (hk : ((k : Nat) < ls.length ∧ q_nl ls k) = z) (hl : ls.set k v = ls') : q_wp (d + 1) c M pc ls (v :: st) h Q = (z ∧ q_wp (d + 1) c M (pc + 1) ls' st h Q) := by
  rw [q_at hd]; subst hk; subst hl; cases v <;> first | (simp [va_rf, q_vr] at hv; done) | simp [q_ins, q_pA]
theorem w_iinc {k : Nat} {v : Int} {x y : Int32} {ls' : List Value} (hd : decode (q_b M) pc = .ok (.iinc k v, 3)) (hv : Int32.ofInt v = y) (hk : ls[k]? = some (.int x)) (hl : ls.set k (.int (x + y)) = ls') : q_wp (d + 1) c M pc ls st h Q = q_wp (d + 1) c M (pc + 3) ls' st h Q := by
  rw [q_at hd]; subst hv; subst hl; simp [q_ins, q_lI, hk]
theorem w_iadd {x y : Int32} (hd : decode (q_b M) pc = .ok (.iadd, 1)) : q_wp (d + 1) c M pc ls (.int y :: .int x :: st) h Q = q_wp (d + 1) c M (pc + 1) ls (.int (x + y) :: st) h Q := by rw [q_at hd]; simp [q_ins, q_pI]
theorem w_isub {x y : Int32} (hd : decode (q_b M) pc = .ok (.isub, 1)) : q_wp (d + 1) c M pc ls (.int y :: .int x :: st) h Q = q_wp (d + 1) c M (pc + 1) ls (.int (x - y) :: st) h Q := by rw [q_at hd]; simp [q_ins, q_pI]
theorem w_imul {x y : Int32} (hd : decode (q_b M) pc = .ok (.imul, 1)) : q_wp (d + 1) c M pc ls (.int y :: .int x :: st) h Q = q_wp (d + 1) c M (pc + 1) ls (.int (x * y) :: st) h Q := by rw [q_at hd]; simp [q_ins, q_pI]
theorem w_idiv {x y : Int32} (hd : decode (q_b M) pc = .ok (.idiv, 1)) : q_wp (d + 1) c M pc ls (.int y :: .int x :: st) h Q = (¬ y = 0 ∧ q_wp (d + 1) c M (pc + 1) ls (.int (x / y) :: st) h Q) := by rw [q_at hd]; simp [q_ins, q_pI]
theorem w_irem {x y : Int32} (hd : decode (q_b M) pc = .ok (.irem, 1)) : q_wp (d + 1) c M pc ls (.int y :: .int x :: st) h Q = (¬ y = 0 ∧ q_wp (d + 1) c M (pc + 1) ls (.int (x % y) :: st) h Q) := by rw [q_at hd]; simp [q_ins, q_pI]
theorem w_ineg {x : Int32} (hd : decode (q_b M) pc = .ok (.ineg, 1)) : q_wp (d + 1) c M pc ls (.int x :: st) h Q = q_wp (d + 1) c M (pc + 1) ls (.int (-x) :: st) h Q := by rw [q_at hd]; simp [q_ins, q_pI]
theorem w_iand {x y : Int32} (hd : decode (q_b M) pc = .ok (.iand, 1)) : q_wp (d + 1) c M pc ls (.int y :: .int x :: st) h Q = q_wp (d + 1) c M (pc + 1) ls (.int (x &&& y) :: st) h Q := by rw [q_at hd]; simp [q_ins, q_pI]
theorem w_ior {x y : Int32} (hd : decode (q_b M) pc = .ok (.ior, 1)) : q_wp (d + 1) c M pc ls (.int y :: .int x :: st) h Q = q_wp (d + 1) c M (pc + 1) ls (.int (x ||| y) :: st) h Q := by rw [q_at hd]; simp [q_ins, q_pI]
theorem w_ixor {x y : Int32} (hd : decode (q_b M) pc = .ok (.ixor, 1)) : q_wp (d + 1) c M pc ls (.int y :: .int x :: st) h Q = q_wp (d + 1) c M (pc + 1) ls (.int (x ^^^ y) :: st) h Q := by rw [q_at hd]; simp [q_ins, q_pI]
theorem w_ishl {x y : Int32} (hd : decode (q_b M) pc = .ok (.ishl, 1)) : q_wp (d + 1) c M pc ls (.int y :: .int x :: st) h Q = q_wp (d + 1) c M (pc + 1) ls (.int (x <<< (y &&& 31)) :: st) h Q := by rw [q_at hd]; simp [q_ins, q_pI]
theorem w_ishr {x y : Int32} (hd : decode (q_b M) pc = .ok (.ishr, 1)) : q_wp (d + 1) c M pc ls (.int y :: .int x :: st) h Q = q_wp (d + 1) c M (pc + 1) ls (.int (x >>> (y &&& 31)) :: st) h Q := by rw [q_at hd]; simp [q_ins, q_pI]
theorem w_iushr {x y : Int32} (hd : decode (q_b M) pc = .ok (.iushr, 1)) : q_wp (d + 1) c M pc ls (.int y :: .int x :: st) h Q = q_wp (d + 1) c M (pc + 1) ls (.int (x.toUInt32 >>> (y.toUInt32 &&& Int32.toUInt32 31)).toInt32 :: st) h Q := by rw [q_at hd]; simp [q_ins, q_pI]
theorem w_i2l {x : Int32} (hd : decode (q_b M) pc = .ok (.i2l, 1)) : q_wp (d + 1) c M pc ls (.int x :: st) h Q = q_wp (d + 1) c M (pc + 1) ls (.long x.toInt64 :: st) h Q := by rw [q_at hd]; simp [q_ins, q_pI]
theorem w_i2b {x : Int32} (hd : decode (q_b M) pc = .ok (.i2b, 1)) : q_wp (d + 1) c M pc ls (.int x :: st) h Q = q_wp (d + 1) c M (pc + 1) ls (.int x.toInt8.toInt32 :: st) h Q := by rw [q_at hd]; simp [q_ins, q_pI]
theorem w_i2s {x : Int32} (hd : decode (q_b M) pc = .ok (.i2s, 1)) : q_wp (d + 1) c M pc ls (.int x :: st) h Q = q_wp (d + 1) c M (pc + 1) ls (.int x.toInt16.toInt32 :: st) h Q := by rw [q_at hd]; simp [q_ins, q_pI]
theorem w_i2c {x : Int32} (hd : decode (q_b M) pc = .ok (.i2c, 1)) : q_wp (d + 1) c M pc ls (.int x :: st) h Q = q_wp (d + 1) c M (pc + 1) ls (.int (x.toUInt32 % 65536).toInt32 :: st) h Q := by rw [q_at hd]; simp [q_ins, q_pI]
theorem w_l2i {x : Int64} (hd : decode (q_b M) pc = .ok (.l2i, 1)) : q_wp (d + 1) c M pc ls (.long x :: st) h Q = q_wp (d + 1) c M (pc + 1) ls (.int x.toInt32 :: st) h Q := by rw [q_at hd]; simp [q_ins, q_pJ]
theorem w_ladd {x y : Int64} (hd : decode (q_b M) pc = .ok (.ladd, 1)) : q_wp (d + 1) c M pc ls (.long y :: .long x :: st) h Q = q_wp (d + 1) c M (pc + 1) ls (.long (x + y) :: st) h Q := by rw [q_at hd]; simp [q_ins, q_pJ]
theorem w_lmul {x y : Int64} (hd : decode (q_b M) pc = .ok (.lmul, 1)) : q_wp (d + 1) c M pc ls (.long y :: .long x :: st) h Q = q_wp (d + 1) c M (pc + 1) ls (.long (x * y) :: st) h Q := by rw [q_at hd]; simp [q_ins, q_pJ]
theorem w_ldiv {x y : Int64} (hd : decode (q_b M) pc = .ok (.ldiv, 1)) : q_wp (d + 1) c M pc ls (.long y :: .long x :: st) h Q = (¬ y = 0 ∧ q_wp (d + 1) c M (pc + 1) ls (.long (x / y) :: st) h Q) := by rw [q_at hd]; simp [q_ins, q_pJ]
theorem w_lrem {x y : Int64} (hd : decode (q_b M) pc = .ok (.lrem, 1)) : q_wp (d + 1) c M pc ls (.long y :: .long x :: st) h Q = (¬ y = 0 ∧ q_wp (d + 1) c M (pc + 1) ls (.long (x % y) :: st) h Q) := by rw [q_at hd]; simp [q_ins, q_pJ]
theorem w_land {x y : Int64} (hd : decode (q_b M) pc = .ok (.land, 1)) : q_wp (d + 1) c M pc ls (.long y :: .long x :: st) h Q = q_wp (d + 1) c M (pc + 1) ls (.long (x &&& y) :: st) h Q := by rw [q_at hd]; simp [q_ins, q_pJ]
theorem w_lor {x y : Int64} (hd : decode (q_b M) pc = .ok (.lor, 1)) : q_wp (d + 1) c M pc ls (.long y :: .long x :: st) h Q = q_wp (d + 1) c M (pc + 1) ls (.long (x ||| y) :: st) h Q := by rw [q_at hd]; simp [q_ins, q_pJ]
theorem w_lshl {x : Int64} {y : Int32} (hd : decode (q_b M) pc = .ok (.lshl, 1)) : q_wp (d + 1) c M pc ls (.int y :: .long x :: st) h Q = q_wp (d + 1) c M (pc + 1) ls (.long (x <<< (y.toInt64 &&& 63)) :: st) h Q := by rw [q_at hd]; simp [q_ins, q_pI, q_pJ]
theorem w_lshr {x : Int64} {y : Int32} (hd : decode (q_b M) pc = .ok (.lshr, 1)) : q_wp (d + 1) c M pc ls (.int y :: .long x :: st) h Q = q_wp (d + 1) c M (pc + 1) ls (.long (x >>> (y.toInt64 &&& 63)) :: st) h Q := by rw [q_at hd]; simp [q_ins, q_pI, q_pJ]
theorem w_lushr {x : Int64} {y : Int32} (hd : decode (q_b M) pc = .ok (.lushr, 1)) : q_wp (d + 1) c M pc ls (.int y :: .long x :: st) h Q = q_wp (d + 1) c M (pc + 1) ls (.long (x.toUInt64 >>> (y.toInt64.toUInt64 &&& Int64.toUInt64 63)).toInt64 :: st) h Q := by rw [q_at hd]; simp [q_ins, q_pI, q_pJ]
theorem w_lcmp {x y : Int64} (hd : decode (q_b M) pc = .ok (.lcmp, 1)) : q_wp (d + 1) c M pc ls (.long y :: .long x :: st) h Q = q_wp (d + 1) c M (pc + 1) ls (.int (lg_cmp x y) :: st) h Q := by rw [q_at hd]; simp [q_ins, q_pJ]
theorem w_dup {v : Value} (hd : decode (q_b M) pc = .ok (.dup, 1)) : q_wp (d + 1) c M pc ls (v :: st) h Q = (v.category = 1 ∧ q_wp (d + 1) c M (pc + 1) ls (v :: v :: st) h Q) := by rw [q_at hd]; simp [q_ins, q_p1]
theorem w_pop {v : Value} (hd : decode (q_b M) pc = .ok (.pop, 1)) : q_wp (d + 1) c M pc ls (v :: st) h Q = (v.category = 1 ∧ q_wp (d + 1) c M (pc + 1) ls st h Q) := by rw [q_at hd]; simp [q_ins, q_p1]
theorem w_dup_x1 {v w : Value} (hd : decode (q_b M) pc = .ok (.dup_x1, 1)) : q_wp (d + 1) c M pc ls (v :: w :: st) h Q = (v.category = 1 ∧ w.category = 1 ∧ q_wp (d + 1) c M (pc + 1) ls (v :: w :: v :: st) h Q) := by rw [q_at hd]; simp [q_ins, q_p1]
theorem w_dup2 {v w : Value} (hd : decode (q_b M) pc = .ok (.dup2, 1)) : q_wp (d + 1) c M pc ls (v :: w :: st) h Q = (v.category = 1 ∧ w.category = 1 ∧ q_wp (d + 1) c M (pc + 1) ls (v :: w :: v :: w :: st) h Q) := by rw [q_at hd]; simp [q_ins, q_p1]
theorem q_tg_of {pc tgt : Nat} {off : Int} (ht : (pc : Int) + off = (tgt : Int)) : 0 ≤ (pc : Int) + off ∧ q_tg pc off = tgt := by unfold q_tg; omega
theorem w_goto {off : Int} {tgt : Nat} (hd : decode (q_b M) pc = .ok (.goto off, 3)) (ht : (pc : Int) + off = (tgt : Int)) : q_wp (d + 1) c M pc ls st h Q = q_wp (d + 1) c M tgt ls st h Q := by
  rw [q_at hd]; obtain ⟨h1, h2⟩ := q_tg_of ht; simp only [q_ins, h1, h2, true_and]
theorem w_ifeq {off : Int} {tgt : Nat} {x : Int32} (hd : decode (q_b M) pc = .ok (.ifCond .eq off, 3)) (ht : (pc : Int) + off = (tgt : Int)) : q_wp (d + 1) c M pc ls (.int x :: st) h Q = if x = 0 then q_wp (d + 1) c M tgt ls st h Q else q_wp (d + 1) c M (pc + 3) ls st h Q := by
  rw [q_at hd]; obtain ⟨h1, h2⟩ := q_tg_of ht; simp only [q_ins, q_pI, h1, h2, true_and]
theorem w_ifne {off : Int} {tgt : Nat} {x : Int32} (hd : decode (q_b M) pc = .ok (.ifCond .ne off, 3)) (ht : (pc : Int) + off = (tgt : Int)) : q_wp (d + 1) c M pc ls (.int x :: st) h Q = if x = 0 then q_wp (d + 1) c M (pc + 3) ls st h Q else q_wp (d + 1) c M tgt ls st h Q := by
  rw [q_at hd]; obtain ⟨h1, h2⟩ := q_tg_of ht; simp only [q_ins, q_pI, h1, h2, true_and]
theorem w_iflt {off : Int} {tgt : Nat} {x : Int32} (hd : decode (q_b M) pc = .ok (.ifCond .lt off, 3)) (ht : (pc : Int) + off = (tgt : Int)) : q_wp (d + 1) c M pc ls (.int x :: st) h Q = if x < 0 then q_wp (d + 1) c M tgt ls st h Q else q_wp (d + 1) c M (pc + 3) ls st h Q := by
  rw [q_at hd]; obtain ⟨h1, h2⟩ := q_tg_of ht; simp only [q_ins, q_pI, h1, h2, true_and]
theorem w_ifge {off : Int} {tgt : Nat} {x : Int32} (hd : decode (q_b M) pc = .ok (.ifCond .ge off, 3)) (ht : (pc : Int) + off = (tgt : Int)) : q_wp (d + 1) c M pc ls (.int x :: st) h Q = if 0 ≤ x then q_wp (d + 1) c M tgt ls st h Q else q_wp (d + 1) c M (pc + 3) ls st h Q := by
  rw [q_at hd]; obtain ⟨h1, h2⟩ := q_tg_of ht; simp only [q_ins, q_pI, h1, h2, true_and]
theorem w_ifgt {off : Int} {tgt : Nat} {x : Int32} (hd : decode (q_b M) pc = .ok (.ifCond .gt off, 3)) (ht : (pc : Int) + off = (tgt : Int)) : q_wp (d + 1) c M pc ls (.int x :: st) h Q = if 0 < x then q_wp (d + 1) c M tgt ls st h Q else q_wp (d + 1) c M (pc + 3) ls st h Q := by
  rw [q_at hd]; obtain ⟨h1, h2⟩ := q_tg_of ht; simp only [q_ins, q_pI, h1, h2, true_and]
theorem w_ifle {off : Int} {tgt : Nat} {x : Int32} (hd : decode (q_b M) pc = .ok (.ifCond .le off, 3)) (ht : (pc : Int) + off = (tgt : Int)) : q_wp (d + 1) c M pc ls (.int x :: st) h Q = if x ≤ 0 then q_wp (d + 1) c M tgt ls st h Q else q_wp (d + 1) c M (pc + 3) ls st h Q := by
  rw [q_at hd]; obtain ⟨h1, h2⟩ := q_tg_of ht; simp only [q_ins, q_pI, h1, h2, true_and]
theorem w_icmpeq {off : Int} {tgt : Nat} {x y : Int32} (hd : decode (q_b M) pc = .ok (.if_icmp .eq off, 3)) (ht : (pc : Int) + off = (tgt : Int)) : q_wp (d + 1) c M pc ls (.int y :: .int x :: st) h Q = if x = y then q_wp (d + 1) c M tgt ls st h Q else q_wp (d + 1) c M (pc + 3) ls st h Q := by
  rw [q_at hd]; obtain ⟨h1, h2⟩ := q_tg_of ht; simp only [q_ins, q_pI, h1, h2, true_and]
theorem w_icmpne {off : Int} {tgt : Nat} {x y : Int32} (hd : decode (q_b M) pc = .ok (.if_icmp .ne off, 3)) (ht : (pc : Int) + off = (tgt : Int)) : q_wp (d + 1) c M pc ls (.int y :: .int x :: st) h Q = if x = y then q_wp (d + 1) c M (pc + 3) ls st h Q else q_wp (d + 1) c M tgt ls st h Q := by
  rw [q_at hd]; obtain ⟨h1, h2⟩ := q_tg_of ht; simp only [q_ins, q_pI, h1, h2, true_and]
theorem w_icmplt {off : Int} {tgt : Nat} {x y : Int32} (hd : decode (q_b M) pc = .ok (.if_icmp .lt off, 3)) (ht : (pc : Int) + off = (tgt : Int)) : q_wp (d + 1) c M pc ls (.int y :: .int x :: st) h Q = if x < y then q_wp (d + 1) c M tgt ls st h Q else q_wp (d + 1) c M (pc + 3) ls st h Q := by
  rw [q_at hd]; obtain ⟨h1, h2⟩ := q_tg_of ht; simp only [q_ins, q_pI, h1, h2, true_and]
theorem w_icmpge {off : Int} {tgt : Nat} {x y : Int32} (hd : decode (q_b M) pc = .ok (.if_icmp .ge off, 3)) (ht : (pc : Int) + off = (tgt : Int)) : q_wp (d + 1) c M pc ls (.int y :: .int x :: st) h Q = if y ≤ x then q_wp (d + 1) c M tgt ls st h Q else q_wp (d + 1) c M (pc + 3) ls st h Q := by
  rw [q_at hd]; obtain ⟨h1, h2⟩ := q_tg_of ht; simp only [q_ins, q_pI, h1, h2, true_and]
theorem w_icmpgt {off : Int} {tgt : Nat} {x y : Int32} (hd : decode (q_b M) pc = .ok (.if_icmp .gt off, 3)) (ht : (pc : Int) + off = (tgt : Int)) : q_wp (d + 1) c M pc ls (.int y :: .int x :: st) h Q = if y < x then q_wp (d + 1) c M tgt ls st h Q else q_wp (d + 1) c M (pc + 3) ls st h Q := by
  rw [q_at hd]; obtain ⟨h1, h2⟩ := q_tg_of ht; simp only [q_ins, q_pI, h1, h2, true_and]
theorem w_icmple {off : Int} {tgt : Nat} {x y : Int32} (hd : decode (q_b M) pc = .ok (.if_icmp .le off, 3)) (ht : (pc : Int) + off = (tgt : Int)) : q_wp (d + 1) c M pc ls (.int y :: .int x :: st) h Q = if x ≤ y then q_wp (d + 1) c M tgt ls st h Q else q_wp (d + 1) c M (pc + 3) ls st h Q := by
  rw [q_at hd]; obtain ⟨h1, h2⟩ := q_tg_of ht; simp only [q_ins, q_pI, h1, h2, true_and]
theorem w_ifnull {off : Int} {tgt a : Nat} (hd : decode (q_b M) pc = .ok (.ifnull off, 3)) (ht : (pc : Int) + off = (tgt : Int)) : q_wp (d + 1) c M pc ls (.ref a :: st) h Q = (32 ≤ a ∧ q_wp (d + 1) c M (pc + 3) ls st h Q) := by
  rw [q_at hd]; obtain ⟨h1, h2⟩ := q_tg_of ht; simp [q_ins, q_pA, h1, q_rok]
theorem w_ifnullN {off : Int} {tgt : Nat} (hd : decode (q_b M) pc = .ok (.ifnull off, 3)) (ht : (pc : Int) + off = (tgt : Int)) : q_wp (d + 1) c M pc ls (.null :: st) h Q = q_wp (d + 1) c M tgt ls st h Q := by
  rw [q_at hd]; obtain ⟨h1, h2⟩ := q_tg_of ht; simp [q_ins, q_pA, h1, h2, q_rok]
theorem w_ifnonnull {off : Int} {tgt a : Nat} (hd : decode (q_b M) pc = .ok (.ifnonnull off, 3)) (ht : (pc : Int) + off = (tgt : Int)) : q_wp (d + 1) c M pc ls (.ref a :: st) h Q = (32 ≤ a ∧ q_wp (d + 1) c M tgt ls st h Q) := by
  rw [q_at hd]; obtain ⟨h1, h2⟩ := q_tg_of ht; simp [q_ins, q_pA, h1, h2, q_rok]
theorem w_ifnonnullN {off : Int} {tgt : Nat} (hd : decode (q_b M) pc = .ok (.ifnonnull off, 3)) (ht : (pc : Int) + off = (tgt : Int)) : q_wp (d + 1) c M pc ls (.null :: st) h Q = q_wp (d + 1) c M (pc + 3) ls st h Q := by
  rw [q_at hd]; obtain ⟨h1, h2⟩ := q_tg_of ht; simp [q_ins, q_pA, h1, q_rok]
end QW
