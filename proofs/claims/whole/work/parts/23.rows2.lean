section QW2
variable {d c M pc : Nat} {ls st : List Value} {h : q_H} {Q : Option Value → q_H → Prop}
theorem w_iaload {a : Nat} {i : Int32} (hd : decode (q_b M) pc = .ok (.iaload, 1)) : q_wp (d + 1) c M pc ls (.int i :: .ref a :: st) h Q = (((h.2.2.2.1 a).1 = 100 ∧ vp_in i (h.2.2.2.1 a).2) ∧ q_wp (d + 1) c M (pc + 1) ls (.int (h.1 a i.toNatClampNeg) :: st) h Q) := by rw [q_at hd]; simp [q_ins, q_pI, q_pR]
theorem w_baload {a : Nat} {i : Int32} (hd : decode (q_b M) pc = .ok (.baload, 1)) : q_wp (d + 1) c M pc ls (.int i :: .ref a :: st) h Q = (((h.2.2.2.1 a).1 = 101 ∧ vp_in i (h.2.2.2.1 a).2) ∧ q_wp (d + 1) c M (pc + 1) ls (.int (h.1 a i.toNatClampNeg) :: st) h Q) := by rw [q_at hd]; simp [q_ins, q_pI, q_pR]
theorem w_laload {a : Nat} {i : Int32} (hd : decode (q_b M) pc = .ok (.laload, 1)) : q_wp (d + 1) c M pc ls (.int i :: .ref a :: st) h Q = ((32 ≤ a ∧ (h.2.2.2.1 a).1 = 102 ∧ vp_in i (h.2.2.2.1 a).2) ∧ q_wp (d + 1) c M (pc + 1) ls (.long (h.2.1 a i.toNatClampNeg) :: st) h Q) := by rw [q_at hd]; simp [q_ins, q_pI, q_pR]
theorem w_aaload {a : Nat} {i : Int32} (hd : decode (q_b M) pc = .ok (.aaload, 1)) : q_wp (d + 1) c M pc ls (.int i :: .ref a :: st) h Q = ((32 ≤ a ∧ (103 ≤ (h.2.2.2.1 a).1 ∧ (h.2.2.2.1 a).1 < 119) ∧ vp_in i (h.2.2.2.1 a).2) ∧ q_wp (d + 1) c M (pc + 1) ls (va_rf (h.2.2.1 a i.toNatClampNeg) :: st) h Q) := by rw [q_at hd]; simp [q_ins, q_pI, q_pR]
theorem w_iastore {a : Nat} {i v : Int32} (hd : decode (q_b M) pc = .ok (.iastore, 1)) : q_wp (d + 1) c M pc ls (.int v :: .int i :: .ref a :: st) h Q = ((32 ≤ a ∧ (h.2.2.2.1 a).1 = 100 ∧ vp_in i (h.2.2.2.1 a).2) ∧ q_wp (d + 1) c M (pc + 1) ls st (q_up h.1 a i.toNatClampNeg v, h.2) Q) := by rw [q_at hd]; simp [q_ins, q_pI, q_pR]
theorem w_bastore {a : Nat} {i v : Int32} (hd : decode (q_b M) pc = .ok (.bastore, 1)) : q_wp (d + 1) c M pc ls (.int v :: .int i :: .ref a :: st) h Q = ((32 ≤ a ∧ (h.2.2.2.1 a).1 = 101 ∧ vp_in i (h.2.2.2.1 a).2) ∧ q_wp (d + 1) c M (pc + 1) ls st (q_up h.1 a i.toNatClampNeg v.toInt8.toInt32, h.2) Q) := by rw [q_at hd]; simp [q_ins, q_pI, q_pR]
theorem w_lastore {a : Nat} {i : Int32} {v : Int64} (hd : decode (q_b M) pc = .ok (.lastore, 1)) : q_wp (d + 1) c M pc ls (.long v :: .int i :: .ref a :: st) h Q = ((32 ≤ a ∧ (h.2.2.2.1 a).1 = 102 ∧ vp_in i (h.2.2.2.1 a).2) ∧ q_wp (d + 1) c M (pc + 1) ls st (h.1, q_up h.2.1 a i.toNatClampNeg v, h.2.2) Q) := by rw [q_at hd]; simp [q_ins, q_pI, q_pJ, q_pR]
theorem w_aastore {a b : Nat} {i : Int32} (hd : decode (q_b M) pc = .ok (.aastore, 1)) : q_wp (d + 1) c M pc ls (.ref b :: .int i :: .ref a :: st) h Q = (((32 ≤ a ∧ 32 ≤ b ∧ b < h.2.2.2.2) ∧ (h.2.2.2.1 b).1 < 9 ∧ (h.2.2.2.1 a).1 = 110 + (h.2.2.2.1 b).1 ∧ vp_in i (h.2.2.2.1 a).2) ∧ q_wp (d + 1) c M (pc + 1) ls st (h.1, h.2.1, q_up h.2.2.1 a i.toNatClampNeg (some b), h.2.2.2) Q) := by rw [q_at hd]; simp [q_ins, q_pI, q_pR]
theorem w_arraylength {a : Nat} (hd : decode (q_b M) pc = .ok (.arraylength, 1)) : q_wp (d + 1) c M pc ls (.ref a :: st) h Q = ((100 ≤ (h.2.2.2.1 a).1 ∧ (h.2.2.2.1 a).1 < 119) ∧ q_wp (d + 1) c M (pc + 1) ls (.int (Int32.ofNat (h.2.2.2.1 a).2) :: st) h Q) := by rw [q_at hd]; simp [q_ins, q_pR]
theorem w_newarray {t : ArrayType} {z : Nat} {k : Int32} (hd : decode (q_b M) pc = .ok (.newarray t, 2)) (hz : q_ak t = some z) : q_wp (d + 1) c M pc ls (.int k :: st) h Q = ((¬ k < 0 ∧ k.toNatClampNeg ≤ 1200 ∧ 1 ≤ c) ∧ q_wp (d + 1) (c - 1) M (pc + 2) ls (.ref h.2.2.2.2 :: st) (q_mal h z k.toNatClampNeg) Q) := by rw [q_at hd]; simp [q_ins, q_pI, q_o, hz]
theorem w_anewarray {i ci p1 p2 p3 : Nat} {k : Int32} (hd : decode (q_b M) pc = .ok (.anewarray i, 3)) (hz : q_nt (M / 1000) i = some (ci, p1, p2, p3)) (hc : 4 ≤ ci ∧ ci < 7 ∨ ci = 1) : q_wp (d + 1) c M pc ls (.int k :: st) h Q = ((¬ k < 0 ∧ k.toNatClampNeg ≤ 1200 ∧ 1 ≤ c) ∧ q_wp (d + 1) (c - 1) M (pc + 3) ls (.ref h.2.2.2.2 :: st) (q_mal h (110 + ci) k.toNatClampNeg) Q) := by rw [q_at hd]; simp [q_ins, q_pI, q_o, hz, hc]
theorem w_multi {i p : Nat} {k N : Int32} (hd : decode (q_b M) pc = .ok (.multianewarray i 2, 4)) (hz : q_mt (M / 1000) i = some p) : q_wp (d + 1) c M pc ls (.int k :: .int N :: st) h Q = ((¬ k < 0 ∧ ¬ N < 0 ∧ k.toNatClampNeg ≤ 1000 ∧ 1 + N.toNatClampNeg ≤ c ∧ N.toNatClampNeg ≤ 1000) ∧ q_wp (d + 1) (c - (1 + N.toNatClampNeg)) M (pc + 4) ls (.ref h.2.2.2.2 :: st) (q_mal2 h N.toNatClampNeg k.toNatClampNeg) Q) := by rw [q_at hd]; simp [q_ins, q_pI, q_o, hz]
theorem w_new {i ci p1 p2 p3 : Nat} (hd : decode (q_b M) pc = .ok (.new i, 3)) (hz : q_nt (M / 1000) i = some (ci, p1, p2, p3)) (hc : ci < 9) : q_wp (d + 1) c M pc ls st h Q = (1 ≤ c ∧ q_wp (d + 1) (c - 1) M (pc + 3) ls (.ref h.2.2.2.2 :: st) (q_mal h ci 0) Q) := by rw [q_at hd]; simp [q_ins, q_o, hz, hc]
theorem w_getI {i ci k p a : Nat} (hd : decode (q_b M) pc = .ok (.getfield i, 3)) (hz : q_f (M / 1000) i = some (ci, k, p)) (hr : q_isR ci k = false) : q_wp (d + 1) c M pc ls (.ref a :: st) h Q = ((32 ≤ a ∧ (h.2.2.2.1 a).1 = ci) ∧ q_wp (d + 1) c M (pc + 3) ls (.int (h.1 a k) :: st) h Q) := by rw [q_at hd]; simp [q_ins, q_pR, q_oe, hz, q_fv, hr]
theorem w_getR {i ci k p a : Nat} (hd : decode (q_b M) pc = .ok (.getfield i, 3)) (hz : q_f (M / 1000) i = some (ci, k, p)) (hr : q_isR ci k = true) : q_wp (d + 1) c M pc ls (.ref a :: st) h Q = ((32 ≤ a ∧ (h.2.2.2.1 a).1 = ci) ∧ q_wp (d + 1) c M (pc + 3) ls (va_rf (h.2.2.1 a k) :: st) h Q) := by rw [q_at hd]; simp [q_ins, q_pR, q_oe, hz, q_fv, hr]
theorem w_getSv {i p a : Nat} (hd : decode (q_b M) pc = .ok (.getfield i, 3)) (hn : q_f (M / 1000) i = none) (hz : q_sf (M / 1000) i = some (0, p)) : q_wp (d + 1) c M pc ls (.ref a :: st) h Q = ((3 ≤ a ∧ a < 16) ∧ q_wp (d + 1) c M (pc + 3) ls (.ref (a + 13) :: st) h Q) := by rw [q_at hd]; simp [q_ins, q_pR, q_oe, q_o, hn, hz]
theorem w_getSc {i p a : Nat} (hd : decode (q_b M) pc = .ok (.getfield i, 3)) (hn : q_f (M / 1000) i = none) (hz : q_sf (M / 1000) i = some (1, p)) : q_wp (d + 1) c M pc ls (.ref a :: st) h Q = ((3 ≤ a ∧ a < 16) ∧ q_wp (d + 1) c M (pc + 3) ls (.int 0 :: st) h Q) := by rw [q_at hd]; simp [q_ins, q_pR, q_oe, q_o, hn, hz]
theorem w_putI {i ci k p a : Nat} {v : Int32} (hd : decode (q_b M) pc = .ok (.putfield i, 3)) (hz : q_f (M / 1000) i = some (ci, k, p)) (hok : q_fok M ci k = true) (hr : q_isR ci k = false) (ht : q_tyf ci k = .int) : q_wp (d + 1) c M pc ls (.int v :: .ref a :: st) h Q = ((32 ≤ a ∧ (h.2.2.2.1 a).1 = ci) ∧ q_wp (d + 1) c M (pc + 3) ls st (q_up h.1 a k v, h.2) Q) := by rw [q_at hd]; simp [q_ins, q_pI, q_pR, q_o, hz, hok, hr, ht, narrow]
theorem w_putZ {i ci k p a : Nat} {v : Int32} (hd : decode (q_b M) pc = .ok (.putfield i, 3)) (hz : q_f (M / 1000) i = some (ci, k, p)) (hok : q_fok M ci k = true) (hr : q_isR ci k = false) (ht : q_tyf ci k = .boolean) : q_wp (d + 1) c M pc ls (.int v :: .ref a :: st) h Q = ((32 ≤ a ∧ (h.2.2.2.1 a).1 = ci ∧ narrow .boolean (.int v) = .int v) ∧ q_wp (d + 1) c M (pc + 3) ls st (q_up h.1 a k v, h.2) Q) := by rw [q_at hd]; simp [q_ins, q_pI, q_pR, q_o, hz, hok, hr, ht]
theorem w_putR {i ci k p a b : Nat} (hd : decode (q_b M) pc = .ok (.putfield i, 3)) (hz : q_f (M / 1000) i = some (ci, k, p)) (hok : q_fok M ci k = true) (hr : q_isR ci k = true) : q_wp (d + 1) c M pc ls (.ref b :: .ref a :: st) h Q = ((32 ≤ a ∧ (h.2.2.2.1 a).1 = ci ∧ 32 ≤ b) ∧ q_wp (d + 1) c M (pc + 3) ls st (h.1, h.2.1, q_up h.2.2.1 a k (some b), h.2.2.2) Q) := by rw [q_at hd]; simp [q_ins, q_pA, q_pR, q_o, hz, hok, hr, q_vr, q_rok]
theorem w_gets {i j p : Nat} {v : Value} (hd : decode (q_b M) pc = .ok (.getstatic i, 3)) (hz : q_st (M / 1000) i = some (j, p)) (hv : (if j = 0 then .ref 0 else if j = 1 then .ref 1 else if j = 2 then .int 1 else .ref 29 : Value) = v) : q_wp (d + 1) c M pc ls st h Q = q_wp (d + 1) c M (pc + 3) ls (v :: st) h Q := by rw [q_at hd]; subst hv; simp [q_ins, q_o, hz]
theorem w_copy {i s dd p1 p2 p3 p4 p5 p6 : Nat} {n dp sp : Int32} (hd : decode (q_b M) pc = .ok (.invokestatic i, 3)) (hz : q_c (M / 1000) i = some (5, p1, p2, p3, p4, p5, p6)) : q_wp (d + 1) c M pc ls (.int n :: .int dp :: .ref dd :: .int sp :: .ref s :: st) h Q =
    ((32 ≤ s ∧ 32 ≤ dd ∧ (h.2.2.2.1 s).1 = 100 ∧ (h.2.2.2.1 dd).1 = 100 ∧ (¬ sp < 0 ∧ ¬ dp < 0 ∧ ¬ n < 0) ∧ sp.toNatClampNeg + n.toNatClampNeg ≤ (h.2.2.2.1 s).2 ∧ dp.toNatClampNeg + n.toNatClampNeg ≤ (h.2.2.2.1 dd).2 ∧ q_cs st ≤ 8) ∧
    q_wp (d + 1) c M (pc + 3) ls st (q_nw h.1 dd (va_cpy (h.1 s) (h.1 dd) sp.toNatClampNeg dp.toNatClampNeg n.toNatClampNeg), h.2) Q) := by rw [q_at hd]; simp only [q_ins, q_o, hz, if_true, q_copy, q_pI, q_pR, true_and]
theorem w_oinit {i a p1 p2 p3 p4 p5 p6 : Nat} (hd : decode (q_b M) pc = .ok (.invokespecial i, 3)) (hz : q_c (M / 1000) i = some (4, p1, p2, p3, p4, p5, p6)) : q_wp (d + 1) c M pc ls (.ref a :: st) h Q = ((32 ≤ a ∧ q_cs st ≤ 8) ∧ q_wp (d + 1) c M (pc + 3) ls st h Q) := by rw [q_at hd]; simp [q_ins, q_o, hz, q_pR]
theorem w_iret {v : Int32} (hd : decode (q_b M) pc = .ok (.ireturn, 1)) (hr : q_rt M = some .int) : q_wp (d + 1) c M pc ls [.int v] h Q = Q (some (.int v)) h := by
  rw [q_at hd]; simp only [q_ins, q_pI, q_o, true_and]; rw [show (q_md M).2.2.2.1 = some .int from hr]; simp [narrow]
theorem w_nret {v : Int32} {ty : FieldType} (hd : decode (q_b M) pc = .ok (.ireturn, 1)) (hr : q_rt M = some ty) : q_wp (d + 1) c M pc ls [.int v] h Q = (narrow ty (.int v) = .int v ∧ Q (some (.int v)) h) := by
  rw [q_at hd]; simp only [q_ins, q_pI, q_o, true_and]; rw [show (q_md M).2.2.2.1 = some ty from hr]
theorem w_lret {v : Int64} (hd : decode (q_b M) pc = .ok (.lreturn, 1)) (hr : q_rt M = some .long) : q_wp (d + 1) c M pc ls [.long v] h Q = Q (some (.long v)) h := by
  rw [q_at hd]; simp only [q_ins, q_pJ, true_and]; rw [show (q_md M).2.2.2.1 = some .long from hr]; simp
theorem w_aret {a : Nat} {ty : FieldType} (hd : decode (q_b M) pc = .ok (.areturn, 1)) (hr : q_rt M = some ty) (ht : ty.isReference = true) : q_wp (d + 1) c M pc ls [.ref a] h Q = (32 ≤ a ∧ Q (some (.ref a)) h) := by
  rw [q_at hd]; simp only [q_ins, q_pA, q_o, true_and]; rw [show (q_md M).2.2.2.1 = some ty from hr]; simp [ht, q_rok]
theorem w_aretN {ty : FieldType} (hd : decode (q_b M) pc = .ok (.areturn, 1)) (hr : q_rt M = some ty) (ht : ty.isReference = true) : q_wp (d + 1) c M pc ls [.null] h Q = Q (some .null) h := by
  rw [q_at hd]; simp only [q_ins, q_pA, q_o, true_and]; rw [show (q_md M).2.2.2.1 = some ty from hr]; simp [ht, q_rok]
theorem w_ret (hd : decode (q_b M) pc = .ok (.return_, 1)) (hr : q_rt M = none) : q_wp (d + 1) c M pc ls [] h Q = Q none h := by
  rw [q_at hd]; simp only [q_ins, true_and]; rw [show (q_md M).2.2.2.1 = none from hr]; simp
/-- a table's branches, one by one -/
def q_ts (X : Nat → Prop) (x : Int32) (df : Nat) : Int → List Nat → Prop
  | _, [] => X df
  | lo, t :: r => if x = Int32.ofInt lo then X t else q_ts X x df (lo + 1) r
theorem q_ofInt {z : Int} (h1 : -2147483648 ≤ z) (h2 : z < 2147483648) : (Int32.ofInt z).toInt = z := by
  rw [Int32.toInt_ofInt]
  exact Int.bmod_eq_of_le_mul_two (by show -((4294967296 : Nat) : Int) ≤ z * 2; omega) (by show z * 2 < ((4294967296 : Nat) : Int); omega)
theorem q_ts_out (X : Nat → Prop) (x : Int32) (df : Nat) : ∀ (ts : List Nat) (lo : Int), -2147483648 ≤ lo → lo + ts.length ≤ 2147483648 → (x.toInt < lo ∨ lo + ts.length ≤ x.toInt) → q_ts X x df lo ts = X df
  | [], _, _, _, _ => rfl
  | t :: r, lo, h0, hl, h => by
    simp only [List.length_cons] at hl h
    unfold q_ts
    rw [if_neg, q_ts_out X x df r (lo + 1) (by omega) (by omega) (by omega)]
    intro e
    rw [e, q_ofInt (by omega) (by omega)] at h
    omega
theorem q_ts_in (X : Nat → Prop) (x : Int32) (df : Nat) : ∀ (ts : List Nat) (lo : Int) (k t : Nat), -2147483648 ≤ lo → lo + ts.length ≤ 2147483648 → x.toInt = lo + k → ts[k]? = some t → q_ts X x df lo ts = X t
  | [], _, _, _, _, _, _, h => by cases h
  | t0 :: r, lo, 0, t, h0, hl, hx, ht => by
    cases ht
    simp only [List.length_cons] at hl
    unfold q_ts
    rw [if_pos]
    apply Int32.toInt_inj.mp
    rw [q_ofInt (by omega) (by omega)]
    omega
  | t0 :: r, lo, k + 1, t, h0, hl, hx, ht => by
    have hk : k < r.length := (List.getElem?_eq_some_iff.mp (show r[k]? = some t from ht)).1
    simp only [List.length_cons] at hl
    unfold q_ts
    rw [if_neg, q_ts_in X x df r (lo + 1) k t (by omega) (by omega) (by omega) ht]
    intro e
    rw [e, q_ofInt (by omega) (by omega)] at hx
    omega
theorem w_table {df lo hi : Int} {offs : Array Int} {n tdf : Nat} {ts : List Nat} {x : Int32} (hd : decode (q_b M) pc = .ok (.tableswitch df lo hi offs, n)) (h1 : (pc : Int) + df = (tdf : Int)) (h2 : offs.toList.map (fun o => (pc : Int) + o) = ts.map (fun t : Nat => (t : Int))) (h3 : hi + 1 = lo + ts.length) (h4 : -2147483648 ≤ lo ∧ lo + ts.length ≤ 2147483648) :
    q_wp (d + 1) c M pc ls (.int x :: st) h Q = q_ts (fun t => q_wp (d + 1) c M t ls st h Q) x tdf lo ts := by
  rw [q_at hd]
  simp only [q_ins, q_pI]
  by_cases hz : x.toInt < lo ∨ hi < x.toInt
  · rw [if_pos hz, q_ts_out _ _ _ _ _ h4.1 h4.2 (by omega)]
    obtain ⟨g1, g2⟩ := q_tg_of h1
    simp only [g1, g2, true_and]
  · rw [if_neg hz]
    have hl : offs.toList.length = ts.length := by have := congrArg List.length h2; simpa using this
    obtain ⟨k, hk1, hk2⟩ : ∃ k : Nat, k < ts.length ∧ x.toInt = lo + k := ⟨(x.toInt - lo).toNat, by omega, by omega⟩
    have e1 : (x.toInt - lo).toNat = k := by omega
    have hko : k < offs.toList.length := by omega
    have e2 : offs[k]? = some (offs.toList[k]'hko) := by rw [← Array.getElem?_toList]; exact List.getElem?_eq_getElem hko
    have e3 := congrArg (fun l : List Int => l[k]?) h2
    simp only [List.getElem?_map, List.getElem?_eq_getElem hko, List.getElem?_eq_getElem hk1, Option.map_some] at e3
    obtain ⟨g1, g2⟩ := q_tg_of (Option.some.inj e3)
    rw [e1, e2]
    simp only [q_o, g1, g2, true_and]
    rw [q_ts_in _ x tdf ts lo k _ h4.1 h4.2 hk2 (List.getElem?_eq_getElem hk1)]
theorem w_lookup {df : Int} {ps : Array (Int × Int)} {n : Nat} {x : Int32} {tg : Nat} (hd : decode (q_b M) pc = .ok (.lookupswitch df ps, n)) (hs : (ps.toList.zip (ps.toList.drop 1)).all (fun (a, next) => a.1 < next.1) = true) (ht : (pc : Int) + Op.lookupswitch.offset ps.toList df x.toInt = (tg : Int)) : q_wp (d + 1) c M pc ls (.int x :: st) h Q = q_wp (d + 1) c M tg ls st h Q := by
  rw [q_at hd]; obtain ⟨h1, h2⟩ := q_tg_of ht; simp only [q_ins, q_pI, hs, h1, h2, true_and]
theorem w_stat0 {i M' al ml p1 p2 p3 p4 : Nat} (hd : decode (q_b M) pc = .ok (.invokestatic i, 3)) (hz : q_c (M / 1000) i = some (0, M', 0, p1, p2, p3, p4)) (ha : q_al M' = al) (hm : q_ml M' = ml) : q_wp (d + 1) c M pc ls (st) h Q = (q_cs st ≤ 8 ∧ q_cs [] ≤ ml ∧ al ≤ c ∧ q_wp d al M' 0 (q_ent ml []) [] h (fun r h' => q_wp (d + 1) (c - al) M (pc + 3) ls (r.toList ++ st) h' Q)) := by
  rw [q_at hd]; subst ha; subst hm; simp [q_ins, q_o, hz, q_call]
theorem w_virt0 {i a M' ci al ml p1 p2 p3 p4 : Nat} (hd : decode (q_b M) pc = .ok (.invokevirtual i, 3)) (hz : q_c (M / 1000) i = some (1, M', 0, p1, p2, p3, p4)) (hc : M' / 1000 = ci) (h9 : ci < 9) (ha : q_al M' = al) (hm : q_ml M' = ml) : q_wp (d + 1) c M pc ls (.ref a :: st) h Q = ((32 ≤ a ∧ (h.2.2.2.1 a).1 = ci) ∧ q_cs st ≤ 8 ∧ q_cs [.ref a] ≤ ml ∧ al ≤ c ∧ q_wp d al M' 0 (q_ent ml [.ref a]) [] h (fun r h' => q_wp (d + 1) (c - al) M (pc + 3) ls (r.toList ++ st) h' Q)) := by
  rw [q_at hd]; subst ha; subst hm; subst hc
  simp only [q_ins, q_o, hz, q_call, true_and, List.length_cons, List.drop_succ_cons, List.drop_zero, List.take_succ_cons, List.take_zero, q_pR, List.reverse_cons, List.reverse_nil, List.nil_append, List.cons_append]
  refine propext ⟨fun ⟨h0, h1, h2⟩ => ⟨?_, h2⟩, fun ⟨h1, h2⟩ => ⟨by omega, ?_, h2⟩⟩
  · by_cases hb : a < 32
    · rw [if_pos hb] at h1; omega
    · rw [if_neg hb] at h1; exact ⟨by omega, h1.2.symm⟩
  · rw [if_neg (by omega)]; exact ⟨by omega, h1.2.symm⟩
theorem w_str0 {i a M' al ml p1 p2 p3 p4 : Nat} (hd : decode (q_b M) pc = .ok (.invokevirtual i, 3)) (hz : q_c (M / 1000) i = some (1, M', 0, p1, p2, p3, p4)) (hc : M' / 1000 = 11) (h16 : 3 ≤ a ∧ a < 16) (ha : q_al M' = al) (hm : q_ml M' = ml) : q_wp (d + 1) c M pc ls (.ref a :: st) h Q = (q_cs st ≤ 8 ∧ q_cs [.ref a] ≤ ml ∧ al ≤ c ∧ q_wp d al M' 0 (q_ent ml [.ref a]) [] h (fun r h' => q_wp (d + 1) (c - al) M (pc + 3) ls (r.toList ++ st) h' Q)) := by
  rw [q_at hd]; subst ha; subst hm
  simp only [q_ins, q_o, hz, q_call, true_and, List.length_cons, List.drop_succ_cons, List.drop_zero, List.take_succ_cons, List.take_zero, q_pR, List.reverse_cons, List.reverse_nil, List.nil_append, List.cons_append]
  refine propext ⟨fun ⟨h0, h1, h2⟩ => h2, fun h2 => ⟨by omega, ?_, h2⟩⟩
  rw [if_pos (by omega)]; exact ⟨h16, hc⟩
theorem w_spec0 {i a md M' al ml p1 p2 p3 p4 : Nat} (hd : decode (q_b M) pc = .ok (.invokespecial i, 3)) (hz : q_c (M / 1000) i = some (md, M', 0, p1, p2, p3, p4)) (hc : md = 2 ∨ md = 3) (ha : q_al M' = al) (hm : q_ml M' = ml) : q_wp (d + 1) c M pc ls (.ref a :: st) h Q = (32 ≤ a ∧ q_cs st ≤ 8 ∧ q_cs [.ref a] ≤ ml ∧ al ≤ c ∧ q_wp d al M' 0 (q_ent ml [.ref a]) [] h (fun r h' => q_wp (d + 1) (c - al) M (pc + 3) ls (r.toList ++ st) h' Q)) := by
  rw [q_at hd]; subst ha; subst hm
  have h4 : ¬ md = 4 := by omega
  simp [q_ins, q_o, hz, q_call, h4, hc, q_pR]
theorem w_stat1 {i M' al ml p1 p2 p3 p4 : Nat} {v0 : Value} (hd : decode (q_b M) pc = .ok (.invokestatic i, 3)) (hz : q_c (M / 1000) i = some (0, M', 1, p1, p2, p3, p4)) (ha : q_al M' = al) (hm : q_ml M' = ml) : q_wp (d + 1) c M pc ls (v0 :: st) h Q = (q_cs st ≤ 8 ∧ q_cs [v0] ≤ ml ∧ al ≤ c ∧ q_wp d al M' 0 (q_ent ml [v0]) [] h (fun r h' => q_wp (d + 1) (c - al) M (pc + 3) ls (r.toList ++ st) h' Q)) := by
  rw [q_at hd]; subst ha; subst hm; simp [q_ins, q_o, hz, q_call]
theorem w_virt1 {i a M' ci al ml p1 p2 p3 p4 : Nat} {v0 : Value} (hd : decode (q_b M) pc = .ok (.invokevirtual i, 3)) (hz : q_c (M / 1000) i = some (1, M', 1, p1, p2, p3, p4)) (hc : M' / 1000 = ci) (h9 : ci < 9) (ha : q_al M' = al) (hm : q_ml M' = ml) : q_wp (d + 1) c M pc ls (v0 :: .ref a :: st) h Q = ((32 ≤ a ∧ (h.2.2.2.1 a).1 = ci) ∧ q_cs st ≤ 8 ∧ q_cs [.ref a, v0] ≤ ml ∧ al ≤ c ∧ q_wp d al M' 0 (q_ent ml [.ref a, v0]) [] h (fun r h' => q_wp (d + 1) (c - al) M (pc + 3) ls (r.toList ++ st) h' Q)) := by
  rw [q_at hd]; subst ha; subst hm; subst hc
  simp only [q_ins, q_o, hz, q_call, true_and, List.length_cons, List.drop_succ_cons, List.drop_zero, List.take_succ_cons, List.take_zero, q_pR, List.reverse_cons, List.reverse_nil, List.nil_append, List.cons_append]
  refine propext ⟨fun ⟨h0, h1, h2⟩ => ⟨?_, h2⟩, fun ⟨h1, h2⟩ => ⟨by omega, ?_, h2⟩⟩
  · by_cases hb : a < 32
    · rw [if_pos hb] at h1; omega
    · rw [if_neg hb] at h1; exact ⟨by omega, h1.2.symm⟩
  · rw [if_neg (by omega)]; exact ⟨by omega, h1.2.symm⟩
theorem w_str1 {i a M' al ml p1 p2 p3 p4 : Nat} {v0 : Value} (hd : decode (q_b M) pc = .ok (.invokevirtual i, 3)) (hz : q_c (M / 1000) i = some (1, M', 1, p1, p2, p3, p4)) (hc : M' / 1000 = 11) (h16 : 3 ≤ a ∧ a < 16) (ha : q_al M' = al) (hm : q_ml M' = ml) : q_wp (d + 1) c M pc ls (v0 :: .ref a :: st) h Q = (q_cs st ≤ 8 ∧ q_cs [.ref a, v0] ≤ ml ∧ al ≤ c ∧ q_wp d al M' 0 (q_ent ml [.ref a, v0]) [] h (fun r h' => q_wp (d + 1) (c - al) M (pc + 3) ls (r.toList ++ st) h' Q)) := by
  rw [q_at hd]; subst ha; subst hm
  simp only [q_ins, q_o, hz, q_call, true_and, List.length_cons, List.drop_succ_cons, List.drop_zero, List.take_succ_cons, List.take_zero, q_pR, List.reverse_cons, List.reverse_nil, List.nil_append, List.cons_append]
  refine propext ⟨fun ⟨h0, h1, h2⟩ => h2, fun h2 => ⟨by omega, ?_, h2⟩⟩
  rw [if_pos (by omega)]; exact ⟨h16, hc⟩
theorem w_spec1 {i a md M' al ml p1 p2 p3 p4 : Nat} {v0 : Value} (hd : decode (q_b M) pc = .ok (.invokespecial i, 3)) (hz : q_c (M / 1000) i = some (md, M', 1, p1, p2, p3, p4)) (hc : md = 2 ∨ md = 3) (ha : q_al M' = al) (hm : q_ml M' = ml) : q_wp (d + 1) c M pc ls (v0 :: .ref a :: st) h Q = (32 ≤ a ∧ q_cs st ≤ 8 ∧ q_cs [.ref a, v0] ≤ ml ∧ al ≤ c ∧ q_wp d al M' 0 (q_ent ml [.ref a, v0]) [] h (fun r h' => q_wp (d + 1) (c - al) M (pc + 3) ls (r.toList ++ st) h' Q)) := by
  rw [q_at hd]; subst ha; subst hm
  have h4 : ¬ md = 4 := by omega
  simp [q_ins, q_o, hz, q_call, h4, hc, q_pR]
theorem w_stat2 {i M' al ml p1 p2 p3 p4 : Nat} {v0 v1 : Value} (hd : decode (q_b M) pc = .ok (.invokestatic i, 3)) (hz : q_c (M / 1000) i = some (0, M', 2, p1, p2, p3, p4)) (ha : q_al M' = al) (hm : q_ml M' = ml) : q_wp (d + 1) c M pc ls (v1 :: v0 :: st) h Q = (q_cs st ≤ 8 ∧ q_cs [v0, v1] ≤ ml ∧ al ≤ c ∧ q_wp d al M' 0 (q_ent ml [v0, v1]) [] h (fun r h' => q_wp (d + 1) (c - al) M (pc + 3) ls (r.toList ++ st) h' Q)) := by
  rw [q_at hd]; subst ha; subst hm; simp [q_ins, q_o, hz, q_call]
theorem w_virt2 {i a M' ci al ml p1 p2 p3 p4 : Nat} {v0 v1 : Value} (hd : decode (q_b M) pc = .ok (.invokevirtual i, 3)) (hz : q_c (M / 1000) i = some (1, M', 2, p1, p2, p3, p4)) (hc : M' / 1000 = ci) (h9 : ci < 9) (ha : q_al M' = al) (hm : q_ml M' = ml) : q_wp (d + 1) c M pc ls (v1 :: v0 :: .ref a :: st) h Q = ((32 ≤ a ∧ (h.2.2.2.1 a).1 = ci) ∧ q_cs st ≤ 8 ∧ q_cs [.ref a, v0, v1] ≤ ml ∧ al ≤ c ∧ q_wp d al M' 0 (q_ent ml [.ref a, v0, v1]) [] h (fun r h' => q_wp (d + 1) (c - al) M (pc + 3) ls (r.toList ++ st) h' Q)) := by
  rw [q_at hd]; subst ha; subst hm; subst hc
  simp only [q_ins, q_o, hz, q_call, true_and, List.length_cons, List.drop_succ_cons, List.drop_zero, List.take_succ_cons, List.take_zero, q_pR, List.reverse_cons, List.reverse_nil, List.nil_append, List.cons_append]
  refine propext ⟨fun ⟨h0, h1, h2⟩ => ⟨?_, h2⟩, fun ⟨h1, h2⟩ => ⟨by omega, ?_, h2⟩⟩
  · by_cases hb : a < 32
    · rw [if_pos hb] at h1; omega
    · rw [if_neg hb] at h1; exact ⟨by omega, h1.2.symm⟩
  · rw [if_neg (by omega)]; exact ⟨by omega, h1.2.symm⟩
theorem w_spec2 {i a md M' al ml p1 p2 p3 p4 : Nat} {v0 v1 : Value} (hd : decode (q_b M) pc = .ok (.invokespecial i, 3)) (hz : q_c (M / 1000) i = some (md, M', 2, p1, p2, p3, p4)) (hc : md = 2 ∨ md = 3) (ha : q_al M' = al) (hm : q_ml M' = ml) : q_wp (d + 1) c M pc ls (v1 :: v0 :: .ref a :: st) h Q = (32 ≤ a ∧ q_cs st ≤ 8 ∧ q_cs [.ref a, v0, v1] ≤ ml ∧ al ≤ c ∧ q_wp d al M' 0 (q_ent ml [.ref a, v0, v1]) [] h (fun r h' => q_wp (d + 1) (c - al) M (pc + 3) ls (r.toList ++ st) h' Q)) := by
  rw [q_at hd]; subst ha; subst hm
  have h4 : ¬ md = 4 := by omega
  simp [q_ins, q_o, hz, q_call, h4, hc, q_pR]
theorem w_stat3 {i M' al ml p1 p2 p3 p4 : Nat} {v0 v1 v2 : Value} (hd : decode (q_b M) pc = .ok (.invokestatic i, 3)) (hz : q_c (M / 1000) i = some (0, M', 3, p1, p2, p3, p4)) (ha : q_al M' = al) (hm : q_ml M' = ml) : q_wp (d + 1) c M pc ls (v2 :: v1 :: v0 :: st) h Q = (q_cs st ≤ 8 ∧ q_cs [v0, v1, v2] ≤ ml ∧ al ≤ c ∧ q_wp d al M' 0 (q_ent ml [v0, v1, v2]) [] h (fun r h' => q_wp (d + 1) (c - al) M (pc + 3) ls (r.toList ++ st) h' Q)) := by
  rw [q_at hd]; subst ha; subst hm; simp [q_ins, q_o, hz, q_call]
theorem w_virt3 {i a M' ci al ml p1 p2 p3 p4 : Nat} {v0 v1 v2 : Value} (hd : decode (q_b M) pc = .ok (.invokevirtual i, 3)) (hz : q_c (M / 1000) i = some (1, M', 3, p1, p2, p3, p4)) (hc : M' / 1000 = ci) (h9 : ci < 9) (ha : q_al M' = al) (hm : q_ml M' = ml) : q_wp (d + 1) c M pc ls (v2 :: v1 :: v0 :: .ref a :: st) h Q = ((32 ≤ a ∧ (h.2.2.2.1 a).1 = ci) ∧ q_cs st ≤ 8 ∧ q_cs [.ref a, v0, v1, v2] ≤ ml ∧ al ≤ c ∧ q_wp d al M' 0 (q_ent ml [.ref a, v0, v1, v2]) [] h (fun r h' => q_wp (d + 1) (c - al) M (pc + 3) ls (r.toList ++ st) h' Q)) := by
  rw [q_at hd]; subst ha; subst hm; subst hc
  simp only [q_ins, q_o, hz, q_call, true_and, List.length_cons, List.drop_succ_cons, List.drop_zero, List.take_succ_cons, List.take_zero, q_pR, List.reverse_cons, List.reverse_nil, List.nil_append, List.cons_append]
  refine propext ⟨fun ⟨h0, h1, h2⟩ => ⟨?_, h2⟩, fun ⟨h1, h2⟩ => ⟨by omega, ?_, h2⟩⟩
  · by_cases hb : a < 32
    · rw [if_pos hb] at h1; omega
    · rw [if_neg hb] at h1; exact ⟨by omega, h1.2.symm⟩
  · rw [if_neg (by omega)]; exact ⟨by omega, h1.2.symm⟩
theorem w_spec3 {i a md M' al ml p1 p2 p3 p4 : Nat} {v0 v1 v2 : Value} (hd : decode (q_b M) pc = .ok (.invokespecial i, 3)) (hz : q_c (M / 1000) i = some (md, M', 3, p1, p2, p3, p4)) (hc : md = 2 ∨ md = 3) (ha : q_al M' = al) (hm : q_ml M' = ml) : q_wp (d + 1) c M pc ls (v2 :: v1 :: v0 :: .ref a :: st) h Q = (32 ≤ a ∧ q_cs st ≤ 8 ∧ q_cs [.ref a, v0, v1, v2] ≤ ml ∧ al ≤ c ∧ q_wp d al M' 0 (q_ent ml [.ref a, v0, v1, v2]) [] h (fun r h' => q_wp (d + 1) (c - al) M (pc + 3) ls (r.toList ++ st) h' Q)) := by
  rw [q_at hd]; subst ha; subst hm
  have h4 : ¬ md = 4 := by omega
  simp [q_ins, q_o, hz, q_call, h4, hc, q_pR]
theorem w_stat4 {i M' al ml p1 p2 p3 p4 : Nat} {v0 v1 v2 v3 : Value} (hd : decode (q_b M) pc = .ok (.invokestatic i, 3)) (hz : q_c (M / 1000) i = some (0, M', 4, p1, p2, p3, p4)) (ha : q_al M' = al) (hm : q_ml M' = ml) : q_wp (d + 1) c M pc ls (v3 :: v2 :: v1 :: v0 :: st) h Q = (q_cs st ≤ 8 ∧ q_cs [v0, v1, v2, v3] ≤ ml ∧ al ≤ c ∧ q_wp d al M' 0 (q_ent ml [v0, v1, v2, v3]) [] h (fun r h' => q_wp (d + 1) (c - al) M (pc + 3) ls (r.toList ++ st) h' Q)) := by
  rw [q_at hd]; subst ha; subst hm; simp [q_ins, q_o, hz, q_call]
theorem w_virt4 {i a M' ci al ml p1 p2 p3 p4 : Nat} {v0 v1 v2 v3 : Value} (hd : decode (q_b M) pc = .ok (.invokevirtual i, 3)) (hz : q_c (M / 1000) i = some (1, M', 4, p1, p2, p3, p4)) (hc : M' / 1000 = ci) (h9 : ci < 9) (ha : q_al M' = al) (hm : q_ml M' = ml) : q_wp (d + 1) c M pc ls (v3 :: v2 :: v1 :: v0 :: .ref a :: st) h Q = ((32 ≤ a ∧ (h.2.2.2.1 a).1 = ci) ∧ q_cs st ≤ 8 ∧ q_cs [.ref a, v0, v1, v2, v3] ≤ ml ∧ al ≤ c ∧ q_wp d al M' 0 (q_ent ml [.ref a, v0, v1, v2, v3]) [] h (fun r h' => q_wp (d + 1) (c - al) M (pc + 3) ls (r.toList ++ st) h' Q)) := by
  rw [q_at hd]; subst ha; subst hm; subst hc
  simp only [q_ins, q_o, hz, q_call, true_and, List.length_cons, List.drop_succ_cons, List.drop_zero, List.take_succ_cons, List.take_zero, q_pR, List.reverse_cons, List.reverse_nil, List.nil_append, List.cons_append]
  refine propext ⟨fun ⟨h0, h1, h2⟩ => ⟨?_, h2⟩, fun ⟨h1, h2⟩ => ⟨by omega, ?_, h2⟩⟩
  · by_cases hb : a < 32
    · rw [if_pos hb] at h1; omega
    · rw [if_neg hb] at h1; exact ⟨by omega, h1.2.symm⟩
  · rw [if_neg (by omega)]; exact ⟨by omega, h1.2.symm⟩
theorem w_spec4 {i a md M' al ml p1 p2 p3 p4 : Nat} {v0 v1 v2 v3 : Value} (hd : decode (q_b M) pc = .ok (.invokespecial i, 3)) (hz : q_c (M / 1000) i = some (md, M', 4, p1, p2, p3, p4)) (hc : md = 2 ∨ md = 3) (ha : q_al M' = al) (hm : q_ml M' = ml) : q_wp (d + 1) c M pc ls (v3 :: v2 :: v1 :: v0 :: .ref a :: st) h Q = (32 ≤ a ∧ q_cs st ≤ 8 ∧ q_cs [.ref a, v0, v1, v2, v3] ≤ ml ∧ al ≤ c ∧ q_wp d al M' 0 (q_ent ml [.ref a, v0, v1, v2, v3]) [] h (fun r h' => q_wp (d + 1) (c - al) M (pc + 3) ls (r.toList ++ st) h' Q)) := by
  rw [q_at hd]; subst ha; subst hm
  have h4 : ¬ md = 4 := by omega
  simp [q_ins, q_o, hz, q_call, h4, hc, q_pR]
theorem w_stat5 {i M' al ml p1 p2 p3 p4 : Nat} {v0 v1 v2 v3 v4 : Value} (hd : decode (q_b M) pc = .ok (.invokestatic i, 3)) (hz : q_c (M / 1000) i = some (0, M', 5, p1, p2, p3, p4)) (ha : q_al M' = al) (hm : q_ml M' = ml) : q_wp (d + 1) c M pc ls (v4 :: v3 :: v2 :: v1 :: v0 :: st) h Q = (q_cs st ≤ 8 ∧ q_cs [v0, v1, v2, v3, v4] ≤ ml ∧ al ≤ c ∧ q_wp d al M' 0 (q_ent ml [v0, v1, v2, v3, v4]) [] h (fun r h' => q_wp (d + 1) (c - al) M (pc + 3) ls (r.toList ++ st) h' Q)) := by
  rw [q_at hd]; subst ha; subst hm; simp [q_ins, q_o, hz, q_call]
theorem w_virt5 {i a M' ci al ml p1 p2 p3 p4 : Nat} {v0 v1 v2 v3 v4 : Value} (hd : decode (q_b M) pc = .ok (.invokevirtual i, 3)) (hz : q_c (M / 1000) i = some (1, M', 5, p1, p2, p3, p4)) (hc : M' / 1000 = ci) (h9 : ci < 9) (ha : q_al M' = al) (hm : q_ml M' = ml) : q_wp (d + 1) c M pc ls (v4 :: v3 :: v2 :: v1 :: v0 :: .ref a :: st) h Q = ((32 ≤ a ∧ (h.2.2.2.1 a).1 = ci) ∧ q_cs st ≤ 8 ∧ q_cs [.ref a, v0, v1, v2, v3, v4] ≤ ml ∧ al ≤ c ∧ q_wp d al M' 0 (q_ent ml [.ref a, v0, v1, v2, v3, v4]) [] h (fun r h' => q_wp (d + 1) (c - al) M (pc + 3) ls (r.toList ++ st) h' Q)) := by
  rw [q_at hd]; subst ha; subst hm; subst hc
  simp only [q_ins, q_o, hz, q_call, true_and, List.length_cons, List.drop_succ_cons, List.drop_zero, List.take_succ_cons, List.take_zero, q_pR, List.reverse_cons, List.reverse_nil, List.nil_append, List.cons_append]
  refine propext ⟨fun ⟨h0, h1, h2⟩ => ⟨?_, h2⟩, fun ⟨h1, h2⟩ => ⟨by omega, ?_, h2⟩⟩
  · by_cases hb : a < 32
    · rw [if_pos hb] at h1; omega
    · rw [if_neg hb] at h1; exact ⟨by omega, h1.2.symm⟩
  · rw [if_neg (by omega)]; exact ⟨by omega, h1.2.symm⟩
theorem w_spec5 {i a md M' al ml p1 p2 p3 p4 : Nat} {v0 v1 v2 v3 v4 : Value} (hd : decode (q_b M) pc = .ok (.invokespecial i, 3)) (hz : q_c (M / 1000) i = some (md, M', 5, p1, p2, p3, p4)) (hc : md = 2 ∨ md = 3) (ha : q_al M' = al) (hm : q_ml M' = ml) : q_wp (d + 1) c M pc ls (v4 :: v3 :: v2 :: v1 :: v0 :: .ref a :: st) h Q = (32 ≤ a ∧ q_cs st ≤ 8 ∧ q_cs [.ref a, v0, v1, v2, v3, v4] ≤ ml ∧ al ≤ c ∧ q_wp d al M' 0 (q_ent ml [.ref a, v0, v1, v2, v3, v4]) [] h (fun r h' => q_wp (d + 1) (c - al) M (pc + 3) ls (r.toList ++ st) h' Q)) := by
  rw [q_at hd]; subst ha; subst hm
  have h4 : ¬ md = 4 := by omega
  simp [q_ins, q_o, hz, q_call, h4, hc, q_pR]
theorem w_stat6 {i M' al ml p1 p2 p3 p4 : Nat} {v0 v1 v2 v3 v4 v5 : Value} (hd : decode (q_b M) pc = .ok (.invokestatic i, 3)) (hz : q_c (M / 1000) i = some (0, M', 6, p1, p2, p3, p4)) (ha : q_al M' = al) (hm : q_ml M' = ml) : q_wp (d + 1) c M pc ls (v5 :: v4 :: v3 :: v2 :: v1 :: v0 :: st) h Q = (q_cs st ≤ 8 ∧ q_cs [v0, v1, v2, v3, v4, v5] ≤ ml ∧ al ≤ c ∧ q_wp d al M' 0 (q_ent ml [v0, v1, v2, v3, v4, v5]) [] h (fun r h' => q_wp (d + 1) (c - al) M (pc + 3) ls (r.toList ++ st) h' Q)) := by
  rw [q_at hd]; subst ha; subst hm; simp [q_ins, q_o, hz, q_call]
theorem w_virt6 {i a M' ci al ml p1 p2 p3 p4 : Nat} {v0 v1 v2 v3 v4 v5 : Value} (hd : decode (q_b M) pc = .ok (.invokevirtual i, 3)) (hz : q_c (M / 1000) i = some (1, M', 6, p1, p2, p3, p4)) (hc : M' / 1000 = ci) (h9 : ci < 9) (ha : q_al M' = al) (hm : q_ml M' = ml) : q_wp (d + 1) c M pc ls (v5 :: v4 :: v3 :: v2 :: v1 :: v0 :: .ref a :: st) h Q = ((32 ≤ a ∧ (h.2.2.2.1 a).1 = ci) ∧ q_cs st ≤ 8 ∧ q_cs [.ref a, v0, v1, v2, v3, v4, v5] ≤ ml ∧ al ≤ c ∧ q_wp d al M' 0 (q_ent ml [.ref a, v0, v1, v2, v3, v4, v5]) [] h (fun r h' => q_wp (d + 1) (c - al) M (pc + 3) ls (r.toList ++ st) h' Q)) := by
  rw [q_at hd]; subst ha; subst hm; subst hc
  simp only [q_ins, q_o, hz, q_call, true_and, List.length_cons, List.drop_succ_cons, List.drop_zero, List.take_succ_cons, List.take_zero, q_pR, List.reverse_cons, List.reverse_nil, List.nil_append, List.cons_append]
  refine propext ⟨fun ⟨h0, h1, h2⟩ => ⟨?_, h2⟩, fun ⟨h1, h2⟩ => ⟨by omega, ?_, h2⟩⟩
  · by_cases hb : a < 32
    · rw [if_pos hb] at h1; omega
    · rw [if_neg hb] at h1; exact ⟨by omega, h1.2.symm⟩
  · rw [if_neg (by omega)]; exact ⟨by omega, h1.2.symm⟩
theorem w_spec6 {i a md M' al ml p1 p2 p3 p4 : Nat} {v0 v1 v2 v3 v4 v5 : Value} (hd : decode (q_b M) pc = .ok (.invokespecial i, 3)) (hz : q_c (M / 1000) i = some (md, M', 6, p1, p2, p3, p4)) (hc : md = 2 ∨ md = 3) (ha : q_al M' = al) (hm : q_ml M' = ml) : q_wp (d + 1) c M pc ls (v5 :: v4 :: v3 :: v2 :: v1 :: v0 :: .ref a :: st) h Q = (32 ≤ a ∧ q_cs st ≤ 8 ∧ q_cs [.ref a, v0, v1, v2, v3, v4, v5] ≤ ml ∧ al ≤ c ∧ q_wp d al M' 0 (q_ent ml [.ref a, v0, v1, v2, v3, v4, v5]) [] h (fun r h' => q_wp (d + 1) (c - al) M (pc + 3) ls (r.toList ++ st) h' Q)) := by
  rw [q_at hd]; subst ha; subst hm
  have h4 : ¬ md = 4 := by omega
  simp [q_ins, q_o, hz, q_call, h4, hc, q_pR]
theorem w_stat7 {i M' al ml p1 p2 p3 p4 : Nat} {v0 v1 v2 v3 v4 v5 v6 : Value} (hd : decode (q_b M) pc = .ok (.invokestatic i, 3)) (hz : q_c (M / 1000) i = some (0, M', 7, p1, p2, p3, p4)) (ha : q_al M' = al) (hm : q_ml M' = ml) : q_wp (d + 1) c M pc ls (v6 :: v5 :: v4 :: v3 :: v2 :: v1 :: v0 :: st) h Q = (q_cs st ≤ 8 ∧ q_cs [v0, v1, v2, v3, v4, v5, v6] ≤ ml ∧ al ≤ c ∧ q_wp d al M' 0 (q_ent ml [v0, v1, v2, v3, v4, v5, v6]) [] h (fun r h' => q_wp (d + 1) (c - al) M (pc + 3) ls (r.toList ++ st) h' Q)) := by
  rw [q_at hd]; subst ha; subst hm; simp [q_ins, q_o, hz, q_call]
theorem w_virt7 {i a M' ci al ml p1 p2 p3 p4 : Nat} {v0 v1 v2 v3 v4 v5 v6 : Value} (hd : decode (q_b M) pc = .ok (.invokevirtual i, 3)) (hz : q_c (M / 1000) i = some (1, M', 7, p1, p2, p3, p4)) (hc : M' / 1000 = ci) (h9 : ci < 9) (ha : q_al M' = al) (hm : q_ml M' = ml) : q_wp (d + 1) c M pc ls (v6 :: v5 :: v4 :: v3 :: v2 :: v1 :: v0 :: .ref a :: st) h Q = ((32 ≤ a ∧ (h.2.2.2.1 a).1 = ci) ∧ q_cs st ≤ 8 ∧ q_cs [.ref a, v0, v1, v2, v3, v4, v5, v6] ≤ ml ∧ al ≤ c ∧ q_wp d al M' 0 (q_ent ml [.ref a, v0, v1, v2, v3, v4, v5, v6]) [] h (fun r h' => q_wp (d + 1) (c - al) M (pc + 3) ls (r.toList ++ st) h' Q)) := by
  rw [q_at hd]; subst ha; subst hm; subst hc
  simp only [q_ins, q_o, hz, q_call, true_and, List.length_cons, List.drop_succ_cons, List.drop_zero, List.take_succ_cons, List.take_zero, q_pR, List.reverse_cons, List.reverse_nil, List.nil_append, List.cons_append]
  refine propext ⟨fun ⟨h0, h1, h2⟩ => ⟨?_, h2⟩, fun ⟨h1, h2⟩ => ⟨by omega, ?_, h2⟩⟩
  · by_cases hb : a < 32
    · rw [if_pos hb] at h1; omega
    · rw [if_neg hb] at h1; exact ⟨by omega, h1.2.symm⟩
  · rw [if_neg (by omega)]; exact ⟨by omega, h1.2.symm⟩
theorem w_spec7 {i a md M' al ml p1 p2 p3 p4 : Nat} {v0 v1 v2 v3 v4 v5 v6 : Value} (hd : decode (q_b M) pc = .ok (.invokespecial i, 3)) (hz : q_c (M / 1000) i = some (md, M', 7, p1, p2, p3, p4)) (hc : md = 2 ∨ md = 3) (ha : q_al M' = al) (hm : q_ml M' = ml) : q_wp (d + 1) c M pc ls (v6 :: v5 :: v4 :: v3 :: v2 :: v1 :: v0 :: .ref a :: st) h Q = (32 ≤ a ∧ q_cs st ≤ 8 ∧ q_cs [.ref a, v0, v1, v2, v3, v4, v5, v6] ≤ ml ∧ al ≤ c ∧ q_wp d al M' 0 (q_ent ml [.ref a, v0, v1, v2, v3, v4, v5, v6]) [] h (fun r h' => q_wp (d + 1) (c - al) M (pc + 3) ls (r.toList ++ st) h' Q)) := by
  rw [q_at hd]; subst ha; subst hm
  have h4 : ¬ md = 4 := by omega
  simp [q_ins, q_o, hz, q_call, h4, hc, q_pR]
theorem w_statz0 {i M' ml p1 p2 p3 p4 : Nat} {E : List Value} (hd : decode (q_b M) pc = .ok (.invokestatic i, 3)) (hz : q_c (M / 1000) i = some (0, M', 0, p1, p2, p3, p4)) (ha : q_al M' = 0) (hm : q_ml M' = ml) (hc : q_cs [] ≤ ml) (he : q_ent ml [] = E) : q_wp (d + 1) c M pc ls (st) h Q = (q_cs st ≤ 8 ∧ q_wp d 0 M' 0 E [] h (fun r h' => q_wp (d + 1) c M (pc + 3) ls (r.toList ++ st) h' Q)) := by
  rw [w_stat0 hd hz ha hm, he]; simp only [hc, Nat.zero_le, true_and, Nat.sub_zero]
theorem w_virtz0 {i a M' ci ml p1 p2 p3 p4 : Nat} {E : List Value} (hd : decode (q_b M) pc = .ok (.invokevirtual i, 3)) (hz : q_c (M / 1000) i = some (1, M', 0, p1, p2, p3, p4)) (hci : M' / 1000 = ci) (h9 : ci < 9) (ha : q_al M' = 0) (hm : q_ml M' = ml) (hc : q_cs [.ref a] ≤ ml) (he : q_ent ml [.ref a] = E) : q_wp (d + 1) c M pc ls (.ref a :: st) h Q = ((32 ≤ a ∧ (h.2.2.2.1 a).1 = ci) ∧ q_cs st ≤ 8 ∧ q_wp d 0 M' 0 E [] h (fun r h' => q_wp (d + 1) c M (pc + 3) ls (r.toList ++ st) h' Q)) := by
  rw [w_virt0 hd hz hci h9 ha hm, he]; simp only [hc, Nat.zero_le, true_and, Nat.sub_zero]
theorem w_strz0 {i a M' ml p1 p2 p3 p4 : Nat} {E : List Value} (hd : decode (q_b M) pc = .ok (.invokevirtual i, 3)) (hz : q_c (M / 1000) i = some (1, M', 0, p1, p2, p3, p4)) (hci : M' / 1000 = 11) (ha : q_al M' = 0) (hm : q_ml M' = ml) (hc : q_cs [.ref a] ≤ ml) (he : q_ent ml [.ref a] = E) (h16 : 3 ≤ a ∧ a < 16) : q_wp (d + 1) c M pc ls (.ref a :: st) h Q = (q_cs st ≤ 8 ∧ q_wp d 0 M' 0 E [] h (fun r h' => q_wp (d + 1) c M (pc + 3) ls (r.toList ++ st) h' Q)) := by
  rw [w_str0 hd hz hci h16 ha hm, he]; simp only [hc, Nat.zero_le, true_and, Nat.sub_zero]
theorem w_specz0 {i a md M' ml p1 p2 p3 p4 : Nat} {E : List Value} (hd : decode (q_b M) pc = .ok (.invokespecial i, 3)) (hz : q_c (M / 1000) i = some (md, M', 0, p1, p2, p3, p4)) (hmd : md = 2 ∨ md = 3) (ha : q_al M' = 0) (hm : q_ml M' = ml) (hc : q_cs [.ref a] ≤ ml) (he : q_ent ml [.ref a] = E) : q_wp (d + 1) c M pc ls (.ref a :: st) h Q = (32 ≤ a ∧ q_cs st ≤ 8 ∧ q_wp d 0 M' 0 E [] h (fun r h' => q_wp (d + 1) c M (pc + 3) ls (r.toList ++ st) h' Q)) := by
  rw [w_spec0 hd hz hmd ha hm, he]; simp only [hc, Nat.zero_le, true_and, Nat.sub_zero]
theorem w_speca0 {i a md M' al ml p1 p2 p3 p4 : Nat} {E : List Value} (hd : decode (q_b M) pc = .ok (.invokespecial i, 3)) (hz : q_c (M / 1000) i = some (md, M', 0, p1, p2, p3, p4)) (hmd : md = 2 ∨ md = 3) (ha : q_al M' = al) (hm : q_ml M' = ml) (hc : q_cs [.ref a] ≤ ml) (he : q_ent ml [.ref a] = E) : q_wp (d + 1) c M pc ls (.ref a :: st) h Q = (32 ≤ a ∧ q_cs st ≤ 8 ∧ al ≤ c ∧ q_wp d al M' 0 E [] h (fun r h' => q_wp (d + 1) (c - al) M (pc + 3) ls (r.toList ++ st) h' Q)) := by
  rw [w_spec0 hd hz hmd ha hm, he]; simp only [hc, true_and]
theorem w_virta0 {i a M' ci al ml p1 p2 p3 p4 : Nat} {E : List Value} (hd : decode (q_b M) pc = .ok (.invokevirtual i, 3)) (hz : q_c (M / 1000) i = some (1, M', 0, p1, p2, p3, p4)) (hci : M' / 1000 = ci) (h9 : ci < 9) (ha : q_al M' = al) (hm : q_ml M' = ml) (hc : q_cs [.ref a] ≤ ml) (he : q_ent ml [.ref a] = E) : q_wp (d + 1) c M pc ls (.ref a :: st) h Q = ((32 ≤ a ∧ (h.2.2.2.1 a).1 = ci) ∧ q_cs st ≤ 8 ∧ al ≤ c ∧ q_wp d al M' 0 E [] h (fun r h' => q_wp (d + 1) (c - al) M (pc + 3) ls (r.toList ++ st) h' Q)) := by
  rw [w_virt0 hd hz hci h9 ha hm, he]; simp only [hc, true_and]
theorem w_statz1 {i M' ml p1 p2 p3 p4 : Nat} {E : List Value} {v0 : Value} (hd : decode (q_b M) pc = .ok (.invokestatic i, 3)) (hz : q_c (M / 1000) i = some (0, M', 1, p1, p2, p3, p4)) (ha : q_al M' = 0) (hm : q_ml M' = ml) (hc : q_cs [v0] ≤ ml) (he : q_ent ml [v0] = E) : q_wp (d + 1) c M pc ls (v0 :: st) h Q = (q_cs st ≤ 8 ∧ q_wp d 0 M' 0 E [] h (fun r h' => q_wp (d + 1) c M (pc + 3) ls (r.toList ++ st) h' Q)) := by
  rw [w_stat1 hd hz ha hm, he]; simp only [hc, Nat.zero_le, true_and, Nat.sub_zero]
theorem w_virtz1 {i a M' ci ml p1 p2 p3 p4 : Nat} {E : List Value} {v0 : Value} (hd : decode (q_b M) pc = .ok (.invokevirtual i, 3)) (hz : q_c (M / 1000) i = some (1, M', 1, p1, p2, p3, p4)) (hci : M' / 1000 = ci) (h9 : ci < 9) (ha : q_al M' = 0) (hm : q_ml M' = ml) (hc : q_cs [.ref a, v0] ≤ ml) (he : q_ent ml [.ref a, v0] = E) : q_wp (d + 1) c M pc ls (v0 :: .ref a :: st) h Q = ((32 ≤ a ∧ (h.2.2.2.1 a).1 = ci) ∧ q_cs st ≤ 8 ∧ q_wp d 0 M' 0 E [] h (fun r h' => q_wp (d + 1) c M (pc + 3) ls (r.toList ++ st) h' Q)) := by
  rw [w_virt1 hd hz hci h9 ha hm, he]; simp only [hc, Nat.zero_le, true_and, Nat.sub_zero]
theorem w_strz1 {i a M' ml p1 p2 p3 p4 : Nat} {E : List Value} {v0 : Value} (hd : decode (q_b M) pc = .ok (.invokevirtual i, 3)) (hz : q_c (M / 1000) i = some (1, M', 1, p1, p2, p3, p4)) (hci : M' / 1000 = 11) (ha : q_al M' = 0) (hm : q_ml M' = ml) (hc : q_cs [.ref a, v0] ≤ ml) (he : q_ent ml [.ref a, v0] = E) (h16 : 3 ≤ a ∧ a < 16) : q_wp (d + 1) c M pc ls (v0 :: .ref a :: st) h Q = (q_cs st ≤ 8 ∧ q_wp d 0 M' 0 E [] h (fun r h' => q_wp (d + 1) c M (pc + 3) ls (r.toList ++ st) h' Q)) := by
  rw [w_str1 hd hz hci h16 ha hm, he]; simp only [hc, Nat.zero_le, true_and, Nat.sub_zero]
theorem w_specz1 {i a md M' ml p1 p2 p3 p4 : Nat} {E : List Value} {v0 : Value} (hd : decode (q_b M) pc = .ok (.invokespecial i, 3)) (hz : q_c (M / 1000) i = some (md, M', 1, p1, p2, p3, p4)) (hmd : md = 2 ∨ md = 3) (ha : q_al M' = 0) (hm : q_ml M' = ml) (hc : q_cs [.ref a, v0] ≤ ml) (he : q_ent ml [.ref a, v0] = E) : q_wp (d + 1) c M pc ls (v0 :: .ref a :: st) h Q = (32 ≤ a ∧ q_cs st ≤ 8 ∧ q_wp d 0 M' 0 E [] h (fun r h' => q_wp (d + 1) c M (pc + 3) ls (r.toList ++ st) h' Q)) := by
  rw [w_spec1 hd hz hmd ha hm, he]; simp only [hc, Nat.zero_le, true_and, Nat.sub_zero]
theorem w_speca1 {i a md M' al ml p1 p2 p3 p4 : Nat} {E : List Value} {v0 : Value} (hd : decode (q_b M) pc = .ok (.invokespecial i, 3)) (hz : q_c (M / 1000) i = some (md, M', 1, p1, p2, p3, p4)) (hmd : md = 2 ∨ md = 3) (ha : q_al M' = al) (hm : q_ml M' = ml) (hc : q_cs [.ref a, v0] ≤ ml) (he : q_ent ml [.ref a, v0] = E) : q_wp (d + 1) c M pc ls (v0 :: .ref a :: st) h Q = (32 ≤ a ∧ q_cs st ≤ 8 ∧ al ≤ c ∧ q_wp d al M' 0 E [] h (fun r h' => q_wp (d + 1) (c - al) M (pc + 3) ls (r.toList ++ st) h' Q)) := by
  rw [w_spec1 hd hz hmd ha hm, he]; simp only [hc, true_and]
theorem w_virta1 {i a M' ci al ml p1 p2 p3 p4 : Nat} {E : List Value} {v0 : Value} (hd : decode (q_b M) pc = .ok (.invokevirtual i, 3)) (hz : q_c (M / 1000) i = some (1, M', 1, p1, p2, p3, p4)) (hci : M' / 1000 = ci) (h9 : ci < 9) (ha : q_al M' = al) (hm : q_ml M' = ml) (hc : q_cs [.ref a, v0] ≤ ml) (he : q_ent ml [.ref a, v0] = E) : q_wp (d + 1) c M pc ls (v0 :: .ref a :: st) h Q = ((32 ≤ a ∧ (h.2.2.2.1 a).1 = ci) ∧ q_cs st ≤ 8 ∧ al ≤ c ∧ q_wp d al M' 0 E [] h (fun r h' => q_wp (d + 1) (c - al) M (pc + 3) ls (r.toList ++ st) h' Q)) := by
  rw [w_virt1 hd hz hci h9 ha hm, he]; simp only [hc, true_and]
theorem w_statz2 {i M' ml p1 p2 p3 p4 : Nat} {E : List Value} {v0 v1 : Value} (hd : decode (q_b M) pc = .ok (.invokestatic i, 3)) (hz : q_c (M / 1000) i = some (0, M', 2, p1, p2, p3, p4)) (ha : q_al M' = 0) (hm : q_ml M' = ml) (hc : q_cs [v0, v1] ≤ ml) (he : q_ent ml [v0, v1] = E) : q_wp (d + 1) c M pc ls (v1 :: v0 :: st) h Q = (q_cs st ≤ 8 ∧ q_wp d 0 M' 0 E [] h (fun r h' => q_wp (d + 1) c M (pc + 3) ls (r.toList ++ st) h' Q)) := by
  rw [w_stat2 hd hz ha hm, he]; simp only [hc, Nat.zero_le, true_and, Nat.sub_zero]
theorem w_virtz2 {i a M' ci ml p1 p2 p3 p4 : Nat} {E : List Value} {v0 v1 : Value} (hd : decode (q_b M) pc = .ok (.invokevirtual i, 3)) (hz : q_c (M / 1000) i = some (1, M', 2, p1, p2, p3, p4)) (hci : M' / 1000 = ci) (h9 : ci < 9) (ha : q_al M' = 0) (hm : q_ml M' = ml) (hc : q_cs [.ref a, v0, v1] ≤ ml) (he : q_ent ml [.ref a, v0, v1] = E) : q_wp (d + 1) c M pc ls (v1 :: v0 :: .ref a :: st) h Q = ((32 ≤ a ∧ (h.2.2.2.1 a).1 = ci) ∧ q_cs st ≤ 8 ∧ q_wp d 0 M' 0 E [] h (fun r h' => q_wp (d + 1) c M (pc + 3) ls (r.toList ++ st) h' Q)) := by
  rw [w_virt2 hd hz hci h9 ha hm, he]; simp only [hc, Nat.zero_le, true_and, Nat.sub_zero]
theorem w_specz2 {i a md M' ml p1 p2 p3 p4 : Nat} {E : List Value} {v0 v1 : Value} (hd : decode (q_b M) pc = .ok (.invokespecial i, 3)) (hz : q_c (M / 1000) i = some (md, M', 2, p1, p2, p3, p4)) (hmd : md = 2 ∨ md = 3) (ha : q_al M' = 0) (hm : q_ml M' = ml) (hc : q_cs [.ref a, v0, v1] ≤ ml) (he : q_ent ml [.ref a, v0, v1] = E) : q_wp (d + 1) c M pc ls (v1 :: v0 :: .ref a :: st) h Q = (32 ≤ a ∧ q_cs st ≤ 8 ∧ q_wp d 0 M' 0 E [] h (fun r h' => q_wp (d + 1) c M (pc + 3) ls (r.toList ++ st) h' Q)) := by
  rw [w_spec2 hd hz hmd ha hm, he]; simp only [hc, Nat.zero_le, true_and, Nat.sub_zero]
theorem w_speca2 {i a md M' al ml p1 p2 p3 p4 : Nat} {E : List Value} {v0 v1 : Value} (hd : decode (q_b M) pc = .ok (.invokespecial i, 3)) (hz : q_c (M / 1000) i = some (md, M', 2, p1, p2, p3, p4)) (hmd : md = 2 ∨ md = 3) (ha : q_al M' = al) (hm : q_ml M' = ml) (hc : q_cs [.ref a, v0, v1] ≤ ml) (he : q_ent ml [.ref a, v0, v1] = E) : q_wp (d + 1) c M pc ls (v1 :: v0 :: .ref a :: st) h Q = (32 ≤ a ∧ q_cs st ≤ 8 ∧ al ≤ c ∧ q_wp d al M' 0 E [] h (fun r h' => q_wp (d + 1) (c - al) M (pc + 3) ls (r.toList ++ st) h' Q)) := by
  rw [w_spec2 hd hz hmd ha hm, he]; simp only [hc, true_and]
theorem w_virta2 {i a M' ci al ml p1 p2 p3 p4 : Nat} {E : List Value} {v0 v1 : Value} (hd : decode (q_b M) pc = .ok (.invokevirtual i, 3)) (hz : q_c (M / 1000) i = some (1, M', 2, p1, p2, p3, p4)) (hci : M' / 1000 = ci) (h9 : ci < 9) (ha : q_al M' = al) (hm : q_ml M' = ml) (hc : q_cs [.ref a, v0, v1] ≤ ml) (he : q_ent ml [.ref a, v0, v1] = E) : q_wp (d + 1) c M pc ls (v1 :: v0 :: .ref a :: st) h Q = ((32 ≤ a ∧ (h.2.2.2.1 a).1 = ci) ∧ q_cs st ≤ 8 ∧ al ≤ c ∧ q_wp d al M' 0 E [] h (fun r h' => q_wp (d + 1) (c - al) M (pc + 3) ls (r.toList ++ st) h' Q)) := by
  rw [w_virt2 hd hz hci h9 ha hm, he]; simp only [hc, true_and]
theorem w_statz3 {i M' ml p1 p2 p3 p4 : Nat} {E : List Value} {v0 v1 v2 : Value} (hd : decode (q_b M) pc = .ok (.invokestatic i, 3)) (hz : q_c (M / 1000) i = some (0, M', 3, p1, p2, p3, p4)) (ha : q_al M' = 0) (hm : q_ml M' = ml) (hc : q_cs [v0, v1, v2] ≤ ml) (he : q_ent ml [v0, v1, v2] = E) : q_wp (d + 1) c M pc ls (v2 :: v1 :: v0 :: st) h Q = (q_cs st ≤ 8 ∧ q_wp d 0 M' 0 E [] h (fun r h' => q_wp (d + 1) c M (pc + 3) ls (r.toList ++ st) h' Q)) := by
  rw [w_stat3 hd hz ha hm, he]; simp only [hc, Nat.zero_le, true_and, Nat.sub_zero]
theorem w_virtz3 {i a M' ci ml p1 p2 p3 p4 : Nat} {E : List Value} {v0 v1 v2 : Value} (hd : decode (q_b M) pc = .ok (.invokevirtual i, 3)) (hz : q_c (M / 1000) i = some (1, M', 3, p1, p2, p3, p4)) (hci : M' / 1000 = ci) (h9 : ci < 9) (ha : q_al M' = 0) (hm : q_ml M' = ml) (hc : q_cs [.ref a, v0, v1, v2] ≤ ml) (he : q_ent ml [.ref a, v0, v1, v2] = E) : q_wp (d + 1) c M pc ls (v2 :: v1 :: v0 :: .ref a :: st) h Q = ((32 ≤ a ∧ (h.2.2.2.1 a).1 = ci) ∧ q_cs st ≤ 8 ∧ q_wp d 0 M' 0 E [] h (fun r h' => q_wp (d + 1) c M (pc + 3) ls (r.toList ++ st) h' Q)) := by
  rw [w_virt3 hd hz hci h9 ha hm, he]; simp only [hc, Nat.zero_le, true_and, Nat.sub_zero]
theorem w_specz3 {i a md M' ml p1 p2 p3 p4 : Nat} {E : List Value} {v0 v1 v2 : Value} (hd : decode (q_b M) pc = .ok (.invokespecial i, 3)) (hz : q_c (M / 1000) i = some (md, M', 3, p1, p2, p3, p4)) (hmd : md = 2 ∨ md = 3) (ha : q_al M' = 0) (hm : q_ml M' = ml) (hc : q_cs [.ref a, v0, v1, v2] ≤ ml) (he : q_ent ml [.ref a, v0, v1, v2] = E) : q_wp (d + 1) c M pc ls (v2 :: v1 :: v0 :: .ref a :: st) h Q = (32 ≤ a ∧ q_cs st ≤ 8 ∧ q_wp d 0 M' 0 E [] h (fun r h' => q_wp (d + 1) c M (pc + 3) ls (r.toList ++ st) h' Q)) := by
  rw [w_spec3 hd hz hmd ha hm, he]; simp only [hc, Nat.zero_le, true_and, Nat.sub_zero]
theorem w_speca3 {i a md M' al ml p1 p2 p3 p4 : Nat} {E : List Value} {v0 v1 v2 : Value} (hd : decode (q_b M) pc = .ok (.invokespecial i, 3)) (hz : q_c (M / 1000) i = some (md, M', 3, p1, p2, p3, p4)) (hmd : md = 2 ∨ md = 3) (ha : q_al M' = al) (hm : q_ml M' = ml) (hc : q_cs [.ref a, v0, v1, v2] ≤ ml) (he : q_ent ml [.ref a, v0, v1, v2] = E) : q_wp (d + 1) c M pc ls (v2 :: v1 :: v0 :: .ref a :: st) h Q = (32 ≤ a ∧ q_cs st ≤ 8 ∧ al ≤ c ∧ q_wp d al M' 0 E [] h (fun r h' => q_wp (d + 1) (c - al) M (pc + 3) ls (r.toList ++ st) h' Q)) := by
  rw [w_spec3 hd hz hmd ha hm, he]; simp only [hc, true_and]
theorem w_virta3 {i a M' ci al ml p1 p2 p3 p4 : Nat} {E : List Value} {v0 v1 v2 : Value} (hd : decode (q_b M) pc = .ok (.invokevirtual i, 3)) (hz : q_c (M / 1000) i = some (1, M', 3, p1, p2, p3, p4)) (hci : M' / 1000 = ci) (h9 : ci < 9) (ha : q_al M' = al) (hm : q_ml M' = ml) (hc : q_cs [.ref a, v0, v1, v2] ≤ ml) (he : q_ent ml [.ref a, v0, v1, v2] = E) : q_wp (d + 1) c M pc ls (v2 :: v1 :: v0 :: .ref a :: st) h Q = ((32 ≤ a ∧ (h.2.2.2.1 a).1 = ci) ∧ q_cs st ≤ 8 ∧ al ≤ c ∧ q_wp d al M' 0 E [] h (fun r h' => q_wp (d + 1) (c - al) M (pc + 3) ls (r.toList ++ st) h' Q)) := by
  rw [w_virt3 hd hz hci h9 ha hm, he]; simp only [hc, true_and]
theorem w_statz4 {i M' ml p1 p2 p3 p4 : Nat} {E : List Value} {v0 v1 v2 v3 : Value} (hd : decode (q_b M) pc = .ok (.invokestatic i, 3)) (hz : q_c (M / 1000) i = some (0, M', 4, p1, p2, p3, p4)) (ha : q_al M' = 0) (hm : q_ml M' = ml) (hc : q_cs [v0, v1, v2, v3] ≤ ml) (he : q_ent ml [v0, v1, v2, v3] = E) : q_wp (d + 1) c M pc ls (v3 :: v2 :: v1 :: v0 :: st) h Q = (q_cs st ≤ 8 ∧ q_wp d 0 M' 0 E [] h (fun r h' => q_wp (d + 1) c M (pc + 3) ls (r.toList ++ st) h' Q)) := by
  rw [w_stat4 hd hz ha hm, he]; simp only [hc, Nat.zero_le, true_and, Nat.sub_zero]
theorem w_virtz4 {i a M' ci ml p1 p2 p3 p4 : Nat} {E : List Value} {v0 v1 v2 v3 : Value} (hd : decode (q_b M) pc = .ok (.invokevirtual i, 3)) (hz : q_c (M / 1000) i = some (1, M', 4, p1, p2, p3, p4)) (hci : M' / 1000 = ci) (h9 : ci < 9) (ha : q_al M' = 0) (hm : q_ml M' = ml) (hc : q_cs [.ref a, v0, v1, v2, v3] ≤ ml) (he : q_ent ml [.ref a, v0, v1, v2, v3] = E) : q_wp (d + 1) c M pc ls (v3 :: v2 :: v1 :: v0 :: .ref a :: st) h Q = ((32 ≤ a ∧ (h.2.2.2.1 a).1 = ci) ∧ q_cs st ≤ 8 ∧ q_wp d 0 M' 0 E [] h (fun r h' => q_wp (d + 1) c M (pc + 3) ls (r.toList ++ st) h' Q)) := by
  rw [w_virt4 hd hz hci h9 ha hm, he]; simp only [hc, Nat.zero_le, true_and, Nat.sub_zero]
theorem w_specz4 {i a md M' ml p1 p2 p3 p4 : Nat} {E : List Value} {v0 v1 v2 v3 : Value} (hd : decode (q_b M) pc = .ok (.invokespecial i, 3)) (hz : q_c (M / 1000) i = some (md, M', 4, p1, p2, p3, p4)) (hmd : md = 2 ∨ md = 3) (ha : q_al M' = 0) (hm : q_ml M' = ml) (hc : q_cs [.ref a, v0, v1, v2, v3] ≤ ml) (he : q_ent ml [.ref a, v0, v1, v2, v3] = E) : q_wp (d + 1) c M pc ls (v3 :: v2 :: v1 :: v0 :: .ref a :: st) h Q = (32 ≤ a ∧ q_cs st ≤ 8 ∧ q_wp d 0 M' 0 E [] h (fun r h' => q_wp (d + 1) c M (pc + 3) ls (r.toList ++ st) h' Q)) := by
  rw [w_spec4 hd hz hmd ha hm, he]; simp only [hc, Nat.zero_le, true_and, Nat.sub_zero]
theorem w_speca4 {i a md M' al ml p1 p2 p3 p4 : Nat} {E : List Value} {v0 v1 v2 v3 : Value} (hd : decode (q_b M) pc = .ok (.invokespecial i, 3)) (hz : q_c (M / 1000) i = some (md, M', 4, p1, p2, p3, p4)) (hmd : md = 2 ∨ md = 3) (ha : q_al M' = al) (hm : q_ml M' = ml) (hc : q_cs [.ref a, v0, v1, v2, v3] ≤ ml) (he : q_ent ml [.ref a, v0, v1, v2, v3] = E) : q_wp (d + 1) c M pc ls (v3 :: v2 :: v1 :: v0 :: .ref a :: st) h Q = (32 ≤ a ∧ q_cs st ≤ 8 ∧ al ≤ c ∧ q_wp d al M' 0 E [] h (fun r h' => q_wp (d + 1) (c - al) M (pc + 3) ls (r.toList ++ st) h' Q)) := by
  rw [w_spec4 hd hz hmd ha hm, he]; simp only [hc, true_and]
theorem w_virta4 {i a M' ci al ml p1 p2 p3 p4 : Nat} {E : List Value} {v0 v1 v2 v3 : Value} (hd : decode (q_b M) pc = .ok (.invokevirtual i, 3)) (hz : q_c (M / 1000) i = some (1, M', 4, p1, p2, p3, p4)) (hci : M' / 1000 = ci) (h9 : ci < 9) (ha : q_al M' = al) (hm : q_ml M' = ml) (hc : q_cs [.ref a, v0, v1, v2, v3] ≤ ml) (he : q_ent ml [.ref a, v0, v1, v2, v3] = E) : q_wp (d + 1) c M pc ls (v3 :: v2 :: v1 :: v0 :: .ref a :: st) h Q = ((32 ≤ a ∧ (h.2.2.2.1 a).1 = ci) ∧ q_cs st ≤ 8 ∧ al ≤ c ∧ q_wp d al M' 0 E [] h (fun r h' => q_wp (d + 1) (c - al) M (pc + 3) ls (r.toList ++ st) h' Q)) := by
  rw [w_virt4 hd hz hci h9 ha hm, he]; simp only [hc, true_and]
theorem w_statz5 {i M' ml p1 p2 p3 p4 : Nat} {E : List Value} {v0 v1 v2 v3 v4 : Value} (hd : decode (q_b M) pc = .ok (.invokestatic i, 3)) (hz : q_c (M / 1000) i = some (0, M', 5, p1, p2, p3, p4)) (ha : q_al M' = 0) (hm : q_ml M' = ml) (hc : q_cs [v0, v1, v2, v3, v4] ≤ ml) (he : q_ent ml [v0, v1, v2, v3, v4] = E) : q_wp (d + 1) c M pc ls (v4 :: v3 :: v2 :: v1 :: v0 :: st) h Q = (q_cs st ≤ 8 ∧ q_wp d 0 M' 0 E [] h (fun r h' => q_wp (d + 1) c M (pc + 3) ls (r.toList ++ st) h' Q)) := by
  rw [w_stat5 hd hz ha hm, he]; simp only [hc, Nat.zero_le, true_and, Nat.sub_zero]
theorem w_virtz5 {i a M' ci ml p1 p2 p3 p4 : Nat} {E : List Value} {v0 v1 v2 v3 v4 : Value} (hd : decode (q_b M) pc = .ok (.invokevirtual i, 3)) (hz : q_c (M / 1000) i = some (1, M', 5, p1, p2, p3, p4)) (hci : M' / 1000 = ci) (h9 : ci < 9) (ha : q_al M' = 0) (hm : q_ml M' = ml) (hc : q_cs [.ref a, v0, v1, v2, v3, v4] ≤ ml) (he : q_ent ml [.ref a, v0, v1, v2, v3, v4] = E) : q_wp (d + 1) c M pc ls (v4 :: v3 :: v2 :: v1 :: v0 :: .ref a :: st) h Q = ((32 ≤ a ∧ (h.2.2.2.1 a).1 = ci) ∧ q_cs st ≤ 8 ∧ q_wp d 0 M' 0 E [] h (fun r h' => q_wp (d + 1) c M (pc + 3) ls (r.toList ++ st) h' Q)) := by
  rw [w_virt5 hd hz hci h9 ha hm, he]; simp only [hc, Nat.zero_le, true_and, Nat.sub_zero]
theorem w_specz5 {i a md M' ml p1 p2 p3 p4 : Nat} {E : List Value} {v0 v1 v2 v3 v4 : Value} (hd : decode (q_b M) pc = .ok (.invokespecial i, 3)) (hz : q_c (M / 1000) i = some (md, M', 5, p1, p2, p3, p4)) (hmd : md = 2 ∨ md = 3) (ha : q_al M' = 0) (hm : q_ml M' = ml) (hc : q_cs [.ref a, v0, v1, v2, v3, v4] ≤ ml) (he : q_ent ml [.ref a, v0, v1, v2, v3, v4] = E) : q_wp (d + 1) c M pc ls (v4 :: v3 :: v2 :: v1 :: v0 :: .ref a :: st) h Q = (32 ≤ a ∧ q_cs st ≤ 8 ∧ q_wp d 0 M' 0 E [] h (fun r h' => q_wp (d + 1) c M (pc + 3) ls (r.toList ++ st) h' Q)) := by
  rw [w_spec5 hd hz hmd ha hm, he]; simp only [hc, Nat.zero_le, true_and, Nat.sub_zero]
theorem w_speca5 {i a md M' al ml p1 p2 p3 p4 : Nat} {E : List Value} {v0 v1 v2 v3 v4 : Value} (hd : decode (q_b M) pc = .ok (.invokespecial i, 3)) (hz : q_c (M / 1000) i = some (md, M', 5, p1, p2, p3, p4)) (hmd : md = 2 ∨ md = 3) (ha : q_al M' = al) (hm : q_ml M' = ml) (hc : q_cs [.ref a, v0, v1, v2, v3, v4] ≤ ml) (he : q_ent ml [.ref a, v0, v1, v2, v3, v4] = E) : q_wp (d + 1) c M pc ls (v4 :: v3 :: v2 :: v1 :: v0 :: .ref a :: st) h Q = (32 ≤ a ∧ q_cs st ≤ 8 ∧ al ≤ c ∧ q_wp d al M' 0 E [] h (fun r h' => q_wp (d + 1) (c - al) M (pc + 3) ls (r.toList ++ st) h' Q)) := by
  rw [w_spec5 hd hz hmd ha hm, he]; simp only [hc, true_and]
theorem w_virta5 {i a M' ci al ml p1 p2 p3 p4 : Nat} {E : List Value} {v0 v1 v2 v3 v4 : Value} (hd : decode (q_b M) pc = .ok (.invokevirtual i, 3)) (hz : q_c (M / 1000) i = some (1, M', 5, p1, p2, p3, p4)) (hci : M' / 1000 = ci) (h9 : ci < 9) (ha : q_al M' = al) (hm : q_ml M' = ml) (hc : q_cs [.ref a, v0, v1, v2, v3, v4] ≤ ml) (he : q_ent ml [.ref a, v0, v1, v2, v3, v4] = E) : q_wp (d + 1) c M pc ls (v4 :: v3 :: v2 :: v1 :: v0 :: .ref a :: st) h Q = ((32 ≤ a ∧ (h.2.2.2.1 a).1 = ci) ∧ q_cs st ≤ 8 ∧ al ≤ c ∧ q_wp d al M' 0 E [] h (fun r h' => q_wp (d + 1) (c - al) M (pc + 3) ls (r.toList ++ st) h' Q)) := by
  rw [w_virt5 hd hz hci h9 ha hm, he]; simp only [hc, true_and]
theorem w_statz6 {i M' ml p1 p2 p3 p4 : Nat} {E : List Value} {v0 v1 v2 v3 v4 v5 : Value} (hd : decode (q_b M) pc = .ok (.invokestatic i, 3)) (hz : q_c (M / 1000) i = some (0, M', 6, p1, p2, p3, p4)) (ha : q_al M' = 0) (hm : q_ml M' = ml) (hc : q_cs [v0, v1, v2, v3, v4, v5] ≤ ml) (he : q_ent ml [v0, v1, v2, v3, v4, v5] = E) : q_wp (d + 1) c M pc ls (v5 :: v4 :: v3 :: v2 :: v1 :: v0 :: st) h Q = (q_cs st ≤ 8 ∧ q_wp d 0 M' 0 E [] h (fun r h' => q_wp (d + 1) c M (pc + 3) ls (r.toList ++ st) h' Q)) := by
  rw [w_stat6 hd hz ha hm, he]; simp only [hc, Nat.zero_le, true_and, Nat.sub_zero]
theorem w_virtz6 {i a M' ci ml p1 p2 p3 p4 : Nat} {E : List Value} {v0 v1 v2 v3 v4 v5 : Value} (hd : decode (q_b M) pc = .ok (.invokevirtual i, 3)) (hz : q_c (M / 1000) i = some (1, M', 6, p1, p2, p3, p4)) (hci : M' / 1000 = ci) (h9 : ci < 9) (ha : q_al M' = 0) (hm : q_ml M' = ml) (hc : q_cs [.ref a, v0, v1, v2, v3, v4, v5] ≤ ml) (he : q_ent ml [.ref a, v0, v1, v2, v3, v4, v5] = E) : q_wp (d + 1) c M pc ls (v5 :: v4 :: v3 :: v2 :: v1 :: v0 :: .ref a :: st) h Q = ((32 ≤ a ∧ (h.2.2.2.1 a).1 = ci) ∧ q_cs st ≤ 8 ∧ q_wp d 0 M' 0 E [] h (fun r h' => q_wp (d + 1) c M (pc + 3) ls (r.toList ++ st) h' Q)) := by
  rw [w_virt6 hd hz hci h9 ha hm, he]; simp only [hc, Nat.zero_le, true_and, Nat.sub_zero]
theorem w_specz6 {i a md M' ml p1 p2 p3 p4 : Nat} {E : List Value} {v0 v1 v2 v3 v4 v5 : Value} (hd : decode (q_b M) pc = .ok (.invokespecial i, 3)) (hz : q_c (M / 1000) i = some (md, M', 6, p1, p2, p3, p4)) (hmd : md = 2 ∨ md = 3) (ha : q_al M' = 0) (hm : q_ml M' = ml) (hc : q_cs [.ref a, v0, v1, v2, v3, v4, v5] ≤ ml) (he : q_ent ml [.ref a, v0, v1, v2, v3, v4, v5] = E) : q_wp (d + 1) c M pc ls (v5 :: v4 :: v3 :: v2 :: v1 :: v0 :: .ref a :: st) h Q = (32 ≤ a ∧ q_cs st ≤ 8 ∧ q_wp d 0 M' 0 E [] h (fun r h' => q_wp (d + 1) c M (pc + 3) ls (r.toList ++ st) h' Q)) := by
  rw [w_spec6 hd hz hmd ha hm, he]; simp only [hc, Nat.zero_le, true_and, Nat.sub_zero]
theorem w_speca6 {i a md M' al ml p1 p2 p3 p4 : Nat} {E : List Value} {v0 v1 v2 v3 v4 v5 : Value} (hd : decode (q_b M) pc = .ok (.invokespecial i, 3)) (hz : q_c (M / 1000) i = some (md, M', 6, p1, p2, p3, p4)) (hmd : md = 2 ∨ md = 3) (ha : q_al M' = al) (hm : q_ml M' = ml) (hc : q_cs [.ref a, v0, v1, v2, v3, v4, v5] ≤ ml) (he : q_ent ml [.ref a, v0, v1, v2, v3, v4, v5] = E) : q_wp (d + 1) c M pc ls (v5 :: v4 :: v3 :: v2 :: v1 :: v0 :: .ref a :: st) h Q = (32 ≤ a ∧ q_cs st ≤ 8 ∧ al ≤ c ∧ q_wp d al M' 0 E [] h (fun r h' => q_wp (d + 1) (c - al) M (pc + 3) ls (r.toList ++ st) h' Q)) := by
  rw [w_spec6 hd hz hmd ha hm, he]; simp only [hc, true_and]
theorem w_virta6 {i a M' ci al ml p1 p2 p3 p4 : Nat} {E : List Value} {v0 v1 v2 v3 v4 v5 : Value} (hd : decode (q_b M) pc = .ok (.invokevirtual i, 3)) (hz : q_c (M / 1000) i = some (1, M', 6, p1, p2, p3, p4)) (hci : M' / 1000 = ci) (h9 : ci < 9) (ha : q_al M' = al) (hm : q_ml M' = ml) (hc : q_cs [.ref a, v0, v1, v2, v3, v4, v5] ≤ ml) (he : q_ent ml [.ref a, v0, v1, v2, v3, v4, v5] = E) : q_wp (d + 1) c M pc ls (v5 :: v4 :: v3 :: v2 :: v1 :: v0 :: .ref a :: st) h Q = ((32 ≤ a ∧ (h.2.2.2.1 a).1 = ci) ∧ q_cs st ≤ 8 ∧ al ≤ c ∧ q_wp d al M' 0 E [] h (fun r h' => q_wp (d + 1) (c - al) M (pc + 3) ls (r.toList ++ st) h' Q)) := by
  rw [w_virt6 hd hz hci h9 ha hm, he]; simp only [hc, true_and]
theorem w_statz7 {i M' ml p1 p2 p3 p4 : Nat} {E : List Value} {v0 v1 v2 v3 v4 v5 v6 : Value} (hd : decode (q_b M) pc = .ok (.invokestatic i, 3)) (hz : q_c (M / 1000) i = some (0, M', 7, p1, p2, p3, p4)) (ha : q_al M' = 0) (hm : q_ml M' = ml) (hc : q_cs [v0, v1, v2, v3, v4, v5, v6] ≤ ml) (he : q_ent ml [v0, v1, v2, v3, v4, v5, v6] = E) : q_wp (d + 1) c M pc ls (v6 :: v5 :: v4 :: v3 :: v2 :: v1 :: v0 :: st) h Q = (q_cs st ≤ 8 ∧ q_wp d 0 M' 0 E [] h (fun r h' => q_wp (d + 1) c M (pc + 3) ls (r.toList ++ st) h' Q)) := by
  rw [w_stat7 hd hz ha hm, he]; simp only [hc, Nat.zero_le, true_and, Nat.sub_zero]
theorem w_virtz7 {i a M' ci ml p1 p2 p3 p4 : Nat} {E : List Value} {v0 v1 v2 v3 v4 v5 v6 : Value} (hd : decode (q_b M) pc = .ok (.invokevirtual i, 3)) (hz : q_c (M / 1000) i = some (1, M', 7, p1, p2, p3, p4)) (hci : M' / 1000 = ci) (h9 : ci < 9) (ha : q_al M' = 0) (hm : q_ml M' = ml) (hc : q_cs [.ref a, v0, v1, v2, v3, v4, v5, v6] ≤ ml) (he : q_ent ml [.ref a, v0, v1, v2, v3, v4, v5, v6] = E) : q_wp (d + 1) c M pc ls (v6 :: v5 :: v4 :: v3 :: v2 :: v1 :: v0 :: .ref a :: st) h Q = ((32 ≤ a ∧ (h.2.2.2.1 a).1 = ci) ∧ q_cs st ≤ 8 ∧ q_wp d 0 M' 0 E [] h (fun r h' => q_wp (d + 1) c M (pc + 3) ls (r.toList ++ st) h' Q)) := by
  rw [w_virt7 hd hz hci h9 ha hm, he]; simp only [hc, Nat.zero_le, true_and, Nat.sub_zero]
theorem w_specz7 {i a md M' ml p1 p2 p3 p4 : Nat} {E : List Value} {v0 v1 v2 v3 v4 v5 v6 : Value} (hd : decode (q_b M) pc = .ok (.invokespecial i, 3)) (hz : q_c (M / 1000) i = some (md, M', 7, p1, p2, p3, p4)) (hmd : md = 2 ∨ md = 3) (ha : q_al M' = 0) (hm : q_ml M' = ml) (hc : q_cs [.ref a, v0, v1, v2, v3, v4, v5, v6] ≤ ml) (he : q_ent ml [.ref a, v0, v1, v2, v3, v4, v5, v6] = E) : q_wp (d + 1) c M pc ls (v6 :: v5 :: v4 :: v3 :: v2 :: v1 :: v0 :: .ref a :: st) h Q = (32 ≤ a ∧ q_cs st ≤ 8 ∧ q_wp d 0 M' 0 E [] h (fun r h' => q_wp (d + 1) c M (pc + 3) ls (r.toList ++ st) h' Q)) := by
  rw [w_spec7 hd hz hmd ha hm, he]; simp only [hc, Nat.zero_le, true_and, Nat.sub_zero]
theorem w_speca7 {i a md M' al ml p1 p2 p3 p4 : Nat} {E : List Value} {v0 v1 v2 v3 v4 v5 v6 : Value} (hd : decode (q_b M) pc = .ok (.invokespecial i, 3)) (hz : q_c (M / 1000) i = some (md, M', 7, p1, p2, p3, p4)) (hmd : md = 2 ∨ md = 3) (ha : q_al M' = al) (hm : q_ml M' = ml) (hc : q_cs [.ref a, v0, v1, v2, v3, v4, v5, v6] ≤ ml) (he : q_ent ml [.ref a, v0, v1, v2, v3, v4, v5, v6] = E) : q_wp (d + 1) c M pc ls (v6 :: v5 :: v4 :: v3 :: v2 :: v1 :: v0 :: .ref a :: st) h Q = (32 ≤ a ∧ q_cs st ≤ 8 ∧ al ≤ c ∧ q_wp d al M' 0 E [] h (fun r h' => q_wp (d + 1) (c - al) M (pc + 3) ls (r.toList ++ st) h' Q)) := by
  rw [w_spec7 hd hz hmd ha hm, he]; simp only [hc, true_and]
theorem w_virta7 {i a M' ci al ml p1 p2 p3 p4 : Nat} {E : List Value} {v0 v1 v2 v3 v4 v5 v6 : Value} (hd : decode (q_b M) pc = .ok (.invokevirtual i, 3)) (hz : q_c (M / 1000) i = some (1, M', 7, p1, p2, p3, p4)) (hci : M' / 1000 = ci) (h9 : ci < 9) (ha : q_al M' = al) (hm : q_ml M' = ml) (hc : q_cs [.ref a, v0, v1, v2, v3, v4, v5, v6] ≤ ml) (he : q_ent ml [.ref a, v0, v1, v2, v3, v4, v5, v6] = E) : q_wp (d + 1) c M pc ls (v6 :: v5 :: v4 :: v3 :: v2 :: v1 :: v0 :: .ref a :: st) h Q = ((32 ≤ a ∧ (h.2.2.2.1 a).1 = ci) ∧ q_cs st ≤ 8 ∧ al ≤ c ∧ q_wp d al M' 0 E [] h (fun r h' => q_wp (d + 1) (c - al) M (pc + 3) ls (r.toList ++ st) h' Q)) := by
  rw [w_virt7 hd hz hci h9 ha hm, he]; simp only [hc, true_and]
end QW2
