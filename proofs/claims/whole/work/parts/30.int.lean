/-! small numbers: the normal form of an int that is not below 0 is Int32.ofNat k -/
theorem n_cl {k : Nat} (h : k < 2147483648) : (Int32.ofNat k).toNatClampNeg = k := Int32.toNatClampNeg_ofNat_of_lt h
theorem n_ti {k : Nat} (h : k < 2147483648) : (Int32.ofNat k).toInt = (k : Int) := Int32.toInt_ofNat_of_lt h
theorem n_lt {j k : Nat} (hj : j < 2147483648) (hk : k < 2147483648) : (Int32.ofNat j < Int32.ofNat k) = (j < k) := by
  rw [Int32.lt_iff_toInt_lt, n_ti hj, n_ti hk]; exact propext Int.ofNat_lt
theorem n_le {j k : Nat} (hj : j < 2147483648) (hk : k < 2147483648) : (Int32.ofNat j ≤ Int32.ofNat k) = (j ≤ k) := by
  rw [Int32.le_iff_toInt_le, n_ti hj, n_ti hk]; exact propext Int.ofNat_le
theorem n_eq {j k : Nat} (hj : j < 2147483648) (hk : k < 2147483648) : (Int32.ofNat j = Int32.ofNat k) = (j = k) := by
  rw [← Int32.toInt_inj, n_ti hj, n_ti hk]; exact propext Int.ofNat_inj
theorem n_in {k n : Nat} (h : k < 2147483648) : vp_in (Int32.ofNat k) n = (k < n) := by
  refine propext ?_
  rw [p_in, n_ti h]
  omega
theorem n_add {j k : Nat} : Int32.ofNat j + Int32.ofNat k = Int32.ofNat (j + k) := (Int32.ofNat_add j k).symm
theorem n_mul {j k : Nat} : Int32.ofNat j * Int32.ofNat k = Int32.ofNat (j * k) := (Int32.ofNat_mul j k).symm
theorem n_sub {j k : Nat} (h : k ≤ j) : Int32.ofNat j - Int32.ofNat k = Int32.ofNat (j - k) := (Int32.ofNat_sub j k h).symm
theorem n_div {j k : Nat} (hj : j < 2147483648) (hk : k < 2147483648) : Int32.ofNat j / Int32.ofNat k = Int32.ofNat (j / k) := (Int32.ofNat_div hj hk).symm
theorem n_mod {j k : Nat} (hj : j < 2147483648) (hk : k < 2147483648) : Int32.ofNat j % Int32.ofNat k = Int32.ofNat (j % k) := (Int32.ofNat_mod hj hk).symm
theorem x_nat {x : Int32} (h : (0 : Int32) ≤ x) : ∃ k : Nat, k < 2147483648 ∧ x = Int32.ofNat k := ⟨x.toNatClampNeg, x.toNatClampNeg_lt, (Int32.ofNat_toNatClampNeg x h).symm⟩
theorem t_add {x y : Int32} (h1 : -2147483648 ≤ x.toInt + y.toInt) (h2 : x.toInt + y.toInt < 2147483648) : (x + y).toInt = x.toInt + y.toInt := by
  rw [Int32.toInt_add]; exact Int.bmod_eq_of_le (by omega) (by omega)
theorem t_sub {x y : Int32} (h1 : -2147483648 ≤ x.toInt - y.toInt) (h2 : x.toInt - y.toInt < 2147483648) : (x - y).toInt = x.toInt - y.toInt := by
  rw [Int32.toInt_sub]; exact Int.bmod_eq_of_le (by omega) (by omega)
theorem t_mul {x y : Int32} (h1 : -2147483648 ≤ x.toInt * y.toInt) (h2 : x.toInt * y.toInt < 2147483648) : (x * y).toInt = x.toInt * y.toInt := by
  rw [Int32.toInt_mul]; exact Int.bmod_eq_of_le (by omega) (by omega)
theorem t_neg {x : Int32} (h1 : -2147483648 < x.toInt) : (-x).toInt = -x.toInt := by
  have := x.toInt_lt
  rw [Int32.toInt_neg]; exact Int.bmod_eq_of_le (by omega) (by omega)
theorem t_mod {x y : Int32} : (x % y).toInt = x.toInt.tmod y.toInt := Int32.toInt_mod x y
theorem t_div {x y : Int32} (h : y ≠ -1) : (x / y).toInt = x.toInt.tdiv y.toInt := Int32.toInt_div_of_ne_right x y h
theorem t_lt {x y : Int32} : (x < y) = (x.toInt < y.toInt) := propext Int32.lt_iff_toInt_lt
theorem t_le {x y : Int32} : (x ≤ y) = (x.toInt ≤ y.toInt) := propext Int32.le_iff_toInt_le
theorem t_eq {x y : Int32} : (x = y) = (x.toInt = y.toInt) := propext Int32.toInt_inj.symm
theorem n_negl {j k : Nat} (hj : j < 2147483648) (hk : k < 2147483648) : (Int32.ofNat j < -Int32.ofNat k) = False := by
  refine eq_false fun h => ?_
  rw [Int32.lt_iff_toInt_lt, t_neg (by rw [n_ti hk]; omega), n_ti hj, n_ti hk] at h
  omega
theorem n_nege {j k : Nat} (hj : j < 2147483648) (hk : k < 2147483648) (h0 : 0 < k) : (Int32.ofNat j = -Int32.ofNat k) = False := by
  refine eq_false fun h => ?_
  rw [← Int32.toInt_inj, t_neg (by rw [n_ti hk]; omega), n_ti hj, n_ti hk] at h
  omega
theorem n_pred {x : Int32} {k : Nat} (hk : k < 2147483648) : (x ≤ Int32.ofNat k - Int32.ofNat 1) = (x < Int32.ofNat k) := by
  rw [t_le, t_lt, t_sub (by rw [n_ti hk, n_ti (by omega)]; omega) (by rw [n_ti hk, n_ti (by omega)]; omega), n_ti hk, n_ti (by omega)]
  refine propext ?_
  omega
theorem l_0 : (0 : Int32) = Int32.ofNat 0 := rfl
theorem l_1 : (1 : Int32) = Int32.ofNat 1 := rfl
theorem l_2 : (2 : Int32) = Int32.ofNat 2 := rfl
theorem l_3 : (3 : Int32) = Int32.ofNat 3 := rfl
theorem l_4 : (4 : Int32) = Int32.ofNat 4 := rfl
theorem l_5 : (5 : Int32) = Int32.ofNat 5 := rfl
theorem l_6 : (6 : Int32) = Int32.ofNat 6 := rfl
theorem l_7 : (7 : Int32) = Int32.ofNat 7 := rfl
theorem l_8 : (8 : Int32) = Int32.ofNat 8 := rfl
theorem l_9 : (9 : Int32) = Int32.ofNat 9 := rfl
theorem l_10 : (10 : Int32) = Int32.ofNat 10 := rfl
theorem l_11 : (11 : Int32) = Int32.ofNat 11 := rfl
theorem l_12 : (12 : Int32) = Int32.ofNat 12 := rfl
theorem l_13 : (13 : Int32) = Int32.ofNat 13 := rfl
theorem l_14 : (14 : Int32) = Int32.ofNat 14 := rfl
theorem l_15 : (15 : Int32) = Int32.ofNat 15 := rfl
theorem l_16 : (16 : Int32) = Int32.ofNat 16 := rfl
theorem l_17 : (17 : Int32) = Int32.ofNat 17 := rfl
theorem l_18 : (18 : Int32) = Int32.ofNat 18 := rfl
theorem l_19 : (19 : Int32) = Int32.ofNat 19 := rfl
theorem l_20 : (20 : Int32) = Int32.ofNat 20 := rfl
theorem l_24 : (24 : Int32) = Int32.ofNat 24 := rfl
theorem l_32 : (32 : Int32) = Int32.ofNat 32 := rfl
theorem l_40 : (40 : Int32) = Int32.ofNat 40 := rfl
theorem l_41 : (41 : Int32) = Int32.ofNat 41 := rfl
theorem l_42 : (42 : Int32) = Int32.ofNat 42 := rfl
theorem l_43 : (43 : Int32) = Int32.ofNat 43 := rfl
theorem l_45 : (45 : Int32) = Int32.ofNat 45 := rfl
theorem l_48 : (48 : Int32) = Int32.ofNat 48 := rfl
theorem l_57 : (57 : Int32) = Int32.ofNat 57 := rfl
theorem l_59 : (59 : Int32) = Int32.ofNat 59 := rfl
theorem l_60 : (60 : Int32) = Int32.ofNat 60 := rfl
theorem l_61 : (61 : Int32) = Int32.ofNat 61 := rfl
theorem l_63 : (63 : Int32) = Int32.ofNat 63 := rfl
theorem l_64 : (64 : Int32) = Int32.ofNat 64 := rfl
theorem l_80 : (80 : Int32) = Int32.ofNat 80 := rfl
theorem l_96 : (96 : Int32) = Int32.ofNat 96 := rfl
theorem l_97 : (97 : Int32) = Int32.ofNat 97 := rfl
theorem l_99 : (99 : Int32) = Int32.ofNat 99 := rfl
theorem l_100 : (100 : Int32) = Int32.ofNat 100 := rfl
theorem l_122 : (122 : Int32) = Int32.ofNat 122 := rfl
theorem l_160 : (160 : Int32) = Int32.ofNat 160 := rfl
theorem l_200 : (200 : Int32) = Int32.ofNat 200 := rfl
theorem l_320 : (320 : Int32) = Int32.ofNat 320 := rfl
theorem l_640 : (640 : Int32) = Int32.ofNat 640 := rfl
theorem l_999 : (999 : Int32) = Int32.ofNat 999 := rfl
theorem l_1000 : (1000 : Int32) = Int32.ofNat 1000 := rfl
theorem l_1200 : (1200 : Int32) = Int32.ofNat 1200 := rfl
theorem l_4000 : (4000 : Int32) = Int32.ofNat 4000 := rfl
theorem l_99999 : (99999 : Int32) = Int32.ofNat 99999 := rfl
theorem l_100000 : (100000 : Int32) = Int32.ofNat 100000 := rfl
theorem l_100001 : (100001 : Int32) = Int32.ofNat 100001 := rfl
theorem l_100002 : (100002 : Int32) = Int32.ofNat 100002 := rfl
theorem l_100006 : (100006 : Int32) = Int32.ofNat 100006 := rfl
theorem l_100010 : (100010 : Int32) = Int32.ofNat 100010 := rfl
theorem l_252645135 : (252645135 : Int32) = Int32.ofNat 252645135 := rfl
theorem l_858993459 : (858993459 : Int32) = Int32.ofNat 858993459 := rfl
theorem l_1431655765 : (1431655765 : Int32) = Int32.ofNat 1431655765 := rfl
theorem n_addneg {j k : Nat} (h : k ≤ j) : Int32.ofNat j + -Int32.ofNat k = Int32.ofNat (j - k) := by rw [← Int32.sub_eq_add_neg, n_sub h]
theorem d_ltT {j k : Nat} (h : j < k) : (j < k) = True := eq_true h
theorem d_ltF {j k : Nat} (h : k ≤ j) : (j < k) = False := eq_false (Nat.not_lt.2 h)
theorem d_leT {j k : Nat} (h : j ≤ k) : (j ≤ k) = True := eq_true h
theorem d_leF {j k : Nat} (h : k < j) : (j ≤ k) = False := eq_false (Nat.not_le.2 h)
theorem d_eqT {j k : Nat} (h : j = k) : (j = k) = True := eq_true h
theorem d_eqF {j k : Nat} (h : j < k ∨ k < j) : (j = k) = False := eq_false (by omega)
theorem nzn_0 : narrow .boolean (.int (Int32.ofNat 0)) = .int (Int32.ofNat 0) := rfl
theorem nzn_1 : narrow .boolean (.int (Int32.ofNat 1)) = .int (Int32.ofNat 1) := rfl
theorem nz_b {P : Prop} [Decidable P] : (narrow .boolean (.int (if P then (1 : Int32) else 0)) = .int (if P then (1 : Int32) else 0)) = True := by split <;> exact eq_true rfl
theorem nzn_b {P : Prop} [Decidable P] : (narrow .boolean (.int (if P then Int32.ofNat 1 else Int32.ofNat 0)) = .int (if P then Int32.ofNat 1 else Int32.ofNat 0)) = True := by split <;> exact eq_true rfl
theorem b_eq0 {P : Prop} [Decidable P] : ((if P then Int32.ofNat 1 else Int32.ofNat 0) = Int32.ofNat 0) = ¬P := by
  split
  · rename_i h; exact propext ⟨fun e => absurd e (by decide), fun n => absurd h n⟩
  · rename_i h; exact propext ⟨fun _ => h, fun _ => rfl⟩
theorem b_eq1 {P : Prop} [Decidable P] : ((if P then Int32.ofNat 1 else Int32.ofNat 0) = Int32.ofNat 1) = P := by
  split
  · rename_i h; exact propext ⟨fun _ => h, fun _ => rfl⟩
  · rename_i h; exact propext ⟨fun e => absurd e (by decide), fun n => absurd n h⟩
theorem b_eq0z {P : Prop} [Decidable P] : ((if P then (1 : Int32) else 0) = 0) = ¬P := b_eq0
theorem b_0eq : (Int32.ofNat 0 = Int32.ofNat 0) = True := eq_self _
abbrev p_ok (v lo hi : Int32) : Prop := lo ≤ v ∧ v ≤ hi
theorem q_up_same {α : Type} {f : Nat → Nat → α} {a k : Nat} {v : α} : q_up f a k v a k = v := if_pos ⟨rfl, rfl⟩
theorem q_up_a {α : Type} {f : Nat → Nat → α} {a k b j : Nat} {v : α} (h : b ≠ a) : q_up f a k v b j = f b j := if_neg fun e => h e.1
theorem q_up_k {α : Type} {f : Nat → Nat → α} {a k b j : Nat} {v : α} (h : j ≠ k) : q_up f a k v b j = f b j := if_neg fun e => h e.2
theorem q_up_fa {α : Type} {f : Nat → Nat → α} {a k b : Nat} {v : α} (h : b ≠ a) : q_up f a k v b = f b := funext fun _ => q_up_a h
theorem q_up_id {α : Type} {f : Nat → Nat → α} {a k : Nat} {v : α} (h : f a k = v) : q_up f a k v = f := by
  funext b j
  unfold q_up
  split
  · rename_i e; rw [e.1, e.2, h]
  · rfl
