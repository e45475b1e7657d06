/-! the constructors: the heap grows as the table says -/
def z_d0 : Nat → Nat × Nat := fun _ => (300, 0)
def z_K (L m : Nat) : Nat → Nat × Nat := fun a => if a < m then p_K L z_d0 a else (300, 0)
def z_j : Nat → Nat → Int64 := fun _ _ => 0
def z_n : Nat → Nat → Option Nat := fun _ _ => none
def z_m2 (R : Nat → Nat → Option Nat) (m N : Nat) : Nat → Nat → Option Nat := fun b => if m ≤ b ∧ b ≤ m + N then (fun j => if b = m ∧ j < N then some (m + 1 + j) else none) else R b
def z_m0 (I : Nat → Nat → Int32) (m N : Nat) : Nat → Nat → Int32 := fun b => if m ≤ b ∧ b ≤ m + N then (fun _ => 0) else I b
theorem zm2_o {R : Nat → Nat → Option Nat} {m N b : Nat} (h : b < m ∨ m + N < b) : z_m2 R m N b = R b := if_neg (by omega)
theorem zm0_o {I : Nat → Nat → Int32} {m N b : Nat} (h : b < m ∨ m + N < b) : z_m0 I m N b = I b := if_neg (by omega)
theorem zm2_i {R : Nat → Nat → Option Nat} {m N j : Nat} (h : j < N) : z_m2 R m N m j = some (m + 1 + j) := by
  unfold z_m2
  rw [if_pos (by omega), if_pos ⟨rfl, h⟩]
theorem zK_at {L m a : Nat} (h : a < m) : z_K L m a = p_K L z_d0 a := if_pos h
theorem zK_nw {L m : Nat} {v : Nat × Nat} (h : p_K L z_d0 m = v) : q_nw (z_K L m) m v = z_K L (m + 1) := by
  funext a
  by_cases e : a = m
  · subst e
    rw [nw_s, zK_at (by omega), h]
  · rw [nw_o e]
    unfold z_K
    by_cases h1 : a < m
    · rw [if_pos h1, if_pos (by omega)]
    · rw [if_neg h1, if_neg (by omega)]
theorem zj_nw {m : Nat} : q_nw z_j m (fun _ => 0) = z_j := by
  funext a k
  unfold q_nw
  split <;> rfl
theorem nwI {I : Nat → Nat → Int32} {m : Nat} (h : I m = fun _ => 0) : q_nw I m (fun _ => 0) = I := by
  funext a
  by_cases e : a = m
  · subst e; rw [nw_s, h]
  · rw [nw_o e]
theorem nwIn {I : Nat → Nat → Int32} {m : Nat} (h : I m = fun _ => 0) : q_nw I m (fun _ => Int32.ofNat 0) = I := nwI h
theorem nwR {R : Nat → Nat → Option Nat} {m : Nat} (h : R m = fun _ => none) : q_nw R m (fun _ => none) = R := by
  funext a
  by_cases e : a = m
  · subst e; rw [nw_s, h]
  · rw [nw_o e]
theorem zn_at {m : Nat} : z_n m = fun _ => none := rfl
theorem sI_0 {xs : Nat → Int32} {m : Nat} (h : 29 ≤ m) : q_sI xs m = fun _ => 0 := by
  funext j
  unfold q_sI
  rw [if_neg (by omega), if_neg (by omega), if_neg (by omega), if_neg (by omega), if_neg (by omega)]
def z_jm (J : Nat → Nat → Int64) (m N : Nat) : Nat → Nat → Int64 := fun b => if m ≤ b ∧ b ≤ m + N then (fun _ => 0) else J b
theorem mal2_z {J : Nat → Nat → Int64} {R : Nat → Nat → Option Nat} {K : Nat → Nat × Nat} {I : Nat → Nat → Int32} {m N k : Nat} : q_mal2 (I, J, R, K, m) N k = (z_m0 I m N, z_jm J m N, z_m2 R m N, (fun b => if m ≤ b ∧ b ≤ m + N then (if b = m then (103, N) else (100, k)) else K b), m + 1 + N) := rfl
theorem zj_m2 {m N : Nat} : z_jm z_j m N = z_j := by
  funext b
  unfold z_jm
  split <;> rfl
theorem zn_nw {m : Nat} : q_nw z_n m (fun _ => none) = z_n := by
  funext a k
  unfold q_nw
  split <;> rfl
theorem zK_m2 {L m N k : Nat} (h : ∀ b, m ≤ b → b ≤ m + N → p_K L z_d0 b = if b = m then (103, N) else (100, k)) : (fun b => if m ≤ b ∧ b ≤ m + N then (if b = m then (103, N) else (100, k)) else z_K L m b) = z_K L (m + 1 + N) := by
  funext b
  by_cases h1 : m ≤ b ∧ b ≤ m + N
  · rw [if_pos h1, zK_at (by omega), h b h1.1 h1.2]
  · rw [if_neg h1]
    unfold z_K
    by_cases h2 : b < m
    · rw [if_pos h2, if_pos (by omega)]
    · rw [if_neg h2, if_neg (by omega)]
theorem zK_m2_46 {L : Nat} : (fun b => if 46 ≤ b ∧ b ≤ 46 + 7 then (if b = 46 then (103, 7) else (100, 41)) else z_K L 46 b) = z_K L 54 := zK_m2 (m := 46) (N := 7) fun b h1 h2 => by
  have : b = 46 ∨ b = 47 ∨ b = 48 ∨ b = 49 ∨ b = 50 ∨ b = 51 ∨ b = 52 ∨ b = 53 := by omega
  rcases this with rfl | rfl | rfl | rfl | rfl | rfl | rfl | rfl <;> rfl
theorem zK_m2_58 {L : Nat} : (fun b => if 58 ≤ b ∧ b ≤ 58 + 7 then (if b = 58 then (103, 7) else (100, 41)) else z_K L 58 b) = z_K L 66 := zK_m2 (m := 58) (N := 7) fun b h1 h2 => by
  have : b = 58 ∨ b = 59 ∨ b = 60 ∨ b = 61 ∨ b = 62 ∨ b = 63 ∨ b = 64 ∨ b = 65 := by omega
  rcases this with rfl | rfl | rfl | rfl | rfl | rfl | rfl | rfl <;> rfl
theorem zK_m2_70 {L : Nat} : (fun b => if 70 ≤ b ∧ b ≤ 70 + 5 then (if b = 70 then (103, 5) else (100, 6)) else z_K L 70 b) = z_K L 76 := zK_m2 (m := 70) (N := 5) fun b h1 h2 => by
  have : b = 70 ∨ b = 71 ∨ b = 72 ∨ b = 73 ∨ b = 74 ∨ b = 75 := by omega
  rcases this with rfl | rfl | rfl | rfl | rfl | rfl <;> rfl
theorem zK_m2_76 {L : Nat} : (fun b => if 76 ≤ b ∧ b ≤ 76 + 3 then (if b = 76 then (103, 3) else (100, 6)) else z_K L 76 b) = z_K L 80 := zK_m2 (m := 76) (N := 3) fun b h1 h2 => by
  have : b = 76 ∨ b = 77 ∨ b = 78 ∨ b = 79 := by omega
  rcases this with rfl | rfl | rfl | rfl <;> rfl
theorem zK_m2_81 {L : Nat} : (fun b => if 81 ≤ b ∧ b ≤ 81 + 5 then (if b = 81 then (103, 5) else (100, 6)) else z_K L 81 b) = z_K L 87 := zK_m2 (m := 81) (N := 5) fun b h1 h2 => by
  have : b = 81 ∨ b = 82 ∨ b = 83 ∨ b = 84 ∨ b = 85 ∨ b = 86 := by omega
  rcases this with rfl | rfl | rfl | rfl | rfl | rfl <;> rfl
theorem zK_m2_87 {L : Nat} : (fun b => if 87 ≤ b ∧ b ≤ 87 + 3 then (if b = 87 then (103, 3) else (100, 6)) else z_K L 87 b) = z_K L 91 := zK_m2 (m := 87) (N := 3) fun b h1 h2 => by
  have : b = 87 ∨ b = 88 ∨ b = 89 ∨ b = 90 := by omega
  rcases this with rfl | rfl | rfl | rfl <;> rfl
theorem zK_m2_92 {L : Nat} : (fun b => if 92 ≤ b ∧ b ≤ 92 + 5 then (if b = 92 then (103, 5) else (100, 6)) else z_K L 92 b) = z_K L 98 := zK_m2 (m := 92) (N := 5) fun b h1 h2 => by
  have : b = 92 ∨ b = 93 ∨ b = 94 ∨ b = 95 ∨ b = 96 ∨ b = 97 := by omega
  rcases this with rfl | rfl | rfl | rfl | rfl | rfl <;> rfl
theorem zK_m2_98 {L : Nat} : (fun b => if 98 ≤ b ∧ b ≤ 98 + 3 then (if b = 98 then (103, 3) else (100, 6)) else z_K L 98 b) = z_K L 102 := zK_m2 (m := 98) (N := 3) fun b h1 h2 => by
  have : b = 98 ∨ b = 99 ∨ b = 100 ∨ b = 101 := by omega
  rcases this with rfl | rfl | rfl | rfl <;> rfl
theorem zK_m2_103 {L : Nat} : (fun b => if 103 ≤ b ∧ b ≤ 103 + 5 then (if b = 103 then (103, 5) else (100, 6)) else z_K L 103 b) = z_K L 109 := zK_m2 (m := 103) (N := 5) fun b h1 h2 => by
  have : b = 103 ∨ b = 104 ∨ b = 105 ∨ b = 106 ∨ b = 107 ∨ b = 108 := by omega
  rcases this with rfl | rfl | rfl | rfl | rfl | rfl <;> rfl
theorem zK_m2_109 {L : Nat} : (fun b => if 109 ≤ b ∧ b ≤ 109 + 3 then (if b = 109 then (103, 3) else (100, 6)) else z_K L 109 b) = z_K L 113 := zK_m2 (m := 109) (N := 3) fun b h1 h2 => by
  have : b = 109 ∨ b = 110 ∨ b = 111 ∨ b = 112 := by omega
  rcases this with rfl | rfl | rfl | rfl <;> rfl
theorem zK_m2_114 {L : Nat} : (fun b => if 114 ≤ b ∧ b ≤ 114 + 5 then (if b = 114 then (103, 5) else (100, 6)) else z_K L 114 b) = z_K L 120 := zK_m2 (m := 114) (N := 5) fun b h1 h2 => by
  have : b = 114 ∨ b = 115 ∨ b = 116 ∨ b = 117 ∨ b = 118 ∨ b = 119 := by omega
  rcases this with rfl | rfl | rfl | rfl | rfl | rfl <;> rfl
theorem zK_m2_120 {L : Nat} : (fun b => if 120 ≤ b ∧ b ≤ 120 + 3 then (if b = 120 then (103, 3) else (100, 6)) else z_K L 120 b) = z_K L 124 := zK_m2 (m := 120) (N := 3) fun b h1 h2 => by
  have : b = 120 ∨ b = 121 ∨ b = 122 ∨ b = 123 := by omega
  rcases this with rfl | rfl | rfl | rfl <;> rfl
theorem zK_33 {L : Nat} : q_nw (z_K L 33) 33 (115, 4) = z_K L 34 := zK_nw rfl
theorem zK_34 {L : Nat} : q_nw (z_K L 34) 34 (116, 8) = z_K L 35 := zK_nw rfl
theorem zK_35 {L : Nat} : q_nw (z_K L 35) 35 (111, 6) = z_K L 36 := zK_nw rfl
theorem zK_36 {L : Nat} : q_nw (z_K L 36) 36 (114, 4) = z_K L 37 := zK_nw rfl
theorem zK_37 {L : Nat} : q_nw (z_K L 37) 37 (2, 0) = z_K L 38 := zK_nw rfl
theorem zK_38 {L : Nat} : q_nw (z_K L 38) 38 (100, 6) = z_K L 39 := zK_nw rfl
theorem zK_39 {L : Nat} : q_nw (z_K L 39) 39 (100, 6) = z_K L 40 := zK_nw rfl
theorem zK_40 {L : Nat} : q_nw (z_K L 40) 40 (100, 6) = z_K L 41 := zK_nw rfl
theorem zK_41 {L : Nat} : q_nw (z_K L 41) 41 (100, 6) = z_K L 42 := zK_nw rfl
theorem zK_42 {L : Nat} : q_nw (z_K L 42) 42 (3, 0) = z_K L 43 := zK_nw rfl
theorem zK_43 {L : Nat} : q_nw (z_K L 43) 43 (101, 160) = z_K L 44 := zK_nw rfl
theorem zK_44 {L : Nat} : q_nw (z_K L 44) 44 (100, 160) = z_K L 45 := zK_nw rfl
theorem zK_45 {L : Nat} : q_nw (z_K L 45) 45 (0, 0) = z_K L 46 := zK_nw rfl
theorem zK_47 {L : Nat} : q_nw (z_K L 47) 47 (100, 41) = z_K L 48 := zK_nw rfl
theorem zK_48 {L : Nat} : q_nw (z_K L 48) 48 (100, 41) = z_K L 49 := zK_nw rfl
theorem zK_49 {L : Nat} : q_nw (z_K L 49) 49 (100, 41) = z_K L 50 := zK_nw rfl
theorem zK_50 {L : Nat} : q_nw (z_K L 50) 50 (100, 41) = z_K L 51 := zK_nw rfl
theorem zK_51 {L : Nat} : q_nw (z_K L 51) 51 (100, 41) = z_K L 52 := zK_nw rfl
theorem zK_52 {L : Nat} : q_nw (z_K L 52) 52 (100, 41) = z_K L 53 := zK_nw rfl
theorem zK_53 {L : Nat} : q_nw (z_K L 53) 53 (100, 41) = z_K L 54 := zK_nw rfl
theorem zK_54 {L : Nat} : q_nw (z_K L 54) 54 (100, 6) = z_K L 55 := zK_nw rfl
theorem zK_55 {L : Nat} : q_nw (z_K L 55) 55 (100, 160) = z_K L 56 := zK_nw rfl
theorem zK_56 {L : Nat} : q_nw (z_K L 56) 56 (100, 3) = z_K L 57 := zK_nw rfl
theorem zK_57 {L : Nat} : q_nw (z_K L 57) 57 (0, 0) = z_K L 58 := zK_nw rfl
theorem zK_59 {L : Nat} : q_nw (z_K L 59) 59 (100, 41) = z_K L 60 := zK_nw rfl
theorem zK_60 {L : Nat} : q_nw (z_K L 60) 60 (100, 41) = z_K L 61 := zK_nw rfl
theorem zK_61 {L : Nat} : q_nw (z_K L 61) 61 (100, 41) = z_K L 62 := zK_nw rfl
theorem zK_62 {L : Nat} : q_nw (z_K L 62) 62 (100, 41) = z_K L 63 := zK_nw rfl
theorem zK_63 {L : Nat} : q_nw (z_K L 63) 63 (100, 41) = z_K L 64 := zK_nw rfl
theorem zK_64 {L : Nat} : q_nw (z_K L 64) 64 (100, 41) = z_K L 65 := zK_nw rfl
theorem zK_65 {L : Nat} : q_nw (z_K L 65) 65 (100, 41) = z_K L 66 := zK_nw rfl
theorem zK_66 {L : Nat} : q_nw (z_K L 66) 66 (100, 6) = z_K L 67 := zK_nw rfl
theorem zK_67 {L : Nat} : q_nw (z_K L 67) 67 (100, 160) = z_K L 68 := zK_nw rfl
theorem zK_68 {L : Nat} : q_nw (z_K L 68) 68 (100, 3) = z_K L 69 := zK_nw rfl
theorem zK_69 {L : Nat} : q_nw (z_K L 69) 69 (5, 0) = z_K L 70 := zK_nw rfl
theorem zK_71 {L : Nat} : q_nw (z_K L 71) 71 (100, 6) = z_K L 72 := zK_nw rfl
theorem zK_72 {L : Nat} : q_nw (z_K L 72) 72 (100, 6) = z_K L 73 := zK_nw rfl
theorem zK_73 {L : Nat} : q_nw (z_K L 73) 73 (100, 6) = z_K L 74 := zK_nw rfl
theorem zK_74 {L : Nat} : q_nw (z_K L 74) 74 (100, 6) = z_K L 75 := zK_nw rfl
theorem zK_75 {L : Nat} : q_nw (z_K L 75) 75 (100, 6) = z_K L 76 := zK_nw rfl
theorem zK_77 {L : Nat} : q_nw (z_K L 77) 77 (100, 6) = z_K L 78 := zK_nw rfl
theorem zK_78 {L : Nat} : q_nw (z_K L 78) 78 (100, 6) = z_K L 79 := zK_nw rfl
theorem zK_79 {L : Nat} : q_nw (z_K L 79) 79 (100, 6) = z_K L 80 := zK_nw rfl
theorem zK_80 {L : Nat} : q_nw (z_K L 80) 80 (5, 0) = z_K L 81 := zK_nw rfl
theorem zK_82 {L : Nat} : q_nw (z_K L 82) 82 (100, 6) = z_K L 83 := zK_nw rfl
theorem zK_83 {L : Nat} : q_nw (z_K L 83) 83 (100, 6) = z_K L 84 := zK_nw rfl
theorem zK_84 {L : Nat} : q_nw (z_K L 84) 84 (100, 6) = z_K L 85 := zK_nw rfl
theorem zK_85 {L : Nat} : q_nw (z_K L 85) 85 (100, 6) = z_K L 86 := zK_nw rfl
theorem zK_86 {L : Nat} : q_nw (z_K L 86) 86 (100, 6) = z_K L 87 := zK_nw rfl
theorem zK_88 {L : Nat} : q_nw (z_K L 88) 88 (100, 6) = z_K L 89 := zK_nw rfl
theorem zK_89 {L : Nat} : q_nw (z_K L 89) 89 (100, 6) = z_K L 90 := zK_nw rfl
theorem zK_90 {L : Nat} : q_nw (z_K L 90) 90 (100, 6) = z_K L 91 := zK_nw rfl
theorem zK_91 {L : Nat} : q_nw (z_K L 91) 91 (5, 0) = z_K L 92 := zK_nw rfl
theorem zK_93 {L : Nat} : q_nw (z_K L 93) 93 (100, 6) = z_K L 94 := zK_nw rfl
theorem zK_94 {L : Nat} : q_nw (z_K L 94) 94 (100, 6) = z_K L 95 := zK_nw rfl
theorem zK_95 {L : Nat} : q_nw (z_K L 95) 95 (100, 6) = z_K L 96 := zK_nw rfl
theorem zK_96 {L : Nat} : q_nw (z_K L 96) 96 (100, 6) = z_K L 97 := zK_nw rfl
theorem zK_97 {L : Nat} : q_nw (z_K L 97) 97 (100, 6) = z_K L 98 := zK_nw rfl
theorem zK_99 {L : Nat} : q_nw (z_K L 99) 99 (100, 6) = z_K L 100 := zK_nw rfl
theorem zK_100 {L : Nat} : q_nw (z_K L 100) 100 (100, 6) = z_K L 101 := zK_nw rfl
theorem zK_101 {L : Nat} : q_nw (z_K L 101) 101 (100, 6) = z_K L 102 := zK_nw rfl
theorem zK_102 {L : Nat} : q_nw (z_K L 102) 102 (5, 0) = z_K L 103 := zK_nw rfl
theorem zK_104 {L : Nat} : q_nw (z_K L 104) 104 (100, 6) = z_K L 105 := zK_nw rfl
theorem zK_105 {L : Nat} : q_nw (z_K L 105) 105 (100, 6) = z_K L 106 := zK_nw rfl
theorem zK_106 {L : Nat} : q_nw (z_K L 106) 106 (100, 6) = z_K L 107 := zK_nw rfl
theorem zK_107 {L : Nat} : q_nw (z_K L 107) 107 (100, 6) = z_K L 108 := zK_nw rfl
theorem zK_108 {L : Nat} : q_nw (z_K L 108) 108 (100, 6) = z_K L 109 := zK_nw rfl
theorem zK_110 {L : Nat} : q_nw (z_K L 110) 110 (100, 6) = z_K L 111 := zK_nw rfl
theorem zK_111 {L : Nat} : q_nw (z_K L 111) 111 (100, 6) = z_K L 112 := zK_nw rfl
theorem zK_112 {L : Nat} : q_nw (z_K L 112) 112 (100, 6) = z_K L 113 := zK_nw rfl
theorem zK_113 {L : Nat} : q_nw (z_K L 113) 113 (5, 0) = z_K L 114 := zK_nw rfl
theorem zK_115 {L : Nat} : q_nw (z_K L 115) 115 (100, 6) = z_K L 116 := zK_nw rfl
theorem zK_116 {L : Nat} : q_nw (z_K L 116) 116 (100, 6) = z_K L 117 := zK_nw rfl
theorem zK_117 {L : Nat} : q_nw (z_K L 117) 117 (100, 6) = z_K L 118 := zK_nw rfl
theorem zK_118 {L : Nat} : q_nw (z_K L 118) 118 (100, 6) = z_K L 119 := zK_nw rfl
theorem zK_119 {L : Nat} : q_nw (z_K L 119) 119 (100, 6) = z_K L 120 := zK_nw rfl
theorem zK_121 {L : Nat} : q_nw (z_K L 121) 121 (100, 6) = z_K L 122 := zK_nw rfl
theorem zK_122 {L : Nat} : q_nw (z_K L 122) 122 (100, 6) = z_K L 123 := zK_nw rfl
theorem zK_123 {L : Nat} : q_nw (z_K L 123) 123 (100, 6) = z_K L 124 := zK_nw rfl
theorem zK_124 {L : Nat} : q_nw (z_K L 124) 124 (4, 0) = z_K L 125 := zK_nw rfl
theorem zK_125 {L : Nat} : q_nw (z_K L 125) 125 (100, 80) = z_K L 126 := zK_nw rfl
theorem zK_126 {L : Nat} : q_nw (z_K L 126) 126 (4, 0) = z_K L 127 := zK_nw rfl
theorem zK_127 {L : Nat} : q_nw (z_K L 127) 127 (100, 80) = z_K L 128 := zK_nw rfl
theorem zK_128 {L : Nat} : q_nw (z_K L 128) 128 (4, 0) = z_K L 129 := zK_nw rfl
theorem zK_129 {L : Nat} : q_nw (z_K L 129) 129 (100, 80) = z_K L 130 := zK_nw rfl
theorem zK_130 {L : Nat} : q_nw (z_K L 130) 130 (4, 0) = z_K L 131 := zK_nw rfl
theorem zK_131 {L : Nat} : q_nw (z_K L 131) 131 (100, 80) = z_K L 132 := zK_nw rfl
theorem zK_132 {L : Nat} : q_nw (z_K L 132) 132 (100, 4) = z_K L 133 := zK_nw rfl
theorem zK_133 {L : Nat} : q_nw (z_K L 133) 133 (100, 13) = z_K L 134 := zK_nw rfl
theorem zK_134 {L : Nat} : q_nw (z_K L 134) 134 (1, 0) = z_K L 135 := zK_nw rfl
theorem zK_135 {L : Nat} : q_nw (z_K L 135) 135 (8, 0) = z_K L 136 := zK_nw rfl
theorem zK_136 {L : Nat} : q_nw (z_K L 136) 136 (100, 16) = z_K L 137 := zK_nw rfl
theorem zK_137 {L : Nat} : q_nw (z_K L 137) 137 (100, 4) = z_K L 138 := zK_nw rfl
theorem zK_138 {L : Nat} : q_nw (z_K L 138) 138 (100, 24) = z_K L 139 := zK_nw rfl
theorem zK_139 {L : Nat} : q_nw (z_K L 139) 139 (100, 24) = z_K L 140 := zK_nw rfl
theorem zK_140 {L : Nat} : q_nw (z_K L 140) 140 (100, 24) = z_K L 141 := zK_nw rfl
theorem zK_141 {L : Nat} : q_nw (z_K L 141) 141 (100, 24) = z_K L 142 := zK_nw rfl
theorem zK_142 {L : Nat} : q_nw (z_K L 142) 142 (100, 24) = z_K L 143 := zK_nw rfl
theorem zK_143 {L : Nat} : q_nw (z_K L 143) 143 (100, 8) = z_K L 144 := zK_nw rfl
theorem zK_144 {L : Nat} : q_nw (z_K L 144) 144 (100, 8) = z_K L 145 := zK_nw rfl
theorem zK_145 {L : Nat} : q_nw (z_K L 145) 145 (100, 8) = z_K L 146 := zK_nw rfl
theorem zK_146 {L : Nat} : q_nw (z_K L 146) 146 (100, 8) = z_K L 147 := zK_nw rfl
theorem zK_147 {L : Nat} : q_nw (z_K L 147) 147 (100, 8) = z_K L 148 := zK_nw rfl
theorem zK_148 {L : Nat} : q_nw (z_K L 148) 148 (100, 8) = z_K L 149 := zK_nw rfl
theorem zK_149 {L : Nat} : q_nw (z_K L 149) 149 (100, 8) = z_K L 150 := zK_nw rfl
theorem zK_150 {L : Nat} : q_nw (z_K L 150) 150 (100, 6) = z_K L 151 := zK_nw rfl
theorem zK_151 {L : Nat} : q_nw (z_K L 151) 151 (100, 6) = z_K L 152 := zK_nw rfl
theorem zK_152 {L : Nat} : q_nw (z_K L 152) 152 (100, 160) = z_K L 153 := zK_nw rfl
theorem zK_153 {L : Nat} : q_nw (z_K L 153) 153 (100, 1200) = z_K L 154 := zK_nw rfl
theorem zK_154 {L : Nat} : q_nw (z_K L 154) 154 (100, 24) = z_K L 155 := zK_nw rfl
theorem zK_155 {L : Nat} : q_nw (z_K L 155) 155 (100, 4) = z_K L 156 := zK_nw rfl
theorem zK_156 {L : Nat} : q_nw (z_K L 156) 156 (100, 24) = z_K L 157 := zK_nw rfl
theorem zK_157 {L : Nat} : q_nw (z_K L 157) 157 (100, 24) = z_K L 158 := zK_nw rfl
theorem zK_158 {L : Nat} : q_nw (z_K L 158) 158 (100, 24) = z_K L 159 := zK_nw rfl
theorem zK_159 {L : Nat} : q_nw (z_K L 159) 159 (100, 6) = z_K L 160 := zK_nw rfl
theorem zK_160 {L : Nat} : q_nw (z_K L 160) 160 (100, 6) = z_K L 161 := zK_nw rfl
theorem zK_161 {L : Nat} : q_nw (z_K L 161) 161 (100, 4) = z_K L 162 := zK_nw rfl
theorem zK_162 {L : Nat} : q_nw (z_K L 162) 162 (100, 4) = z_K L 163 := zK_nw rfl
theorem zK_163 {L : Nat} : q_nw (z_K L 163) 163 (100, 320) = z_K L 164 := zK_nw rfl
theorem zK_164 {L : Nat} : q_nw (z_K L 164) 164 (102, 12) = z_K L 165 := zK_nw rfl
theorem zK_165 {L : Nat} : q_nw (z_K L 165) 165 (100, 200) = z_K L 166 := zK_nw rfl
theorem zK_166 {L : Nat} : q_nw (z_K L 166) 166 (100, 200) = z_K L 167 := zK_nw rfl
theorem zK_167 {L : Nat} : q_nw (z_K L 167) 167 (100, 6) = z_K L 168 := zK_nw rfl
theorem zK_168 {L : Nat} : q_nw (z_K L 168) 168 (100, 41) = z_K L 169 := zK_nw rfl
theorem zK_169 {L : Nat} : q_nw (z_K L 169) 169 (100, 41) = z_K L 170 := zK_nw rfl
theorem zK_170 {L : Nat} : q_nw (z_K L 170) 170 (100, 41) = z_K L 171 := zK_nw rfl
theorem zK_171 {L : Nat} : q_nw (z_K L 171) 171 (100, 41) = z_K L 172 := zK_nw rfl
theorem zK_172 {L : Nat} : q_nw (z_K L 172) 172 (100, 41) = z_K L 173 := zK_nw rfl
theorem zK_173 {L : Nat} : q_nw (z_K L 173) 173 (100, 41) = z_K L 174 := zK_nw rfl
theorem zK_174 {L : Nat} : q_nw (z_K L 174) 174 (100, 41) = z_K L 175 := zK_nw rfl
theorem zK_175 {L : Nat} : q_nw (z_K L 175) 175 (100, 6) = z_K L 176 := zK_nw rfl
theorem zK_176 {L : Nat} : q_nw (z_K L 176) 176 (100, 41) = z_K L 177 := zK_nw rfl
theorem zK_177 {L : Nat} : q_nw (z_K L 177) 177 (100, 41) = z_K L 178 := zK_nw rfl
theorem zK_178 {L : Nat} : q_nw (z_K L 178) 178 (100, 41) = z_K L 179 := zK_nw rfl
theorem sK_32 {L : Nat} : q_sK L = z_K L 32 := by
  funext a
  by_cases h : a < 32
  · rw [zK_at h]
    have : a = 0 ∨ a = 1 ∨ a = 2 ∨ a = 3 ∨ a = 4 ∨ a = 5 ∨ a = 6 ∨ a = 7 ∨ a = 8 ∨ a = 9 ∨ a = 10 ∨ a = 11 ∨ a = 12 ∨ a = 13 ∨ a = 14 ∨ a = 15 ∨ a = 16 ∨ a = 17 ∨ a = 18 ∨ a = 19 ∨ a = 20 ∨ a = 21 ∨ a = 22 ∨ a = 23 ∨ a = 24 ∨ a = 25 ∨ a = 26 ∨ a = 27 ∨ a = 28 ∨ a = 29 ∨ a = 30 ∨ a = 31 := by omega
    rcases this with rfl | rfl | rfl | rfl | rfl | rfl | rfl | rfl | rfl | rfl | rfl | rfl | rfl | rfl | rfl | rfl | rfl | rfl | rfl | rfl | rfl | rfl | rfl | rfl | rfl | rfl | rfl | rfl | rfl | rfl | rfl | rfl <;> rfl
  · unfold z_K q_sK
    rw [if_neg h, if_neg (by omega), if_neg (by omega), if_neg (by omega), if_neg (by omega), if_neg (by omega)]
