def p_KT : List (Nat × Nat) := [(100, 16), (100, 6), (100, 0), (200, 0), (200, 0), (200, 0), (200, 0), (200, 0), (200, 0), (200, 0), (200, 0), (200, 0), (200, 0), (200, 0), (200, 0), (200, 0), (101, 63), (101, 5), (101, 4), (101, 4), (101, 4), (101, 5), (101, 4), (101, 2), (101, 3), (101, 3), (101, 4), (101, 4), (101, 4), (300, 0), (300, 0), (300, 0), (7, 0), (115, 4), (116, 8), (111, 6), (114, 4), (2, 0), (100, 6), (100, 6), (100, 6), (100, 6), (3, 0), (101, 160), (100, 160), (0, 0), (103, 7), (100, 41), (100, 41), (100, 41), (100, 41), (100, 41), (100, 41), (100, 41), (100, 6), (100, 160), (100, 3), (0, 0), (103, 7), (100, 41), (100, 41), (100, 41), (100, 41), (100, 41), (100, 41), (100, 41), (100, 6), (100, 160), (100, 3), (5, 0), (103, 5), (100, 6), (100, 6), (100, 6), (100, 6), (100, 6), (103, 3), (100, 6), (100, 6), (100, 6), (5, 0), (103, 5), (100, 6), (100, 6), (100, 6), (100, 6), (100, 6), (103, 3), (100, 6), (100, 6), (100, 6), (5, 0), (103, 5), (100, 6), (100, 6), (100, 6), (100, 6), (100, 6), (103, 3), (100, 6), (100, 6), (100, 6), (5, 0), (103, 5), (100, 6), (100, 6), (100, 6), (100, 6), (100, 6), (103, 3), (100, 6), (100, 6), (100, 6), (5, 0), (103, 5), (100, 6), (100, 6), (100, 6), (100, 6), (100, 6), (103, 3), (100, 6), (100, 6), (100, 6), (4, 0), (100, 80), (4, 0), (100, 80), (4, 0), (100, 80), (4, 0), (100, 80), (100, 4), (100, 13), (1, 0), (8, 0), (100, 16), (100, 4), (100, 24), (100, 24), (100, 24), (100, 24), (100, 24), (100, 8), (100, 8), (100, 8), (100, 8), (100, 8), (100, 8), (100, 8), (100, 6), (100, 6), (100, 160), (100, 1200), (100, 24), (100, 4), (100, 24), (100, 24), (100, 24), (100, 6), (100, 6), (100, 4), (100, 4), (100, 320), (102, 12), (100, 200), (100, 200), (100, 6), (100, 41), (100, 41), (100, 41), (100, 41), (100, 41), (100, 41), (100, 41), (100, 6), (100, 41), (100, 41), (100, 41)]
def p_RT : List (List Nat) := [[], [], [], [], [], [], [], [], [], [], [], [], [], [], [], [], [], [], [], [], [], [], [], [], [], [], [], [], [], [], [], [], [34, 35, 36, 37, 38, 43, 46, 58, 70, 0, 0, 0, 0, 0, 0, 0, 0, 0, 0], [81, 92, 103, 114], [], [], [125, 127, 129, 131], [39, 40, 0, 41, 42, 0], [], [], [], [], [44, 0, 0, 45, 0, 0, 0, 0, 0], [], [], [47, 0, 0, 0, 0, 0, 0, 0, 0, 0, 55, 56, 57], [48, 49, 50, 51, 52, 53, 54], [], [], [], [], [], [], [], [], [], [], [59, 0, 0, 0, 0, 0, 0, 0, 0, 0, 67, 68, 69], [60, 61, 62, 63, 64, 65, 66], [], [], [], [], [], [], [], [], [], [], [0, 71, 77, 0, 0], [72, 73, 74, 75, 76], [], [], [], [], [], [78, 79, 80], [], [], [], [0, 82, 88, 0, 0], [83, 84, 85, 86, 87], [], [], [], [], [], [89, 90, 91], [], [], [], [0, 93, 99, 0, 0], [94, 95, 96, 97, 98], [], [], [], [], [], [100, 101, 102], [], [], [], [0, 104, 110, 0, 0], [105, 106, 107, 108, 109], [], [], [], [], [], [111, 112, 113], [], [], [], [0, 115, 121, 0, 0], [116, 117, 118, 119, 120], [], [], [], [], [], [122, 123, 124], [], [], [], [126, 0, 0], [], [128, 0, 0], [], [130, 0, 0], [], [132, 0, 0], [], [], [], [0, 0], [137, 0, 138, 139, 140, 141, 142, 143, 0, 0, 0, 144, 145, 146, 147, 148, 149, 150, 0, 151, 152, 153, 0, 154, 155, 0, 0, 0, 0, 0, 0, 0, 0, 156, 157, 158, 159, 160, 161, 162, 163, 164, 0, 0, 0, 0, 165, 166, 0, 0, 0, 167, 168, 169, 170, 171, 172, 173, 174, 175, 0, 176, 177, 178, 179], [], [], [], [], [], [], [], [], [], [], [], [], [], [], [], [], [], [], [], [], [], [], [], [], [], [], [], [], [], [], [], [], [], [], [], [], [], [], [], [], [], [], []]
def p_W : List Int64 := [1818846836, 1953854062, 1936486263, 495806932324, 1936746862, 1953066100, 1751738216, 495874302827, 2003398244, 28530, 6385252, 7237492]
/-- kinds and lengths: fixed below 179, but for the script's length -/
def p_K (L : Nat) (dk : Nat → Nat × Nat) (a : Nat) : Nat × Nat := if a < 179 then (if a = 2 then (100, L) else p_KT.getD a (300, 0)) else dk a
/-- references: those that the constructors fix, and the others -/
def p_R (r : Nat → Nat → Option Nat) (a k : Nat) : Option Nat := match (p_RT.getD a []).getD k 0 with
  | 0 => r a k
  | v + 1 => some v
def p_J (a k : Nat) : Int64 := if a = 164 then p_W.getD k 0 else 0
abbrev p_h (L : Nat) (I : Nat → Nat → Int32) (r : Nat → Nat → Option Nat) (dk : Nat → Nat × Nat) (n : Nat) : q_H := (I, p_J, p_R r, p_K L dk, n)
theorem pK_0 {L : Nat} {dk : Nat → Nat × Nat} : p_K L dk 0 = (100, 16) := rfl
theorem pK_1 {L : Nat} {dk : Nat → Nat × Nat} : p_K L dk 1 = (100, 6) := rfl
theorem pK_3 {L : Nat} {dk : Nat → Nat × Nat} : p_K L dk 3 = (200, 0) := rfl
theorem pK_4 {L : Nat} {dk : Nat → Nat × Nat} : p_K L dk 4 = (200, 0) := rfl
theorem pK_5 {L : Nat} {dk : Nat → Nat × Nat} : p_K L dk 5 = (200, 0) := rfl
theorem pK_6 {L : Nat} {dk : Nat → Nat × Nat} : p_K L dk 6 = (200, 0) := rfl
theorem pK_7 {L : Nat} {dk : Nat → Nat × Nat} : p_K L dk 7 = (200, 0) := rfl
theorem pK_8 {L : Nat} {dk : Nat → Nat × Nat} : p_K L dk 8 = (200, 0) := rfl
theorem pK_9 {L : Nat} {dk : Nat → Nat × Nat} : p_K L dk 9 = (200, 0) := rfl
theorem pK_10 {L : Nat} {dk : Nat → Nat × Nat} : p_K L dk 10 = (200, 0) := rfl
theorem pK_11 {L : Nat} {dk : Nat → Nat × Nat} : p_K L dk 11 = (200, 0) := rfl
theorem pK_12 {L : Nat} {dk : Nat → Nat × Nat} : p_K L dk 12 = (200, 0) := rfl
theorem pK_13 {L : Nat} {dk : Nat → Nat × Nat} : p_K L dk 13 = (200, 0) := rfl
theorem pK_14 {L : Nat} {dk : Nat → Nat × Nat} : p_K L dk 14 = (200, 0) := rfl
theorem pK_15 {L : Nat} {dk : Nat → Nat × Nat} : p_K L dk 15 = (200, 0) := rfl
theorem pK_16 {L : Nat} {dk : Nat → Nat × Nat} : p_K L dk 16 = (101, 63) := rfl
theorem pK_17 {L : Nat} {dk : Nat → Nat × Nat} : p_K L dk 17 = (101, 5) := rfl
theorem pK_18 {L : Nat} {dk : Nat → Nat × Nat} : p_K L dk 18 = (101, 4) := rfl
theorem pK_19 {L : Nat} {dk : Nat → Nat × Nat} : p_K L dk 19 = (101, 4) := rfl
theorem pK_20 {L : Nat} {dk : Nat → Nat × Nat} : p_K L dk 20 = (101, 4) := rfl
theorem pK_21 {L : Nat} {dk : Nat → Nat × Nat} : p_K L dk 21 = (101, 5) := rfl
theorem pK_22 {L : Nat} {dk : Nat → Nat × Nat} : p_K L dk 22 = (101, 4) := rfl
theorem pK_23 {L : Nat} {dk : Nat → Nat × Nat} : p_K L dk 23 = (101, 2) := rfl
theorem pK_24 {L : Nat} {dk : Nat → Nat × Nat} : p_K L dk 24 = (101, 3) := rfl
theorem pK_25 {L : Nat} {dk : Nat → Nat × Nat} : p_K L dk 25 = (101, 3) := rfl
theorem pK_26 {L : Nat} {dk : Nat → Nat × Nat} : p_K L dk 26 = (101, 4) := rfl
theorem pK_27 {L : Nat} {dk : Nat → Nat × Nat} : p_K L dk 27 = (101, 4) := rfl
theorem pK_28 {L : Nat} {dk : Nat → Nat × Nat} : p_K L dk 28 = (101, 4) := rfl
theorem pK_29 {L : Nat} {dk : Nat → Nat × Nat} : p_K L dk 29 = (300, 0) := rfl
theorem pK_30 {L : Nat} {dk : Nat → Nat × Nat} : p_K L dk 30 = (300, 0) := rfl
theorem pK_31 {L : Nat} {dk : Nat → Nat × Nat} : p_K L dk 31 = (300, 0) := rfl
theorem pK_32 {L : Nat} {dk : Nat → Nat × Nat} : p_K L dk 32 = (7, 0) := rfl
theorem pK_33 {L : Nat} {dk : Nat → Nat × Nat} : p_K L dk 33 = (115, 4) := rfl
theorem pK_34 {L : Nat} {dk : Nat → Nat × Nat} : p_K L dk 34 = (116, 8) := rfl
theorem pK_35 {L : Nat} {dk : Nat → Nat × Nat} : p_K L dk 35 = (111, 6) := rfl
theorem pK_36 {L : Nat} {dk : Nat → Nat × Nat} : p_K L dk 36 = (114, 4) := rfl
theorem pK_37 {L : Nat} {dk : Nat → Nat × Nat} : p_K L dk 37 = (2, 0) := rfl
theorem pK_38 {L : Nat} {dk : Nat → Nat × Nat} : p_K L dk 38 = (100, 6) := rfl
theorem pK_39 {L : Nat} {dk : Nat → Nat × Nat} : p_K L dk 39 = (100, 6) := rfl
theorem pK_40 {L : Nat} {dk : Nat → Nat × Nat} : p_K L dk 40 = (100, 6) := rfl
theorem pK_41 {L : Nat} {dk : Nat → Nat × Nat} : p_K L dk 41 = (100, 6) := rfl
theorem pK_42 {L : Nat} {dk : Nat → Nat × Nat} : p_K L dk 42 = (3, 0) := rfl
theorem pK_43 {L : Nat} {dk : Nat → Nat × Nat} : p_K L dk 43 = (101, 160) := rfl
theorem pK_44 {L : Nat} {dk : Nat → Nat × Nat} : p_K L dk 44 = (100, 160) := rfl
theorem pK_45 {L : Nat} {dk : Nat → Nat × Nat} : p_K L dk 45 = (0, 0) := rfl
theorem pK_46 {L : Nat} {dk : Nat → Nat × Nat} : p_K L dk 46 = (103, 7) := rfl
theorem pK_47 {L : Nat} {dk : Nat → Nat × Nat} : p_K L dk 47 = (100, 41) := rfl
theorem pK_48 {L : Nat} {dk : Nat → Nat × Nat} : p_K L dk 48 = (100, 41) := rfl
theorem pK_49 {L : Nat} {dk : Nat → Nat × Nat} : p_K L dk 49 = (100, 41) := rfl
theorem pK_50 {L : Nat} {dk : Nat → Nat × Nat} : p_K L dk 50 = (100, 41) := rfl
theorem pK_51 {L : Nat} {dk : Nat → Nat × Nat} : p_K L dk 51 = (100, 41) := rfl
theorem pK_52 {L : Nat} {dk : Nat → Nat × Nat} : p_K L dk 52 = (100, 41) := rfl
theorem pK_53 {L : Nat} {dk : Nat → Nat × Nat} : p_K L dk 53 = (100, 41) := rfl
theorem pK_54 {L : Nat} {dk : Nat → Nat × Nat} : p_K L dk 54 = (100, 6) := rfl
theorem pK_55 {L : Nat} {dk : Nat → Nat × Nat} : p_K L dk 55 = (100, 160) := rfl
theorem pK_56 {L : Nat} {dk : Nat → Nat × Nat} : p_K L dk 56 = (100, 3) := rfl
theorem pK_57 {L : Nat} {dk : Nat → Nat × Nat} : p_K L dk 57 = (0, 0) := rfl
theorem pK_58 {L : Nat} {dk : Nat → Nat × Nat} : p_K L dk 58 = (103, 7) := rfl
theorem pK_59 {L : Nat} {dk : Nat → Nat × Nat} : p_K L dk 59 = (100, 41) := rfl
theorem pK_60 {L : Nat} {dk : Nat → Nat × Nat} : p_K L dk 60 = (100, 41) := rfl
theorem pK_61 {L : Nat} {dk : Nat → Nat × Nat} : p_K L dk 61 = (100, 41) := rfl
theorem pK_62 {L : Nat} {dk : Nat → Nat × Nat} : p_K L dk 62 = (100, 41) := rfl
theorem pK_63 {L : Nat} {dk : Nat → Nat × Nat} : p_K L dk 63 = (100, 41) := rfl
theorem pK_64 {L : Nat} {dk : Nat → Nat × Nat} : p_K L dk 64 = (100, 41) := rfl
theorem pK_65 {L : Nat} {dk : Nat → Nat × Nat} : p_K L dk 65 = (100, 41) := rfl
theorem pK_66 {L : Nat} {dk : Nat → Nat × Nat} : p_K L dk 66 = (100, 6) := rfl
theorem pK_67 {L : Nat} {dk : Nat → Nat × Nat} : p_K L dk 67 = (100, 160) := rfl
theorem pK_68 {L : Nat} {dk : Nat → Nat × Nat} : p_K L dk 68 = (100, 3) := rfl
theorem pK_69 {L : Nat} {dk : Nat → Nat × Nat} : p_K L dk 69 = (5, 0) := rfl
theorem pK_70 {L : Nat} {dk : Nat → Nat × Nat} : p_K L dk 70 = (103, 5) := rfl
theorem pK_71 {L : Nat} {dk : Nat → Nat × Nat} : p_K L dk 71 = (100, 6) := rfl
theorem pK_72 {L : Nat} {dk : Nat → Nat × Nat} : p_K L dk 72 = (100, 6) := rfl
theorem pK_73 {L : Nat} {dk : Nat → Nat × Nat} : p_K L dk 73 = (100, 6) := rfl
theorem pK_74 {L : Nat} {dk : Nat → Nat × Nat} : p_K L dk 74 = (100, 6) := rfl
theorem pK_75 {L : Nat} {dk : Nat → Nat × Nat} : p_K L dk 75 = (100, 6) := rfl
theorem pK_76 {L : Nat} {dk : Nat → Nat × Nat} : p_K L dk 76 = (103, 3) := rfl
theorem pK_77 {L : Nat} {dk : Nat → Nat × Nat} : p_K L dk 77 = (100, 6) := rfl
theorem pK_78 {L : Nat} {dk : Nat → Nat × Nat} : p_K L dk 78 = (100, 6) := rfl
theorem pK_79 {L : Nat} {dk : Nat → Nat × Nat} : p_K L dk 79 = (100, 6) := rfl
theorem pK_80 {L : Nat} {dk : Nat → Nat × Nat} : p_K L dk 80 = (5, 0) := rfl
theorem pK_81 {L : Nat} {dk : Nat → Nat × Nat} : p_K L dk 81 = (103, 5) := rfl
theorem pK_82 {L : Nat} {dk : Nat → Nat × Nat} : p_K L dk 82 = (100, 6) := rfl
theorem pK_83 {L : Nat} {dk : Nat → Nat × Nat} : p_K L dk 83 = (100, 6) := rfl
theorem pK_84 {L : Nat} {dk : Nat → Nat × Nat} : p_K L dk 84 = (100, 6) := rfl
theorem pK_85 {L : Nat} {dk : Nat → Nat × Nat} : p_K L dk 85 = (100, 6) := rfl
theorem pK_86 {L : Nat} {dk : Nat → Nat × Nat} : p_K L dk 86 = (100, 6) := rfl
theorem pK_87 {L : Nat} {dk : Nat → Nat × Nat} : p_K L dk 87 = (103, 3) := rfl
theorem pK_88 {L : Nat} {dk : Nat → Nat × Nat} : p_K L dk 88 = (100, 6) := rfl
theorem pK_89 {L : Nat} {dk : Nat → Nat × Nat} : p_K L dk 89 = (100, 6) := rfl
theorem pK_90 {L : Nat} {dk : Nat → Nat × Nat} : p_K L dk 90 = (100, 6) := rfl
theorem pK_91 {L : Nat} {dk : Nat → Nat × Nat} : p_K L dk 91 = (5, 0) := rfl
theorem pK_92 {L : Nat} {dk : Nat → Nat × Nat} : p_K L dk 92 = (103, 5) := rfl
theorem pK_93 {L : Nat} {dk : Nat → Nat × Nat} : p_K L dk 93 = (100, 6) := rfl
theorem pK_94 {L : Nat} {dk : Nat → Nat × Nat} : p_K L dk 94 = (100, 6) := rfl
theorem pK_95 {L : Nat} {dk : Nat → Nat × Nat} : p_K L dk 95 = (100, 6) := rfl
theorem pK_96 {L : Nat} {dk : Nat → Nat × Nat} : p_K L dk 96 = (100, 6) := rfl
theorem pK_97 {L : Nat} {dk : Nat → Nat × Nat} : p_K L dk 97 = (100, 6) := rfl
theorem pK_98 {L : Nat} {dk : Nat → Nat × Nat} : p_K L dk 98 = (103, 3) := rfl
theorem pK_99 {L : Nat} {dk : Nat → Nat × Nat} : p_K L dk 99 = (100, 6) := rfl
theorem pK_100 {L : Nat} {dk : Nat → Nat × Nat} : p_K L dk 100 = (100, 6) := rfl
theorem pK_101 {L : Nat} {dk : Nat → Nat × Nat} : p_K L dk 101 = (100, 6) := rfl
theorem pK_102 {L : Nat} {dk : Nat → Nat × Nat} : p_K L dk 102 = (5, 0) := rfl
theorem pK_103 {L : Nat} {dk : Nat → Nat × Nat} : p_K L dk 103 = (103, 5) := rfl
theorem pK_104 {L : Nat} {dk : Nat → Nat × Nat} : p_K L dk 104 = (100, 6) := rfl
theorem pK_105 {L : Nat} {dk : Nat → Nat × Nat} : p_K L dk 105 = (100, 6) := rfl
theorem pK_106 {L : Nat} {dk : Nat → Nat × Nat} : p_K L dk 106 = (100, 6) := rfl
theorem pK_107 {L : Nat} {dk : Nat → Nat × Nat} : p_K L dk 107 = (100, 6) := rfl
theorem pK_108 {L : Nat} {dk : Nat → Nat × Nat} : p_K L dk 108 = (100, 6) := rfl
theorem pK_109 {L : Nat} {dk : Nat → Nat × Nat} : p_K L dk 109 = (103, 3) := rfl
theorem pK_110 {L : Nat} {dk : Nat → Nat × Nat} : p_K L dk 110 = (100, 6) := rfl
theorem pK_111 {L : Nat} {dk : Nat → Nat × Nat} : p_K L dk 111 = (100, 6) := rfl
theorem pK_112 {L : Nat} {dk : Nat → Nat × Nat} : p_K L dk 112 = (100, 6) := rfl
theorem pK_113 {L : Nat} {dk : Nat → Nat × Nat} : p_K L dk 113 = (5, 0) := rfl
theorem pK_114 {L : Nat} {dk : Nat → Nat × Nat} : p_K L dk 114 = (103, 5) := rfl
theorem pK_115 {L : Nat} {dk : Nat → Nat × Nat} : p_K L dk 115 = (100, 6) := rfl
theorem pK_116 {L : Nat} {dk : Nat → Nat × Nat} : p_K L dk 116 = (100, 6) := rfl
theorem pK_117 {L : Nat} {dk : Nat → Nat × Nat} : p_K L dk 117 = (100, 6) := rfl
theorem pK_118 {L : Nat} {dk : Nat → Nat × Nat} : p_K L dk 118 = (100, 6) := rfl
theorem pK_119 {L : Nat} {dk : Nat → Nat × Nat} : p_K L dk 119 = (100, 6) := rfl
theorem pK_120 {L : Nat} {dk : Nat → Nat × Nat} : p_K L dk 120 = (103, 3) := rfl
theorem pK_121 {L : Nat} {dk : Nat → Nat × Nat} : p_K L dk 121 = (100, 6) := rfl
theorem pK_122 {L : Nat} {dk : Nat → Nat × Nat} : p_K L dk 122 = (100, 6) := rfl
theorem pK_123 {L : Nat} {dk : Nat → Nat × Nat} : p_K L dk 123 = (100, 6) := rfl
theorem pK_124 {L : Nat} {dk : Nat → Nat × Nat} : p_K L dk 124 = (4, 0) := rfl
theorem pK_125 {L : Nat} {dk : Nat → Nat × Nat} : p_K L dk 125 = (100, 80) := rfl
theorem pK_126 {L : Nat} {dk : Nat → Nat × Nat} : p_K L dk 126 = (4, 0) := rfl
theorem pK_127 {L : Nat} {dk : Nat → Nat × Nat} : p_K L dk 127 = (100, 80) := rfl
theorem pK_128 {L : Nat} {dk : Nat → Nat × Nat} : p_K L dk 128 = (4, 0) := rfl
theorem pK_129 {L : Nat} {dk : Nat → Nat × Nat} : p_K L dk 129 = (100, 80) := rfl
theorem pK_130 {L : Nat} {dk : Nat → Nat × Nat} : p_K L dk 130 = (4, 0) := rfl
theorem pK_131 {L : Nat} {dk : Nat → Nat × Nat} : p_K L dk 131 = (100, 80) := rfl
theorem pK_132 {L : Nat} {dk : Nat → Nat × Nat} : p_K L dk 132 = (100, 4) := rfl
theorem pK_133 {L : Nat} {dk : Nat → Nat × Nat} : p_K L dk 133 = (100, 13) := rfl
theorem pK_134 {L : Nat} {dk : Nat → Nat × Nat} : p_K L dk 134 = (1, 0) := rfl
theorem pK_135 {L : Nat} {dk : Nat → Nat × Nat} : p_K L dk 135 = (8, 0) := rfl
theorem pK_136 {L : Nat} {dk : Nat → Nat × Nat} : p_K L dk 136 = (100, 16) := rfl
theorem pK_137 {L : Nat} {dk : Nat → Nat × Nat} : p_K L dk 137 = (100, 4) := rfl
theorem pK_138 {L : Nat} {dk : Nat → Nat × Nat} : p_K L dk 138 = (100, 24) := rfl
theorem pK_139 {L : Nat} {dk : Nat → Nat × Nat} : p_K L dk 139 = (100, 24) := rfl
theorem pK_140 {L : Nat} {dk : Nat → Nat × Nat} : p_K L dk 140 = (100, 24) := rfl
theorem pK_141 {L : Nat} {dk : Nat → Nat × Nat} : p_K L dk 141 = (100, 24) := rfl
theorem pK_142 {L : Nat} {dk : Nat → Nat × Nat} : p_K L dk 142 = (100, 24) := rfl
theorem pK_143 {L : Nat} {dk : Nat → Nat × Nat} : p_K L dk 143 = (100, 8) := rfl
theorem pK_144 {L : Nat} {dk : Nat → Nat × Nat} : p_K L dk 144 = (100, 8) := rfl
theorem pK_145 {L : Nat} {dk : Nat → Nat × Nat} : p_K L dk 145 = (100, 8) := rfl
theorem pK_146 {L : Nat} {dk : Nat → Nat × Nat} : p_K L dk 146 = (100, 8) := rfl
theorem pK_147 {L : Nat} {dk : Nat → Nat × Nat} : p_K L dk 147 = (100, 8) := rfl
theorem pK_148 {L : Nat} {dk : Nat → Nat × Nat} : p_K L dk 148 = (100, 8) := rfl
theorem pK_149 {L : Nat} {dk : Nat → Nat × Nat} : p_K L dk 149 = (100, 8) := rfl
theorem pK_150 {L : Nat} {dk : Nat → Nat × Nat} : p_K L dk 150 = (100, 6) := rfl
theorem pK_151 {L : Nat} {dk : Nat → Nat × Nat} : p_K L dk 151 = (100, 6) := rfl
theorem pK_152 {L : Nat} {dk : Nat → Nat × Nat} : p_K L dk 152 = (100, 160) := rfl
theorem pK_153 {L : Nat} {dk : Nat → Nat × Nat} : p_K L dk 153 = (100, 1200) := rfl
theorem pK_154 {L : Nat} {dk : Nat → Nat × Nat} : p_K L dk 154 = (100, 24) := rfl
theorem pK_155 {L : Nat} {dk : Nat → Nat × Nat} : p_K L dk 155 = (100, 4) := rfl
theorem pK_156 {L : Nat} {dk : Nat → Nat × Nat} : p_K L dk 156 = (100, 24) := rfl
theorem pK_157 {L : Nat} {dk : Nat → Nat × Nat} : p_K L dk 157 = (100, 24) := rfl
theorem pK_158 {L : Nat} {dk : Nat → Nat × Nat} : p_K L dk 158 = (100, 24) := rfl
theorem pK_159 {L : Nat} {dk : Nat → Nat × Nat} : p_K L dk 159 = (100, 6) := rfl
theorem pK_160 {L : Nat} {dk : Nat → Nat × Nat} : p_K L dk 160 = (100, 6) := rfl
theorem pK_161 {L : Nat} {dk : Nat → Nat × Nat} : p_K L dk 161 = (100, 4) := rfl
theorem pK_162 {L : Nat} {dk : Nat → Nat × Nat} : p_K L dk 162 = (100, 4) := rfl
theorem pK_163 {L : Nat} {dk : Nat → Nat × Nat} : p_K L dk 163 = (100, 320) := rfl
theorem pK_164 {L : Nat} {dk : Nat → Nat × Nat} : p_K L dk 164 = (102, 12) := rfl
theorem pK_165 {L : Nat} {dk : Nat → Nat × Nat} : p_K L dk 165 = (100, 200) := rfl
theorem pK_166 {L : Nat} {dk : Nat → Nat × Nat} : p_K L dk 166 = (100, 200) := rfl
theorem pK_167 {L : Nat} {dk : Nat → Nat × Nat} : p_K L dk 167 = (100, 6) := rfl
theorem pK_168 {L : Nat} {dk : Nat → Nat × Nat} : p_K L dk 168 = (100, 41) := rfl
theorem pK_169 {L : Nat} {dk : Nat → Nat × Nat} : p_K L dk 169 = (100, 41) := rfl
theorem pK_170 {L : Nat} {dk : Nat → Nat × Nat} : p_K L dk 170 = (100, 41) := rfl
theorem pK_171 {L : Nat} {dk : Nat → Nat × Nat} : p_K L dk 171 = (100, 41) := rfl
theorem pK_172 {L : Nat} {dk : Nat → Nat × Nat} : p_K L dk 172 = (100, 41) := rfl
theorem pK_173 {L : Nat} {dk : Nat → Nat × Nat} : p_K L dk 173 = (100, 41) := rfl
theorem pK_174 {L : Nat} {dk : Nat → Nat × Nat} : p_K L dk 174 = (100, 41) := rfl
theorem pK_175 {L : Nat} {dk : Nat → Nat × Nat} : p_K L dk 175 = (100, 6) := rfl
theorem pK_176 {L : Nat} {dk : Nat → Nat × Nat} : p_K L dk 176 = (100, 41) := rfl
theorem pK_177 {L : Nat} {dk : Nat → Nat × Nat} : p_K L dk 177 = (100, 41) := rfl
theorem pK_178 {L : Nat} {dk : Nat → Nat × Nat} : p_K L dk 178 = (100, 41) := rfl
theorem pK_2 {L : Nat} {dk : Nat → Nat × Nat} : p_K L dk 2 = (100, L) := rfl
theorem pR_32_0 {r : Nat → Nat → Option Nat} : p_R r 32 0 = some 33 := rfl
theorem pR_32_1 {r : Nat → Nat → Option Nat} : p_R r 32 1 = some 34 := rfl
theorem pR_32_2 {r : Nat → Nat → Option Nat} : p_R r 32 2 = some 35 := rfl
theorem pR_32_3 {r : Nat → Nat → Option Nat} : p_R r 32 3 = some 36 := rfl
theorem pR_32_4 {r : Nat → Nat → Option Nat} : p_R r 32 4 = some 37 := rfl
theorem pR_32_5 {r : Nat → Nat → Option Nat} : p_R r 32 5 = some 42 := rfl
theorem pR_32_6 {r : Nat → Nat → Option Nat} : p_R r 32 6 = some 45 := rfl
theorem pR_32_7 {r : Nat → Nat → Option Nat} : p_R r 32 7 = some 57 := rfl
theorem pR_32_8 {r : Nat → Nat → Option Nat} : p_R r 32 8 = some 69 := rfl
theorem pR_33_0 {r : Nat → Nat → Option Nat} : p_R r 33 0 = some 80 := rfl
theorem pR_33_1 {r : Nat → Nat → Option Nat} : p_R r 33 1 = some 91 := rfl
theorem pR_33_2 {r : Nat → Nat → Option Nat} : p_R r 33 2 = some 102 := rfl
theorem pR_33_3 {r : Nat → Nat → Option Nat} : p_R r 33 3 = some 113 := rfl
theorem pR_36_0 {r : Nat → Nat → Option Nat} : p_R r 36 0 = some 124 := rfl
theorem pR_36_1 {r : Nat → Nat → Option Nat} : p_R r 36 1 = some 126 := rfl
theorem pR_36_2 {r : Nat → Nat → Option Nat} : p_R r 36 2 = some 128 := rfl
theorem pR_36_3 {r : Nat → Nat → Option Nat} : p_R r 36 3 = some 130 := rfl
theorem pR_37_0 {r : Nat → Nat → Option Nat} : p_R r 37 0 = some 38 := rfl
theorem pR_37_1 {r : Nat → Nat → Option Nat} : p_R r 37 1 = some 39 := rfl
theorem pR_37_3 {r : Nat → Nat → Option Nat} : p_R r 37 3 = some 40 := rfl
theorem pR_37_4 {r : Nat → Nat → Option Nat} : p_R r 37 4 = some 41 := rfl
theorem pR_42_0 {r : Nat → Nat → Option Nat} : p_R r 42 0 = some 43 := rfl
theorem pR_42_3 {r : Nat → Nat → Option Nat} : p_R r 42 3 = some 44 := rfl
theorem pR_45_0 {r : Nat → Nat → Option Nat} : p_R r 45 0 = some 46 := rfl
theorem pR_45_10 {r : Nat → Nat → Option Nat} : p_R r 45 10 = some 54 := rfl
theorem pR_45_11 {r : Nat → Nat → Option Nat} : p_R r 45 11 = some 55 := rfl
theorem pR_45_12 {r : Nat → Nat → Option Nat} : p_R r 45 12 = some 56 := rfl
theorem pR_46_0 {r : Nat → Nat → Option Nat} : p_R r 46 0 = some 47 := rfl
theorem pR_46_1 {r : Nat → Nat → Option Nat} : p_R r 46 1 = some 48 := rfl
theorem pR_46_2 {r : Nat → Nat → Option Nat} : p_R r 46 2 = some 49 := rfl
theorem pR_46_3 {r : Nat → Nat → Option Nat} : p_R r 46 3 = some 50 := rfl
theorem pR_46_4 {r : Nat → Nat → Option Nat} : p_R r 46 4 = some 51 := rfl
theorem pR_46_5 {r : Nat → Nat → Option Nat} : p_R r 46 5 = some 52 := rfl
theorem pR_46_6 {r : Nat → Nat → Option Nat} : p_R r 46 6 = some 53 := rfl
theorem pR_57_0 {r : Nat → Nat → Option Nat} : p_R r 57 0 = some 58 := rfl
theorem pR_57_10 {r : Nat → Nat → Option Nat} : p_R r 57 10 = some 66 := rfl
theorem pR_57_11 {r : Nat → Nat → Option Nat} : p_R r 57 11 = some 67 := rfl
theorem pR_57_12 {r : Nat → Nat → Option Nat} : p_R r 57 12 = some 68 := rfl
theorem pR_58_0 {r : Nat → Nat → Option Nat} : p_R r 58 0 = some 59 := rfl
theorem pR_58_1 {r : Nat → Nat → Option Nat} : p_R r 58 1 = some 60 := rfl
theorem pR_58_2 {r : Nat → Nat → Option Nat} : p_R r 58 2 = some 61 := rfl
theorem pR_58_3 {r : Nat → Nat → Option Nat} : p_R r 58 3 = some 62 := rfl
theorem pR_58_4 {r : Nat → Nat → Option Nat} : p_R r 58 4 = some 63 := rfl
theorem pR_58_5 {r : Nat → Nat → Option Nat} : p_R r 58 5 = some 64 := rfl
theorem pR_58_6 {r : Nat → Nat → Option Nat} : p_R r 58 6 = some 65 := rfl
theorem pR_69_1 {r : Nat → Nat → Option Nat} : p_R r 69 1 = some 70 := rfl
theorem pR_69_2 {r : Nat → Nat → Option Nat} : p_R r 69 2 = some 76 := rfl
theorem pR_70_0 {r : Nat → Nat → Option Nat} : p_R r 70 0 = some 71 := rfl
theorem pR_70_1 {r : Nat → Nat → Option Nat} : p_R r 70 1 = some 72 := rfl
theorem pR_70_2 {r : Nat → Nat → Option Nat} : p_R r 70 2 = some 73 := rfl
theorem pR_70_3 {r : Nat → Nat → Option Nat} : p_R r 70 3 = some 74 := rfl
theorem pR_70_4 {r : Nat → Nat → Option Nat} : p_R r 70 4 = some 75 := rfl
theorem pR_76_0 {r : Nat → Nat → Option Nat} : p_R r 76 0 = some 77 := rfl
theorem pR_76_1 {r : Nat → Nat → Option Nat} : p_R r 76 1 = some 78 := rfl
theorem pR_76_2 {r : Nat → Nat → Option Nat} : p_R r 76 2 = some 79 := rfl
theorem pR_80_1 {r : Nat → Nat → Option Nat} : p_R r 80 1 = some 81 := rfl
theorem pR_80_2 {r : Nat → Nat → Option Nat} : p_R r 80 2 = some 87 := rfl
theorem pR_81_0 {r : Nat → Nat → Option Nat} : p_R r 81 0 = some 82 := rfl
theorem pR_81_1 {r : Nat → Nat → Option Nat} : p_R r 81 1 = some 83 := rfl
theorem pR_81_2 {r : Nat → Nat → Option Nat} : p_R r 81 2 = some 84 := rfl
theorem pR_81_3 {r : Nat → Nat → Option Nat} : p_R r 81 3 = some 85 := rfl
theorem pR_81_4 {r : Nat → Nat → Option Nat} : p_R r 81 4 = some 86 := rfl
theorem pR_87_0 {r : Nat → Nat → Option Nat} : p_R r 87 0 = some 88 := rfl
theorem pR_87_1 {r : Nat → Nat → Option Nat} : p_R r 87 1 = some 89 := rfl
theorem pR_87_2 {r : Nat → Nat → Option Nat} : p_R r 87 2 = some 90 := rfl
theorem pR_91_1 {r : Nat → Nat → Option Nat} : p_R r 91 1 = some 92 := rfl
theorem pR_91_2 {r : Nat → Nat → Option Nat} : p_R r 91 2 = some 98 := rfl
theorem pR_92_0 {r : Nat → Nat → Option Nat} : p_R r 92 0 = some 93 := rfl
theorem pR_92_1 {r : Nat → Nat → Option Nat} : p_R r 92 1 = some 94 := rfl
theorem pR_92_2 {r : Nat → Nat → Option Nat} : p_R r 92 2 = some 95 := rfl
theorem pR_92_3 {r : Nat → Nat → Option Nat} : p_R r 92 3 = some 96 := rfl
theorem pR_92_4 {r : Nat → Nat → Option Nat} : p_R r 92 4 = some 97 := rfl
theorem pR_98_0 {r : Nat → Nat → Option Nat} : p_R r 98 0 = some 99 := rfl
theorem pR_98_1 {r : Nat → Nat → Option Nat} : p_R r 98 1 = some 100 := rfl
theorem pR_98_2 {r : Nat → Nat → Option Nat} : p_R r 98 2 = some 101 := rfl
theorem pR_102_1 {r : Nat → Nat → Option Nat} : p_R r 102 1 = some 103 := rfl
theorem pR_102_2 {r : Nat → Nat → Option Nat} : p_R r 102 2 = some 109 := rfl
theorem pR_103_0 {r : Nat → Nat → Option Nat} : p_R r 103 0 = some 104 := rfl
theorem pR_103_1 {r : Nat → Nat → Option Nat} : p_R r 103 1 = some 105 := rfl
theorem pR_103_2 {r : Nat → Nat → Option Nat} : p_R r 103 2 = some 106 := rfl
theorem pR_103_3 {r : Nat → Nat → Option Nat} : p_R r 103 3 = some 107 := rfl
theorem pR_103_4 {r : Nat → Nat → Option Nat} : p_R r 103 4 = some 108 := rfl
theorem pR_109_0 {r : Nat → Nat → Option Nat} : p_R r 109 0 = some 110 := rfl
theorem pR_109_1 {r : Nat → Nat → Option Nat} : p_R r 109 1 = some 111 := rfl
theorem pR_109_2 {r : Nat → Nat → Option Nat} : p_R r 109 2 = some 112 := rfl
theorem pR_113_1 {r : Nat → Nat → Option Nat} : p_R r 113 1 = some 114 := rfl
theorem pR_113_2 {r : Nat → Nat → Option Nat} : p_R r 113 2 = some 120 := rfl
theorem pR_114_0 {r : Nat → Nat → Option Nat} : p_R r 114 0 = some 115 := rfl
theorem pR_114_1 {r : Nat → Nat → Option Nat} : p_R r 114 1 = some 116 := rfl
theorem pR_114_2 {r : Nat → Nat → Option Nat} : p_R r 114 2 = some 117 := rfl
theorem pR_114_3 {r : Nat → Nat → Option Nat} : p_R r 114 3 = some 118 := rfl
theorem pR_114_4 {r : Nat → Nat → Option Nat} : p_R r 114 4 = some 119 := rfl
theorem pR_120_0 {r : Nat → Nat → Option Nat} : p_R r 120 0 = some 121 := rfl
theorem pR_120_1 {r : Nat → Nat → Option Nat} : p_R r 120 1 = some 122 := rfl
theorem pR_120_2 {r : Nat → Nat → Option Nat} : p_R r 120 2 = some 123 := rfl
theorem pR_124_0 {r : Nat → Nat → Option Nat} : p_R r 124 0 = some 125 := rfl
theorem pR_126_0 {r : Nat → Nat → Option Nat} : p_R r 126 0 = some 127 := rfl
theorem pR_128_0 {r : Nat → Nat → Option Nat} : p_R r 128 0 = some 129 := rfl
theorem pR_130_0 {r : Nat → Nat → Option Nat} : p_R r 130 0 = some 131 := rfl
theorem pR_135_0 {r : Nat → Nat → Option Nat} : p_R r 135 0 = some 136 := rfl
theorem pR_135_2 {r : Nat → Nat → Option Nat} : p_R r 135 2 = some 137 := rfl
theorem pR_135_3 {r : Nat → Nat → Option Nat} : p_R r 135 3 = some 138 := rfl
theorem pR_135_4 {r : Nat → Nat → Option Nat} : p_R r 135 4 = some 139 := rfl
theorem pR_135_5 {r : Nat → Nat → Option Nat} : p_R r 135 5 = some 140 := rfl
theorem pR_135_6 {r : Nat → Nat → Option Nat} : p_R r 135 6 = some 141 := rfl
theorem pR_135_7 {r : Nat → Nat → Option Nat} : p_R r 135 7 = some 142 := rfl
theorem pR_135_11 {r : Nat → Nat → Option Nat} : p_R r 135 11 = some 143 := rfl
theorem pR_135_12 {r : Nat → Nat → Option Nat} : p_R r 135 12 = some 144 := rfl
theorem pR_135_13 {r : Nat → Nat → Option Nat} : p_R r 135 13 = some 145 := rfl
theorem pR_135_14 {r : Nat → Nat → Option Nat} : p_R r 135 14 = some 146 := rfl
theorem pR_135_15 {r : Nat → Nat → Option Nat} : p_R r 135 15 = some 147 := rfl
theorem pR_135_16 {r : Nat → Nat → Option Nat} : p_R r 135 16 = some 148 := rfl
theorem pR_135_17 {r : Nat → Nat → Option Nat} : p_R r 135 17 = some 149 := rfl
theorem pR_135_19 {r : Nat → Nat → Option Nat} : p_R r 135 19 = some 150 := rfl
theorem pR_135_20 {r : Nat → Nat → Option Nat} : p_R r 135 20 = some 151 := rfl
theorem pR_135_21 {r : Nat → Nat → Option Nat} : p_R r 135 21 = some 152 := rfl
theorem pR_135_23 {r : Nat → Nat → Option Nat} : p_R r 135 23 = some 153 := rfl
theorem pR_135_24 {r : Nat → Nat → Option Nat} : p_R r 135 24 = some 154 := rfl
theorem pR_135_33 {r : Nat → Nat → Option Nat} : p_R r 135 33 = some 155 := rfl
theorem pR_135_34 {r : Nat → Nat → Option Nat} : p_R r 135 34 = some 156 := rfl
theorem pR_135_35 {r : Nat → Nat → Option Nat} : p_R r 135 35 = some 157 := rfl
theorem pR_135_36 {r : Nat → Nat → Option Nat} : p_R r 135 36 = some 158 := rfl
theorem pR_135_37 {r : Nat → Nat → Option Nat} : p_R r 135 37 = some 159 := rfl
theorem pR_135_38 {r : Nat → Nat → Option Nat} : p_R r 135 38 = some 160 := rfl
theorem pR_135_39 {r : Nat → Nat → Option Nat} : p_R r 135 39 = some 161 := rfl
theorem pR_135_40 {r : Nat → Nat → Option Nat} : p_R r 135 40 = some 162 := rfl
theorem pR_135_41 {r : Nat → Nat → Option Nat} : p_R r 135 41 = some 163 := rfl
theorem pR_135_46 {r : Nat → Nat → Option Nat} : p_R r 135 46 = some 164 := rfl
theorem pR_135_47 {r : Nat → Nat → Option Nat} : p_R r 135 47 = some 165 := rfl
theorem pR_135_51 {r : Nat → Nat → Option Nat} : p_R r 135 51 = some 166 := rfl
theorem pR_135_52 {r : Nat → Nat → Option Nat} : p_R r 135 52 = some 167 := rfl
theorem pR_135_53 {r : Nat → Nat → Option Nat} : p_R r 135 53 = some 168 := rfl
theorem pR_135_54 {r : Nat → Nat → Option Nat} : p_R r 135 54 = some 169 := rfl
theorem pR_135_55 {r : Nat → Nat → Option Nat} : p_R r 135 55 = some 170 := rfl
theorem pR_135_56 {r : Nat → Nat → Option Nat} : p_R r 135 56 = some 171 := rfl
theorem pR_135_57 {r : Nat → Nat → Option Nat} : p_R r 135 57 = some 172 := rfl
theorem pR_135_58 {r : Nat → Nat → Option Nat} : p_R r 135 58 = some 173 := rfl
theorem pR_135_59 {r : Nat → Nat → Option Nat} : p_R r 135 59 = some 174 := rfl
theorem pR_135_61 {r : Nat → Nat → Option Nat} : p_R r 135 61 = some 175 := rfl
theorem pR_135_62 {r : Nat → Nat → Option Nat} : p_R r 135 62 = some 176 := rfl
theorem pR_135_63 {r : Nat → Nat → Option Nat} : p_R r 135 63 = some 177 := rfl
theorem pR_135_64 {r : Nat → Nat → Option Nat} : p_R r 135 64 = some 178 := rfl
theorem pR_45_2 {r : Nat → Nat → Option Nat} : p_R r 45 2 = r 45 2 := rfl
theorem pR_45_3 {r : Nat → Nat → Option Nat} : p_R r 45 3 = r 45 3 := rfl
theorem pR_45_4 {r : Nat → Nat → Option Nat} : p_R r 45 4 = r 45 4 := rfl
theorem pR_57_2 {r : Nat → Nat → Option Nat} : p_R r 57 2 = r 57 2 := rfl
theorem pR_57_3 {r : Nat → Nat → Option Nat} : p_R r 57 3 = r 57 3 := rfl
theorem pR_57_4 {r : Nat → Nat → Option Nat} : p_R r 57 4 = r 57 4 := rfl
theorem pR_134_0 {r : Nat → Nat → Option Nat} : p_R r 134 0 = r 134 0 := rfl
theorem pR_134_1 {r : Nat → Nat → Option Nat} : p_R r 134 1 = r 134 1 := rfl
theorem p_R_free {r : Nat → Nat → Option Nat} {a k : Nat} (h : (p_RT.getD a []).getD k 0 = 0) : p_R r a k = r a k := by unfold p_R; rw [h]
theorem p_R_dyn {r : Nat → Nat → Option Nat} {a k : Nat} (h : 179 ≤ a) : p_R r a k = r a k := by
  apply p_R_free
  have : (p_RT.getD a []) = [] := by
    rw [List.getD_eq_getElem?_getD, List.getElem?_eq_none (by show p_RT.length ≤ a; have : p_RT.length = 179 := rfl; omega)]; rfl
  rw [this]; rfl
theorem p_T34 : p_RT.getD 34 [] = [] := rfl
theorem p_R_34 {r : Nat → Nat → Option Nat} {k : Nat} : p_R r 34 k = r 34 k := p_R_free (by rw [p_T34]; rfl)
theorem p_T35 : p_RT.getD 35 [] = [] := rfl
theorem p_R_35 {r : Nat → Nat → Option Nat} {k : Nat} : p_R r 35 k = r 35 k := p_R_free (by rw [p_T35]; rfl)
theorem p_K_dyn {L : Nat} {dk : Nat → Nat × Nat} {a : Nat} (h : 179 ≤ a) : p_K L dk a = dk a := if_neg (by omega)
theorem p_R_up {r : Nat → Nat → Option Nat} {a k : Nat} {v : Option Nat} (h : (p_RT.getD a []).getD k 0 = 0) : q_up (p_R r) a k v = p_R (q_up r a k v) := by
  funext b j
  by_cases e : b = a ∧ j = k
  · obtain ⟨rfl, rfl⟩ := e
    rw [p_R_free h]
    simp [q_up]
  · unfold q_up p_R
    rw [if_neg e]
    simp only [if_neg e]
theorem va_rf_some (a : Nat) : va_rf (some a) = .ref a := rfl
theorem va_rf_none : va_rf none = .null := rfl
theorem cat_int (x : Int32) : (Value.int x).category = 1 := rfl
theorem cat_ref (a : Nat) : (Value.ref a).category = 1 := rfl
theorem cat_null : Value.null.category = 1 := rfl
theorem cat_jk : q_jk.category = 1 := rfl
theorem q_cs_nil : q_cs [] = 0 := rfl
theorem q_cs_int {x : Int32} {vs : List Value} : q_cs (.int x :: vs) = 1 + q_cs vs := by simp [q_cs, Value.category]
theorem q_cs_ref {a : Nat} {vs : List Value} : q_cs (.ref a :: vs) = 1 + q_cs vs := by simp [q_cs, Value.category]
theorem q_cs_long {x : Int64} {vs : List Value} : q_cs (.long x :: vs) = 2 + q_cs vs := by simp [q_cs, Value.category]
theorem q_tl_some (v : Value) (st : List Value) : (some v).toList ++ st = v :: st := rfl
theorem q_tl_none (st : List Value) : (none : Option Value).toList ++ st = st := rfl
theorem p_in {i : Int32} {n : Nat} : vp_in i n ↔ (0 ≤ i.toInt ∧ i.toInt < n) := by
  unfold vp_in
  have h1 : (i < 0) ↔ i.toInt < 0 := by rw [Int32.lt_iff_toInt_lt]; rfl
  rw [h1]
  show ¬ (i.toInt < 0 ∨ n ≤ i.toInt.toNat) ↔ _
  omega
theorem nz_0 : narrow .boolean (.int 0) = .int 0 := rfl
theorem nz_1 : narrow .boolean (.int 1) = .int 1 := rfl
