/-! going through a flight in the class -/
theorem k_fl {L f : Nat} {r : Nat → Nat → Option Nat} {dk : Nat → Nat × Nat} (h : f = 45 ∨ f = 57) : p_K L dk f = (0, 0) ∧ p_K L dk (f + 1) = (103, 7) ∧ p_K L dk (f + 2) = (100, 41) ∧ p_K L dk (f + 3) = (100, 41) ∧ p_K L dk (f + 4) = (100, 41) ∧ p_K L dk (f + 5) = (100, 41) ∧ p_K L dk (f + 6) = (100, 41) ∧ p_K L dk (f + 7) = (100, 41) ∧ p_K L dk (f + 8) = (100, 41) ∧ p_K L dk (f + 9) = (100, 6) ∧ p_K L dk (f + 10) = (100, 160) ∧ p_K L dk (f + 11) = (100, 3) := by
  rcases h with rfl | rfl <;> exact ⟨rfl, rfl, rfl, rfl, rfl, rfl, rfl, rfl, rfl, rfl, rfl, rfl⟩
theorem k_fr {f : Nat} {r : Nat → Nat → Option Nat} (h : f = 45 ∨ f = 57) : p_R r f 0 = some (f + 1) ∧ p_R r (f + 1) 0 = some (f + 2) ∧ p_R r (f + 1) 1 = some (f + 3) ∧ p_R r (f + 1) 2 = some (f + 4) ∧ p_R r (f + 1) 3 = some (f + 5) ∧ p_R r (f + 1) 4 = some (f + 6) ∧ p_R r (f + 1) 5 = some (f + 7) ∧ p_R r (f + 1) 6 = some (f + 8) ∧ p_R r f 10 = some (f + 9) ∧ p_R r f 11 = some (f + 10) ∧ p_R r f 12 = some (f + 11) ∧ p_R r f 2 = r f 2 ∧ p_R r f 3 = r f 3 ∧ p_R r f 4 = r f 4 := by
  rcases h with rfl | rfl <;> exact ⟨rfl, rfl, rfl, rfl, rfl, rfl, rfl, rfl, rfl, rfl, rfl, rfl, rfl, rfl⟩
/-- the flight f is aimed at the model's throw i (t, st, b, u, v: where its throw, stick and law lie) -/
def p_fa (f L : Nat) (r : Nat → Nat → Option Nat) (dk : Nat → Nat × Nat) (I M : Nat → Nat → Int32) (i : Nat) (w p : Int32) (mir : Bool) (t st b u v : Nat) : Prop :=
  r f 2 = some t ∧ r f 3 = some st ∧ r f 4 = some b ∧ I f 5 = w ∧ I f 6 = p ∧ I f 7 = M 135 8 ∧ I f 8 = M 135 9 ∧ I f 9 = (if mir = true then 1 else 0) ∧ p_to r dk I M i t ∧ p_ska st ∧ p_stk I M st (p_si M i) ∧ p_lw r dk L I M (p_rl M) b u v
/-- numbers that never change -/
def p_con (I M : Nat → Nat → Int32) : Prop := (∀ k, k < 16 → I 0 k = M 136 k) ∧ I 1 0 = -1 ∧ I 1 1 = 0 ∧ I 1 2 = 0 ∧ I 1 3 = 1 ∧ I 1 4 = 0 ∧ I 1 5 = 3
theorem p_fa_fr {f L i t st b u v : Nat} {r : Nat → Nat → Option Nat} {dk : Nat → Nat × Nat} {I I' M : Nat → Nat → Int32} {w p : Int32} {mir : Bool} (hf : f = 45 ∨ f = 57) (h : p_fa f L r dk I M i w p mir t st b u v) (h1 : ∀ a, ¬(f ≤ a ∧ a ≤ f + 11) → I' a = I a) (h2 : ∀ j, j ≠ 1 → I' f j = I f j) : p_fa f L r dk I' M i w p mir t st b u v := by
  obtain ⟨a1, a2, a3, a4, a5, a6, a7, a8, ⟨b1, b2, b3, b4, b5, b6, b7, b8, b9, b10⟩, c1, ⟨c2, c3⟩, ⟨⟨d1, d2, d3⟩, d4, d5, d6, d7, d8, d9, d10⟩⟩ := h
  have et : I' t = I t := h1 t (by omega)
  have eu : I' u = I u := h1 u (by omega)
  have ev : I' v = I v := h1 v (by omega)
  have es : ∀ j, j ≤ 10 → I' (st + j) = I (st + j) := fun j hj => h1 _ (by rcases c1 with rfl | rfl | rfl | rfl | rfl <;> omega)
  refine ⟨a1, a2, a3, (h2 5 (by decide)).trans a4, (h2 6 (by decide)).trans a5, (h2 7 (by decide)).trans a6, (h2 8 (by decide)).trans a7, (h2 9 (by decide)).trans a8, ⟨b1, b2, ?_, ?_, ?_, ?_, ?_, ?_, ?_, b10⟩, c1, ⟨?_, ?_⟩, ⟨⟨d1, d2, d3⟩, d4, d5, d6, d7, d8, ?_, ?_⟩⟩
  · rw [et]; exact b3
  · rw [et]; exact b4
  · rw [et]; exact b5
  · rw [et]; exact b6
  · rw [et]; exact b7
  · rw [et]; exact b8
  · rw [et]; exact b9
  · rw [show I' st = I st from es 0 (by omega)]; exact c2
  · intro q hq
    rw [es 2 (by omega), es 3 (by omega), es 4 (by omega), es 5 (by omega), es 6 (by omega)]
    exact c3 q hq
  · rw [ev]; exact d9
  · rw [eu]; exact d10
/-- the flight f, gone through up to the tick k -/
def p_cfl (f : Nat) (I0 R : Nat → Nat → Int32) (k : Nat) (I : Nat → Nat → Int32) : Prop :=
  (∀ a, ¬(f ≤ a ∧ a ≤ f + 11) → I a = I0 a) ∧ (∀ j, j ≠ 1 → I f j = I0 f j) ∧ I f 1 = Int32.ofNat k ∧ ∀ j, j ≤ k → ∀ c, c < 7 → I (f + 2 + c) j = R j c
theorem s_windAt {d c L n f : Nat} {z : Int32} {Q : Option Value → q_H → Prop} {I M : Nat → Nat → Int32} {r : Nat → Nat → Option Nat} {dk : Nat → Nat × Nat} (hf : f = 45 ∨ f = 57) (h7 : I f 7 = M 135 8) (h8 : I f 8 = M 135 9) :
    q_wp (d + 1) c 6 0 [.ref f, .int z] [] (p_h L I r dk n) Q = Q (some (.int (p_wd M z))) (p_h L I r dk n) := by
  have h20 : ¬ ((20 : Int32) = 0) := by decide
  have h32 : 32 ≤ f := by omega
  obtain ⟨k1, -⟩ := k_fl (L := L) (r := r) (dk := dk) hf
  simp only [r6_0, r6_1, r6_4, r6_5, r6_8, r6_9, r6_10, r6_12, r6_13, r6_14, va_rf_some, va_rf_none, cat_int, cat_ref, cat_null, cat_jk, q_cs_nil, q_cs_int, q_cs_ref, q_cs_long, q_tl_some, q_tl_none, nz_0, nz_1, nzn_0, nzn_1, nz_b, true_and, and_true, Nat.reduceLeDiff, Nat.reduceAdd, k1, h7, h8, h32, h20, not_false_eq_true]
  rfl
/-- a tick of the flight f: looked at, with the shares of its stick -/
def p_lk (f : Nat) (I M : Nat → Nat → Int32) (s : Nat) (S : Nat → Int32) : Prop :=
  I (f + 9) 0 = S 4 ∧ I (f + 9) 1 = S 5 ∧ I (f + 9) 2 = S 6 ∧ I (f + 9) 3 = S 2 ∧ I (f + 9) 5 = p_wd M (S 2) ∧ ∀ j, j < 3 → I (f + 11) j = p_share M s j
theorem s_look {d c L n f k i t st b u v : Nat} {w p : Int32} {mir : Bool} {Q : Option Value → q_H → Prop} {I M : Nat → Nat → Int32} {r : Nat → Nat → Option Nat} {dk : Nat → Nat × Nat} {S : Nat → Int32} (hf : f = 45 ∨ f = 57) (ha : p_fa f L r dk I M i w p mir t st b u v) (hS : ∀ c, c < 7 → I (f + 2 + c) k = S c) (hk : k ≤ 40) (hsh : ∀ j, j < 3 → I (f + 11) j = p_share M (p_si M i) j)
    (hQ : ∀ I', (∀ a, a ≠ f + 9 → I' a = I a) → p_lk f I' M (p_si M i) S → Q none (p_h L I' r dk n)) :
    q_wp (d + 2) c 7 0 [.ref f, .int (Int32.ofNat k)] [] (p_h L I r dk n) Q := by
  obtain ⟨a1, a2, a3, a4, a5, a6, a7, a8, -⟩ := ha
  obtain ⟨k0, k1, k2, k3, k4, k5, k6, k7, k8, k9, k10, k11⟩ := k_fl (L := L) (r := r) (dk := dk) hf
  obtain ⟨r0, r1, r2, r3, r4, r5, r6, r7, r8, r9, r10, -⟩ := k_fr (r := r) hf
  have h32 : 32 ≤ f := by omega
  have x2 := hS 2 (by omega)
  have x4 := hS 4 (by omega)
  have x5 := hS 5 (by omega)
  have x6 := hS 6 (by omega)
  simp only [Nat.add_assoc, Nat.reduceAdd] at x2 x4 x5 x6
  have hW : ∀ (c' : Nat) (z : Int32) (Q' : Option Value → q_H → Prop) (J : Nat → Nat → Int32), J f 7 = I f 7 ∧ J f 8 = I f 8 → q_wp (d + 1) c' 6 0 [.ref f, .int z] [] (p_h L J r dk n) Q' = Q' (some (.int (p_wd M z))) (p_h L J r dk n) := fun c' z Q' J hJ => s_windAt hf (hJ.1.trans a6) (hJ.2.trans a7)
  simp (disch := first | omega | (refine And.intro ?_ ?_ <;> simp (disch := omega) only [q_up_a])) only [r7_0, r7_1, r7_4, r7_5, r7_6, r7_9, r7_10, r7_11, r7_12, r7_13, r7_14, r7_15, r7_18, r7_19, r7_20, r7_23, r7_24, r7_25, r7_26, r7_27, r7_28, r7_29, r7_32, r7_33, r7_34, r7_37, r7_39, r7_40, r7_41, r7_42, r7_43, r7_44, r7_47, r7_48, r7_49, r7_52, r7_53, r7_54, r7_55, r7_56, r7_57, r7_58, r7_61, r7_62, r7_63, r7_64, r7_67, r7_68, r7_69, r7_70, r7_71, r7_74, r7_75, hW, va_rf_some, va_rf_none, cat_int, cat_ref, cat_null, cat_jk, q_cs_nil, q_cs_int, q_cs_ref, q_cs_long, q_tl_some, q_tl_none, nz_0, nz_1, nzn_0, nzn_1, nz_b, true_and, and_true, Nat.reduceLeDiff, Nat.reduceAdd, l_0, l_1, l_2, l_3, l_4, l_5, l_6, l_7, l_8, l_9, l_10, l_11, l_12, l_13, l_14, l_15, l_16, l_17, l_18, l_19, l_20, l_24, l_32, l_40, l_41, l_42, l_43, l_45, l_48, l_57, l_59, l_60, l_61, l_63, l_64, l_80, l_96, l_97, l_99, l_100, l_122, l_160, l_200, l_320, l_640, l_999, l_1000, l_1200, l_4000, l_99999, l_100000, l_100001, l_100002, l_100006, l_100010, l_252645135, l_858993459, l_1431655765, n_cl, n_lt, n_le, n_eq, n_in, n_add, n_mul, n_sub, n_div, n_mod, n_addneg, n_negl, n_nege, Nat.add_sub_cancel, d_ltT, d_ltF, d_leT, d_leF, d_eqT, d_eqF, ↓reduceIte, Nat.reduceLeDiff, Nat.reduceAdd, Nat.reduceMul, Nat.reduceSub, Nat.reduceLT, Nat.zero_add, Nat.add_zero, not_false_eq_true, h32, k0, k1, k4, k6, k7, k8, k9, r0, r3, r5, r6, r7, r8, q_up_a, x2, x4, x5, x6]
  refine hQ _ (fun a h => by simp (disch := omega) only [q_up_fa]) ?_
  refine ⟨?_, ?_, ?_, ?_, ?_, fun j hj => ?_⟩
  iterate 5 simp (disch := omega) only [q_up_k, q_up_same]
  simp (disch := omega) only [q_up_a]
  exact hsh j hj
theorem s_said {d c L n f i t st b u v part : Nat} {w p : Int32} {mir : Bool} {Q : Option Value → q_H → Prop} {I M : Nat → Nat → Int32} {r : Nat → Nat → Option Nat} {dk : Nat → Nat × Nat} {S : Nat → Int32} (hf : f = 45 ∨ f = 57) (ha : p_fa f L r dk I M i w p mir t st b u v) (hr : p_rw M) (hl : p_lk f I M (p_si M i) S) (hpart : part < 3)
    (hQ : ∀ I', (∀ a, a ≠ f + 9 → a ≠ f + 10 → I' a = I a) → p_lk f I' M (p_si M i) S → Q (some (.int (p_says M i part S))) (p_h L I' r dk n)) :
    q_wp (d + 3) c 8 0 [.ref f, .int (Int32.ofNat part)] [] (p_h L I r dk n) Q := by
  have ha' := ha
  obtain ⟨a1, a2, a3, a4, a5, a6, a7, a8, -, -, -, hlw⟩ := ha
  obtain ⟨k0, k1, k2, k3, k4, k5, k6, k7, k8, k9, k10, k11⟩ := k_fl (L := L) (r := r) (dk := dk) hf
  obtain ⟨r0, r1, r2, r3, r4, r5, r6, r7, r8, r9, r10, r11, r12, r13⟩ := k_fr (r := r) hf
  obtain ⟨rl, hrl, er, hok⟩ := hr
  have hrl' : p_rl M = rl := by unfold p_rl; rw [er, n_cl (by omega)]
  obtain ⟨l0, l1, l2, l3, l5, lsh⟩ := hl
  have h32 : 32 ≤ f := by omega
  have hsh := lsh part hpart
  rw [hrl'] at hlw
  have hb32 : 32 ≤ b := by have := hlw.1.1; omega
  have kb := hlw.2.1
  simp (disch := omega) only [r8_0, r8_1, r8_4, r8_5, r8_6, r8_9, r8_10, r8_11, r8_12, r8_13, r8_16, r8_17, r8_18, r8_21, r8_22, r8_25, va_rf_some, va_rf_none, cat_int, cat_ref, cat_null, cat_jk, q_cs_nil, q_cs_int, q_cs_ref, q_cs_long, q_tl_some, q_tl_none, nz_0, nz_1, nzn_0, nzn_1, nz_b, true_and, and_true, Nat.reduceLeDiff, Nat.reduceAdd, l_0, l_1, l_2, l_3, l_4, l_5, l_6, l_7, l_8, l_9, l_10, l_11, l_12, l_13, l_14, l_15, l_16, l_17, l_18, l_19, l_20, l_24, l_32, l_40, l_41, l_42, l_43, l_45, l_48, l_57, l_59, l_60, l_61, l_63, l_64, l_80, l_96, l_97, l_99, l_100, l_122, l_160, l_200, l_320, l_640, l_999, l_1000, l_1200, l_4000, l_99999, l_100000, l_100001, l_100002, l_100006, l_100010, l_252645135, l_858993459, l_1431655765, n_cl, n_lt, n_le, n_eq, n_in, n_add, n_mul, n_sub, n_div, n_mod, n_addneg, n_negl, n_nege, Nat.add_sub_cancel, d_ltT, d_ltF, d_leT, d_leF, d_eqT, d_eqF, ↓reduceIte, Nat.reduceLeDiff, Nat.reduceAdd, Nat.reduceMul, Nat.reduceSub, Nat.reduceLT, Nat.zero_add, Nat.add_zero, not_false_eq_true, h32, k0, k9, k10, k11, kb, r8, r9, r10, r13, a3, hsh]
  have e4 : ∀ a, a ≠ f + 9 → q_up I (f + 9) 4 (p_share M (p_si M i) part) a = I a := fun a h => q_up_fa h
  have hlw' : p_lw r dk L (q_up I (f + 9) 4 (p_share M (p_si M i) part)) M rl b u v := by
    obtain ⟨⟨d1, d2, d3⟩, d4, d5, d6, d7, d8, d9, d10⟩ := hlw
    refine ⟨⟨d1, d2, d3⟩, d4, d5, d6, d7, d8, ?_, ?_⟩
    · rw [e4 v (by omega)]; exact d9
    · rw [e4 u (by omega)]; exact d10
  refine s_say (nm := p_nm M i part S) hlw' (by omega) (by omega) (by omega) k9 k10 hrl er hok hpart ?_ fun I' hI' => ?_
  · intro j hj
    have : j = 0 ∨ j = 1 ∨ j = 2 ∨ j = 3 ∨ j = 4 ∨ j = 5 := by omega
    rcases this with rfl | rfl | rfl | rfl | rfl | rfl <;> simp [q_up, p_nm, l0, l1, l2, l3, l5]
  · simp only [q_tl_some, r8_28]
    refine hQ I' (fun a h1 h2 => by rw [hI' a h2, e4 a h1]) ?_
    have e9 : ∀ j, j ≠ 4 → I' (f + 9) j = I (f + 9) j := fun j hj => by rw [hI' _ (by omega), q_up_k hj]
    have e11 : I' (f + 11) = I (f + 11) := by rw [hI' _ (by omega), e4 _ (by omega)]
    refine ⟨by rw [e9 _ (by decide)]; exact l0, by rw [e9 _ (by decide)]; exact l1, by rw [e9 _ (by decide)]; exact l2, by rw [e9 _ (by decide)]; exact l3, by rw [e9 _ (by decide)]; exact l5, by rw [e11]; exact lsh⟩
