theorem q_pI_e {st : List Value} {k : Int32 → List Value → Prop} (h : q_pI st k) : ∃ x r, st = .int x :: r ∧ k x r := by
  unfold q_pI at h; split at h
  · exact ⟨_, _, rfl, h⟩
  · exact h.elim
theorem q_pJ_e {st : List Value} {k : Int64 → List Value → Prop} (h : q_pJ st k) : ∃ x r, st = .long x :: r ∧ k x r := by
  unfold q_pJ at h; split at h
  · exact ⟨_, _, rfl, h⟩
  · exact h.elim
theorem q_pR_e {st : List Value} {k : Nat → List Value → Prop} (h : q_pR st k) : ∃ (x : Nat) (r : List Value), st = .ref x :: r ∧ k x r := by
  unfold q_pR at h; split at h
  · exact ⟨_, _, rfl, h⟩
  · exact h.elim
theorem q_pA_e {st : List Value} {k : Value → List Value → Prop} (h : q_pA st k) : (∃ (x : Nat) (r : List Value), st = .ref x :: r ∧ k (.ref x) r) ∨ ∃ r, st = .null :: r ∧ k .null r := by
  unfold q_pA at h; split at h
  · exact Or.inl ⟨_, _, rfl, h⟩
  · exact Or.inr ⟨_, rfl, h⟩
  · exact h.elim
theorem q_p1_e {st : List Value} {k : Value → List Value → Prop} (h : q_p1 st k) : ∃ v r, st = v :: r ∧ v.category = 1 ∧ k v r := by
  unfold q_p1 at h; split at h
  · exact ⟨_, _, rfl, h.1, h.2⟩
  · exact h.elim
theorem q_lI_e {ls : List Value} {i : Nat} {k : Int32 → Prop} (h : q_lI ls i k) : ∃ x, ls[i]? = some (.int x) ∧ k x := by
  unfold q_lI at h; split at h
  · rename_i x e; exact ⟨x, e, h⟩
  · exact h.elim
theorem q_lJ_e {ls : List Value} {i : Nat} {k : Int64 → Prop} (h : q_lJ ls i k) : ∃ x, ls[i]? = some (.long x) ∧ k x := by
  unfold q_lJ at h; split at h
  · rename_i x e; exact ⟨x, e, h⟩
  · exact h.elim
theorem q_lA_e {ls : List Value} {i : Nat} {k : Value → Prop} (h : q_lA ls i k) : (∃ x : Nat, ls[i]? = some (.ref x) ∧ k (.ref x)) ∨ (ls[i]? = some .null ∧ k .null) := by
  unfold q_lA at h; split at h
  · rename_i x e; exact Or.inl ⟨x, e, h⟩
  · rename_i e; exact Or.inr ⟨e, h⟩
  · exact h.elim
theorem q_o_e {α : Type} {o : Option α} {k : α → Prop} (h : q_o o k) : ∃ a, o = some a ∧ k a := by
  unfold q_o at h; split at h
  · exact ⟨_, rfl, h⟩
  · exact h.elim
section QCL
variable {D : va_G} {ca : Nat → ClassId} {B : Nat} {sp : Nat → Nat} {sio : Value} {s : State} {H : Heap} {h : q_H}
theorem q_Hp_lt (hp : q_Hp D ca B sp sio H h) {a : Nat} (ha : 32 ≤ a) (hk : (h.2.2.2.1 a).1 ≠ 300) : a < h.2.2.2.2 := by
  rcases Nat.lt_or_ge a h.2.2.2.2 with q | q
  · exact q
  · exact absurd (hp.2.2.2 a q) hk
theorem q_ArrOf_vm {cA : ClassId} {n : Nat} {f : Nat → Value} : (arrV cA n f).vm ≠ .unknown := fun h => by cases h
/-- a row, old or new -/
theorem q_arr (hp : q_Hp D ca B sp sio H h) (hs : q_Sp B sp sio s H h) (hr : q_Ar ca s) {a k : Nat} (hk : (h.2.2.2.1 a).1 = k) (h1 : 100 ≤ k) (h2 : k < 119) :
    a ≠ 29 ∧ ∃ cell : Cell, H[q_ad B sp a]? = some cell ∧ s.isArrayOf cell (q_aty k) ∧ cell.vm ≠ .unknown ∧ (h.2.2.2.1 a).2 ≤ cell.slots.size ∧ cell.slots.size.toInt32 = Int32.ofNat (h.2.2.2.1 a).2 ∧ ∀ j, j < (h.2.2.2.1 a).2 → cell.slots[j]? = some (q_cv B sp sio h a j) := by
  subst hk
  obtain ⟨-, s2, s3, s4, s5⟩ := hs
  by_cases ha : 32 ≤ a
  · have hn := q_Hp_lt hp ha (by omega)
    obtain ⟨hv, hat⟩ := hp.2.2.1 a ha hn
    unfold q_At at hat
    rw [if_neg (by omega)] at hat
    have hk2 : ((100 ≤ (h.2.2.2.1 a).1 ∧ (h.2.2.2.1 a).1 < 104) ∨ (h.2.2.2.1 a).1 = 111 ∨ (h.2.2.2.1 a).1 = 114 ∨ (h.2.2.2.1 a).1 = 115 ∨ (h.2.2.2.1 a).1 = 116) := by
      unfold q_vk at hv; omega
    refine ⟨by omega, _, hat, (hr _ hk2).1 _ _, q_ArrOf_vm, by rw [arrV_size]; exact Nat.le_refl _, by rw [arrV_size], fun j hj => arrV_read _ _ hj⟩
  · by_cases h3 : a < 3
    · obtain ⟨e1, cell, t1, t2, t3, t4, t5, t6, -⟩ := s2 a h3
      refine ⟨by omega, cell, ?_, ?_, t3, t4, t5, fun j hj => ?_⟩
      · unfold q_ad; rw [if_pos (by omega)]; exact t1
      · rw [e1]; exact t2
      · rw [t6 j hj]; unfold q_cv; rw [e1]; rfl
    · by_cases h4 : a < 16
      · have := (s3 a (by omega) h4).1; omega
      · by_cases h6 : a < 29
        · obtain ⟨e1, cell, t1, t2, t3, t4, t5, t6, -⟩ := s4 a (by omega) h6
          refine ⟨by omega, cell, ?_, ?_, t3, t4, t5, fun j hj => ?_⟩
          · unfold q_ad; rw [if_pos (by omega)]; exact t1
          · rw [e1]; exact t2
          · rw [t6 j hj]; unfold q_cv; rw [e1]; rfl
        · have := s5 a (by omega) (by omega); omega
/-- a new row -/
theorem q_arrN (hp : q_Hp D ca B sp sio H h) {a k : Nat} (ha : 32 ≤ a) (hk : (h.2.2.2.1 a).1 = k) (h1 : 100 ≤ k) (h2 : k < 119) :
    H[q_ad B sp a]? = some (arrV (ca k) (h.2.2.2.1 a).2 (fun j => q_cv B sp sio h a j)) ∧ ((100 ≤ k ∧ k < 104) ∨ k = 111 ∨ k = 114 ∨ k = 115 ∨ k = 116) := by
  subst hk
  have hn := q_Hp_lt hp ha (by omega)
  obtain ⟨hv, hat⟩ := hp.2.2.1 a ha hn
  unfold q_At at hat
  rw [if_neg (by omega)] at hat
  exact ⟨hat, by unfold q_vk at hv; omega⟩
theorem q_in_of {i : Int32} {n m : Nat} (h : vp_in i n) (hm : n ≤ m) : ¬ (i < 0 ∨ m ≤ i.toNatClampNeg) := fun q => h (q.imp id fun z => Nat.le_trans hm z)
theorem q_in_lt {i : Int32} {n : Nat} (h : vp_in i n) : i.toNatClampNeg < n := Nat.not_le.mp fun q => h (Or.inr q)
/-- a row's cell, one place put -/
theorem q_Hp_put (hp : q_Hp D ca B sp sio H h) {a k : Nat} (ha : 32 ≤ a) (hk : (h.2.2.2.1 a).1 = k) (h1 : 100 ≤ k) (h2 : k < 119) {H1 : Heap} {h1' : q_H} (hK : h1'.2.2.2 = h.2.2.2) (hoth : ∀ b, b ≠ a → h1'.1 b = h.1 b ∧ h1'.2.1 b = h.2.1 b ∧ h1'.2.2.1 b = h.2.2.1 b)
    {i : Nat} {v : Value} (hc : ∀ j, q_cv B sp sio h1' a j = updV (fun j => q_cv B sp sio h a j) i v j) (hs : H1.size = H.size) (ho : ∀ q, q ≠ q_ad B sp a → H1[q]? = H[q]?)
    (he : H1[q_ad B sp a]? = some ((arrV (ca k) (h.2.2.2.1 a).2 (fun j => q_cv B sp sio h a j)).setSlot i v)) : q_Hp D ca B sp sio H1 h1' := by
  refine q_Hp_upd hp ha hK hoth hs ho ?_
  have e1 : h1'.2.2.2.1 a = h.2.2.2.1 a := by rw [hK]
  unfold q_At
  rw [e1, if_neg (by omega), he, arrV_store, hk]
  congr 2
  funext j
  exact (hc j).symm
/-- an object -/
theorem q_obj (hp : q_Hp D ca B sp sio H h) {a ci : Nat} (ha : 32 ≤ a) (hk : (h.2.2.2.1 a).1 = ci) (hc : ci < 9) : t_OB (q_ad B sp a) (D.1 ci) (q_NF ci) (D.2 ci) H (fun k => q_rv B sp sio (q_fv ci k h a)) := by
  subst hk
  have hn := q_Hp_lt hp ha (by omega)
  have hat := (hp.2.2.1 a ha hn).2
  unfold q_At at hat
  rw [if_pos hc] at hat
  exact hat
theorem q_Hp_putf (hp : q_Hp D ca B sp sio H h) {a ci k : Nat} (ha : 32 ≤ a) (hk : (h.2.2.2.1 a).1 = ci) (hc : ci < 9) {H1 : Heap} {h1 : q_H} (hK : h1.2.2.2 = h.2.2.2) (hoth : ∀ b, b ≠ a → h1.1 b = h.1 b ∧ h1.2.1 b = h.2.1 b ∧ h1.2.2.1 b = h.2.2.1 b)
    {v : Value} {cell : Cell} (q2 : cell.cls = D.1 ci) (q3 : cell.vm = .none) (q4 : ∀ k, k < q_NF ci → cell.slots[D.2 ci k]? = some (q_rv B sp sio (q_fv ci k h a))) (hap : ∀ a b, a < q_NF ci → b < q_NF ci → a ≠ b → D.2 ci a ≠ D.2 ci b) (hkN : k < q_NF ci)
    (hv : ∀ j, j < q_NF ci → q_rv B sp sio (q_fv ci j h1 a) = updV (fun k => q_rv B sp sio (q_fv ci k h a)) k v j) (hs : H1.size = H.size) (ho : ∀ q, q ≠ q_ad B sp a → H1[q]? = H[q]?)
    (he : H1[q_ad B sp a]? = some (cell.setSlot (D.2 ci k) v)) : q_Hp D ca B sp sio H1 h1 := by
  refine q_Hp_upd hp ha hK hoth hs ho ?_
  have e1 : h1.2.2.2.1 a = h.2.2.2.1 a := by rw [hK]
  unfold q_At
  rw [e1, hk, if_pos hc]
  exact (t_OB.to (V := updV (fun k => q_rv B sp sio (q_fv ci k h a)) k v) ⟨_, he, q2, q3, t_set q4 hap hkN v⟩ (fun j hj => (hv j hj).symm))
end QCL
