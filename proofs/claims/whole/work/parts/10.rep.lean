/-! what a heap of the abstract machine is in the machine -/
section QR
variable (D : va_G) (ca : Nat → ClassId) (B : Nat) (sp : Nat → Nat) (sio : Value)
def q_ad (a : Nat) : Nat := if a < 32 then sp a else B + (a - 32)
def q_rv (v : Value) : Value := match v with
  | .ref a => if a = 29 then sio else .ref (q_ad B sp a)
  | .int x => .int x
  | .long x => .long x
  | .null => .null
  | .float x => .float x
  | .double x => .double x
  | .retAddr x => .retAddr x
def q_cv (h : q_H) (a j : Nat) : Value := if (h.2.2.2.1 a).1 < 102 then .int (h.1 a j) else if (h.2.2.2.1 a).1 = 102 then .long (h.2.1 a j) else q_rv B sp sio (va_rf (h.2.2.1 a j))
def q_At (H : Heap) (h : q_H) (a : Nat) : Prop :=
  if (h.2.2.2.1 a).1 < 9 then t_OB (q_ad B sp a) (D.1 (h.2.2.2.1 a).1) (q_NF (h.2.2.2.1 a).1) (D.2 (h.2.2.2.1 a).1) H (fun k => q_rv B sp sio (q_fv (h.2.2.2.1 a).1 k h a))
  else H[q_ad B sp a]? = some (arrV (ca (h.2.2.2.1 a).1) (h.2.2.2.1 a).2 (fun j => q_cv B sp sio h a j))
def q_vk (k : Nat) : Prop := k < 9 ∨ (100 ≤ k ∧ k < 104) ∨ k = 111 ∨ k = 114 ∨ k = 115 ∨ k = 116
def q_aty (k : Nat) : FieldType := if k = 100 then .int else if k = 101 then .byte else if k = 102 then .long else if k = 103 then .array .int else .object (q_cn (k - 110))
/-- the array classes -/
def q_Ar (U : State) : Prop := ∀ k, ((100 ≤ k ∧ k < 104) ∨ k = 111 ∨ k = 114 ∨ k = 115 ∨ k = 116) → ArrOfT U (ca k) (q_aty k) ∧ va_RA U (ca k) (q_aty k)
def q_Hp (H : Heap) (h : q_H) : Prop := H.size + 32 = B + h.2.2.2.2 ∧ 32 ≤ h.2.2.2.2 ∧ (∀ a, 32 ≤ a → a < h.2.2.2.2 → q_vk (h.2.2.2.1 a).1 ∧ q_At D ca B sp sio H h a) ∧ ∀ a, h.2.2.2.2 ≤ a → (h.2.2.2.1 a).1 = 300
end QR
section QR2
variable {D : va_G} {ca : Nat → ClassId} {B : Nat} {sp : Nat → Nat} {sio : Value}
theorem q_ad_ge {a : Nat} (h : 32 ≤ a) : q_ad B sp a = B + (a - 32) := if_neg (by omega)
theorem q_ad_ne {a b : Nat} (ha : 32 ≤ a) (hb : 32 ≤ b) (h : b ≠ a) : q_ad B sp b ≠ q_ad B sp a := by
  rw [q_ad_ge ha, q_ad_ge hb]; omega
theorem q_ad_lt {H : Heap} {h : q_H} (hp : q_Hp D ca B sp sio H h) {a : Nat} (ha : 32 ≤ a) (hn : a < h.2.2.2.2) : q_ad B sp a < H.size := by
  rw [q_ad_ge ha]; have := hp.1; omega
/-- what a cell is depends on its own contents alone -/
theorem q_At_congr {H H1 : Heap} {h h1 : q_H} {b : Nat} (hK : h1.2.2.2.1 b = h.2.2.2.1 b) (hI : h1.1 b = h.1 b) (hJ : h1.2.1 b = h.2.1 b) (hR : h1.2.2.1 b = h.2.2.1 b) (ho : H1[q_ad B sp b]? = H[q_ad B sp b]?) (h0 : q_At D ca B sp sio H h b) : q_At D ca B sp sio H1 h1 b := by
  unfold q_At at h0 ⊢
  have ef : ∀ ci k, q_fv ci k h1 b = q_fv ci k h b := fun ci k => by unfold q_fv; rw [hI, hR]
  have ec : ∀ j, q_cv B sp sio h1 b j = q_cv B sp sio h b j := fun j => by unfold q_cv; rw [hK, hI, hJ, hR]
  rw [hK]
  split
  · rename_i hk
    rw [if_pos hk] at h0
    simp only [ef]
    exact h0.kept ho
  · rename_i hk
    rw [if_neg hk] at h0
    simp only [ec]
    rw [ho]; exact h0
theorem q_Hp_upd {H H1 : Heap} {h h1 : q_H} {a : Nat} (hp : q_Hp D ca B sp sio H h) (ha : 32 ≤ a) (hK : h1.2.2.2 = h.2.2.2) (hoth : ∀ b, b ≠ a → h1.1 b = h.1 b ∧ h1.2.1 b = h.2.1 b ∧ h1.2.2.1 b = h.2.2.1 b)
    (hs : H1.size = H.size) (ho : ∀ q, q ≠ q_ad B sp a → H1[q]? = H[q]?) (hat : q_At D ca B sp sio H1 h1 a) : q_Hp D ca B sp sio H1 h1 := by
  obtain ⟨p1, p2, p3, p4⟩ := hp
  have hK1 : h1.2.2.2.1 = h.2.2.2.1 := by rw [hK]
  have hn1 : h1.2.2.2.2 = h.2.2.2.2 := by rw [hK]
  refine ⟨by rw [hn1, hs]; exact p1, by rw [hn1]; exact p2, fun b hb hbn => ?_, fun b hb => by rw [hK1]; exact p4 b (by rw [← hn1]; exact hb)⟩
  rw [hn1] at hbn
  refine ⟨by rw [hK1]; exact (p3 b hb hbn).1, ?_⟩
  by_cases e : b = a
  · subst e; exact hat
  · obtain ⟨h2, h3, h4⟩ := hoth b e
    exact q_At_congr (by rw [hK1]) h2 h3 h4 (ho _ (q_ad_ne ha hb e)) (p3 b hb hbn).2
theorem q_Hp_new {H H1 : Heap} {h h1 : q_H} (m : Nat) (hp : q_Hp D ca B sp sio H h) (hn : h1.2.2.2.2 = h.2.2.2.2 + m) (hoth : ∀ b, b < h.2.2.2.2 → h1.1 b = h.1 b ∧ h1.2.1 b = h.2.1 b ∧ h1.2.2.1 b = h.2.2.1 b ∧ h1.2.2.2.1 b = h.2.2.2.1 b)
    (hout : ∀ b, h.2.2.2.2 + m ≤ b → h1.2.2.2.1 b = h.2.2.2.1 b) (hs : H1.size = H.size + m) (ho : ∀ q, q < H.size → H1[q]? = H[q]?) (hat : ∀ b, h.2.2.2.2 ≤ b → b < h.2.2.2.2 + m → q_vk (h1.2.2.2.1 b).1 ∧ q_At D ca B sp sio H1 h1 b) : q_Hp D ca B sp sio H1 h1 := by
  have hp0 := hp
  obtain ⟨p1, p2, p3, p4⟩ := hp
  refine ⟨by rw [hn, hs]; omega, by rw [hn]; omega, fun b hb hbn => ?_, fun b hb => ?_⟩
  · rw [hn] at hbn
    by_cases e : b < h.2.2.2.2
    · obtain ⟨h2, h3, h4, h5⟩ := hoth b e
      refine ⟨by rw [h5]; exact (p3 b hb e).1, ?_⟩
      exact q_At_congr h5 h2 h3 h4 (ho _ (q_ad_lt hp0 hb e)) (p3 b hb e).2
    · exact hat b (by omega) hbn
  · rw [hn] at hb
    rw [hout b hb]
    exact p4 b (by omega)
theorem q_rv_cat (hs : sio = .null ∨ ∃ t, sio = .ref t) (v : Value) : (q_rv B sp sio v).category = v.category := by
  cases v <;> try rfl
  rename_i a
  show (if a = 29 then sio else .ref (q_ad B sp a)).category = 1
  split
  · rcases hs with rfl | ⟨t, rfl⟩ <;> rfl
  · rfl
theorem q_cs_map (hs : sio = .null ∨ ∃ t, sio = .ref t) (l : List Value) : ((l.map (q_rv B sp sio)).map fun v => v.category).sum = q_cs l := by
  unfold q_cs
  rw [List.map_map]
  congr 1
  exact List.map_congr_left fun v _ => q_rv_cat hs v
theorem q_rv_ref {a : Nat} (h : a ≠ 29) : q_rv B sp sio (.ref a) = .ref (q_ad B sp a) := if_neg h
/-- the locals -/
def q_LR (B : Nat) (sp : Nat → Nat) (sio : Value) (LS : Array Slot) (ls : List Value) : Prop := LS.size = ls.length ∧ lv_wf LS ∧ ∀ (k : Nat) (v : Value), ls[k]? = some v → v ≠ q_jk → LS[k]? = some (.val (q_rv B sp sio v))
def q_lvl (B : Nat) (sp : Nat → Nat) (sio : Value) (ls : List Value) : List (Nat × Value) := (List.range ls.length).filterMap fun k => (ls[k]?).bind fun v => if v = q_jk then none else some (k, q_rv B sp sio v)
theorem q_lvl_mem {ls : List Value} {q : Nat × Value} : q ∈ q_lvl B sp sio ls ↔ ∃ v, ls[q.1]? = some v ∧ v ≠ q_jk ∧ q.2 = q_rv B sp sio v := by
  unfold q_lvl
  rw [List.mem_filterMap]
  constructor
  · rintro ⟨k, -, hk⟩
    cases hv : ls[k]? with
    | none => rw [hv] at hk; cases hk
    | some v =>
      rw [hv] at hk
      simp only [Option.bind_some] at hk
      split at hk
      · cases hk
      · rename_i hne
        cases hk
        exact ⟨v, hv, hne, rfl⟩
  · rintro ⟨v, h1, h2, h3⟩
    have hl : q.1 < ls.length := (List.getElem?_eq_some_iff.mp h1).1
    refine ⟨q.1, List.mem_range.mpr hl, ?_⟩
    rw [h1]
    simp only [Option.bind_some, if_neg h2]
    rw [← h3]
theorem q_LR_has {LS : Array Slot} {ls : List Value} (h : q_LR B sp sio LS ls) : lv_has LS ls.length (q_lvl B sp sio ls) := by
  refine ⟨h.1, h.2.1, fun q hq => ?_⟩
  obtain ⟨v, h1, h2, h3⟩ := q_lvl_mem.mp hq
  rw [h.2.2 _ _ h1 h2, h3]
theorem q_LR_of {LS : Array Slot} {ls : List Value} {l : List (Nat × Value)} (h : lv_has LS ls.length l) (hl : ∀ (k : Nat) (v : Value), ls[k]? = some v → v ≠ q_jk → (k, q_rv B sp sio v) ∈ l) : q_LR B sp sio LS ls :=
  ⟨h.1, h.2.1, fun k v h1 h2 => h.2.2 _ (hl k v h1 h2)⟩
/-- a store of one word -/
theorem q_LR_st1 (hs : sio = .null ∨ ∃ t, sio = .ref t) {LS : Array Slot} {ls : List Value} {i : Nat} {v : Value} (hnl : q_nl ls i)
    (h : lv_has LS ls.length ((i, q_rv B sp sio v) :: (q_lvl B sp sio ls).filter (fun q => !(q.1 == i) && !(q.1 + 1 == i && q.2.category == 2)))) : q_LR B sp sio LS (ls.set i v) := by
  refine q_LR_of (l := (i, q_rv B sp sio v) :: (q_lvl B sp sio ls).filter (fun q => !(q.1 == i) && !(q.1 + 1 == i && q.2.category == 2))) (by rw [List.length_set]; exact h) fun k w hk hw => ?_
  rw [List.getElem?_set] at hk
  split at hk
  · rename_i e
    subst e
    split at hk
    · cases hk; exact List.mem_cons_self
    · cases hk
  · rename_i e
    refine List.mem_cons_of_mem _ (List.mem_filter.mpr ⟨q_lvl_mem.mpr ⟨w, hk, hw, rfl⟩, ?_⟩)
    simp only [Bool.and_eq_true, Bool.not_eq_true', beq_eq_false_iff_ne, ne_eq, Bool.and_eq_false_iff]
    refine ⟨fun z => e z.symm, ?_⟩
    by_cases e2 : k + 1 = i
    · right
      subst e2
      simp only [q_nl, hk] at hnl
      rw [q_rv_cat hs]
      omega
    · exact Or.inl e2
theorem q_LR_st2 (hs : sio = .null ∨ ∃ t, sio = .ref t) {LS : Array Slot} {ls : List Value} {i : Nat} {v : Value} (hnl : q_nl ls i)
    (h : lv_has LS ls.length ((i, q_rv B sp sio v) :: (q_lvl B sp sio ls).filter (fun q => !(q.1 == i) && (!(q.1 == i + 1) && !(q.1 + 1 == i && q.2.category == 2))))) : q_LR B sp sio LS ((ls.set i v).set (i + 1) q_jk) := by
  refine q_LR_of (l := (i, q_rv B sp sio v) :: (q_lvl B sp sio ls).filter (fun q => !(q.1 == i) && (!(q.1 == i + 1) && !(q.1 + 1 == i && q.2.category == 2)))) (by rw [List.length_set, List.length_set]; exact h) fun k w hk hw => ?_
  rw [List.getElem?_set] at hk
  split at hk
  · split at hk
    · cases hk; exact absurd rfl hw
    · cases hk
  · rename_i e0
    rw [List.getElem?_set] at hk
    split at hk
    · rename_i e
      subst e
      split at hk
      · cases hk; exact List.mem_cons_self
      · cases hk
    · rename_i e
      refine List.mem_cons_of_mem _ (List.mem_filter.mpr ⟨q_lvl_mem.mpr ⟨w, hk, hw, rfl⟩, ?_⟩)
      simp only [Bool.and_eq_true, Bool.not_eq_true', beq_eq_false_iff_ne, ne_eq, Bool.and_eq_false_iff]
      refine ⟨fun z => e z.symm, fun z => e0 z.symm, ?_⟩
      by_cases e2 : k + 1 = i
      · right
        subst e2
        simp only [q_nl, hk] at hnl
        rw [q_rv_cat hs]
        omega
      · exact Or.inl e2
theorem q_ent_len : ∀ (as : List Value) (m : Nat), q_cs as ≤ m → (q_ent m as).length = m := by
  intro as
  induction as with
  | nil => intro m _; simp [q_ent]
  | cons v vs ih =>
    intro m h
    have hc : q_cs (v :: vs) = v.category + q_cs vs := by simp [q_cs]
    rw [hc] at h
    unfold q_ent
    rcases lv_cat v with c1 | c1
    · rw [if_neg (by omega)]
      simp only [List.length_cons]
      rw [ih (m - 1) (by omega)]; omega
    · rw [if_pos c1]
      simp only [List.length_cons]
      rw [ih (m - 2) (by omega)]; omega
end QR2
section QR3
variable {B : Nat} {sp : Nat → Nat} {sio : Value}
theorem q_ent_args (hs : sio = .null ∨ ∃ t, sio = .ref t) : ∀ (as : List Value) (i m k : Nat) (v : Value), (q_ent m as)[k]? = some v → v ≠ q_jk → (i + k, q_rv B sp sio v) ∈ lv_args i (as.map (q_rv B sp sio)) := by
  intro as
  induction as with
  | nil =>
    intro i m k v h hv
    simp only [q_ent] at h
    rw [List.getElem?_replicate] at h
    split at h
    · cases h; exact absurd rfl hv
    · cases h
  | cons w vs ih =>
    intro i m k v h hv
    unfold q_ent at h
    simp only [List.map_cons, lv_args, q_rv_cat hs]
    rcases lv_cat w with c1 | c1
    · rw [if_neg (by omega)] at h
      rw [if_neg (by omega)]
      cases k with
      | zero => cases h; exact List.mem_cons_self
      | succ k =>
        have := ih (i + 1) (m - 1) k v h hv
        rw [show i + (k + 1) = i + 1 + k by omega]
        exact List.mem_cons_of_mem _ this
    · rw [if_pos c1] at h
      rw [if_pos c1]
      cases k with
      | zero => cases h; exact List.mem_cons_self
      | succ k =>
        cases k with
        | zero => cases h; exact absurd rfl hv
        | succ k =>
          have := ih (i + 2) (m - 2) k v h hv
          rw [show i + (k + 1 + 1) = i + 2 + k by omega]
          exact List.mem_cons_of_mem _ this
theorem q_LR_ent (hs : sio = .null ∨ ∃ t, sio = .ref t) {as : List Value} {n : Nat} (h : q_cs as ≤ n) : q_LR B sp sio ((lg_sl (as.map (q_rv B sp sio)) ++ List.replicate (n - (lg_sl (as.map (q_rv B sp sio))).length) Slot.unset).toArray) (q_ent n as) := by
  have hlen : (lg_sl (as.map (q_rv B sp sio))).length = q_cs as := by
    rw [← q_cs_map (B := B) (sp := sp) hs as]
    generalize as.map (q_rv B sp sio) = l
    clear h
    induction l with
    | nil => rfl
    | cons v vs ih =>
      have e : lg_sl (v :: vs) = (if v.category = 2 then [.val v, .second] else [.val v]) ++ lg_sl vs := by simp [lg_sl]
      rw [e, List.length_append, ih]
      rcases lv_cat v with c1 | c1 <;> simp [c1]
  have hl := lv_entry (as.map (q_rv B sp sio)) (n := n) (by rw [hlen]; exact h)
  refine q_LR_of (l := lv_args 0 (as.map (q_rv B sp sio))) (by rw [q_ent_len as n h]; exact hl) fun k v h1 h2 => ?_
  have := q_ent_args (B := B) (sp := sp) hs as 0 n k v h1 h2
  rwa [Nat.zero_add] at this
end QR3
