theorem q_lrem (x y : Int64) : x - x / y * y = x % y := by
  apply Int64.toInt_inj.mp
  have h1 := Int64.le_toInt (x % y)
  have h2 := Int64.toInt_lt (x % y)
  rw [Int64.toInt_sub, Int64.toInt_mul, Int64.toInt_div, Int.bmod_mul_bmod, Int.sub_bmod_bmod, Int.mul_comm (x.toInt.tdiv y.toInt), ← Int.tmod_def, ← Int64.toInt_mod]
  exact Int.bmod_eq_of_le_mul_two (by omega) (by omega)
section QLI
variable {B : Nat} {sp : Nat → Nat} {sio : Value}
/-- a number counted on: its neighbours stay -/
theorem q_LR_iinc {LS LS' : Array Slot} {ls : List Value} {i : Nat} {x y : Int32} (h : q_LR B sp sio LS ls) (hk : ls[i]? = some (.int x))
    (h' : lv_has LS' ls.length ((i, .int y) :: (q_lvl B sp sio ls).filter (fun q => !(q.1 == i) && !(q.1 + 1 == i && q.2.category == 2)))) : q_LR B sp sio LS' (ls.set i (.int y)) := by
  refine q_LR_of (l := (i, .int y) :: (q_lvl B sp sio ls).filter (fun q => !(q.1 == i) && !(q.1 + 1 == i && q.2.category == 2))) (by rw [List.length_set]; exact h') fun k w hk2 hw => ?_
  rw [List.getElem?_set] at hk2
  split at hk2
  · rename_i e
    subst e
    split at hk2
    · cases hk2; exact List.mem_cons_self
    · cases hk2
  · rename_i e
    refine List.mem_cons_of_mem _ (List.mem_filter.mpr ⟨q_lvl_mem.mpr ⟨w, hk2, hw, rfl⟩, ?_⟩)
    simp only [Bool.and_eq_true, Bool.not_eq_true', beq_eq_false_iff_ne, ne_eq, Bool.and_eq_false_iff]
    refine ⟨fun z => e z.symm, ?_⟩
    by_cases e2 : k + 1 = i
    · right
      intro hc
      have h1 := h.2.2 _ _ hk2 hw
      have h2 := h.2.1.1 _ _ h1 hc
      have h3 := h.2.2 _ _ hk (by intro z; cases z)
      rw [e2, h3] at h2
      cases h2
    · exact Or.inl e2
end QLI
/-! the machine does as the abstract one -/
section QS
variable {p : Program} {l : Launch} {e : Env} {R : Room} {s : State} {m : MethodId} {args : Array Value} {below : List Frame} {meth : Method} {cd : Code}
variable (D : va_G) (ca : Nat → ClassId) (B : Nat) (sp : Nat → Nat) (sio : Value)
/-- a method's call as a contract, d deep -/
def q_IH (l : Launch) (d : Nat) : Prop := ∀ (M c : Nat) (as : List Value) (h : q_H) (Q : Option Value → q_H → Prop), q_mok M → q_cs as ≤ q_ml M → q_wp d c M 0 (q_ent (q_ml M) as) [] h Q →
  Met l (q_y M) (q_W M) (q_rm d c) (q_Pc D ca B sp sio as h) (q_Qc D ca B sp sio h Q) c (1200 * c) (q_A B)
/-- where a method's walk stands -/
def q_Cx (p : Program) (R : Room) (s : State) (m : MethodId) (args : Array Value) (meth : Method) (cd : Code) (M d c0 : Nat) (h0 : q_H) : Prop :=
  p.tables.exec = Jvm.exec ∧ cd.code = q_b M ∧ cd.maxLocals = q_ml M ∧ s.vm.findClass (q_cn (M / 1000)) = some m.cls ∧ (∀ w ∈ q_gd, w.before args s = true) ∧ q_Tb D ca sp s ∧ q_Sp B sp sio s s.heap h0 ∧ B ≤ s.heap.size ∧ (sio = .null ∨ ∃ t, sio = .ref t) ∧ ((q_y M).name = "<init>" → meth.name = "<init>") ∧
  d + 1 ≤ R.frames ∧ 60 * (d + 1) ≤ R.locals ∧ c0 ≤ R.cells ∧ 1200 * c0 ≤ R.slots
def q_X (p : Program) (l : Launch) (e : Env) (R : Room) (s : State) (m : MethodId) (args : Array Value) (below : List Frame) (meth : Method) (cd : Code) (c0 : Nat) (h0 : q_H) (Qf : State → Prop) (c pc : Nat) (ls st : List Value) (h : q_H) : Prop :=
  c ≤ c0 → ∀ (LS : Array Slot) (H : Heap) (locs : List Loc), q_LR B sp sio LS ls → ls.length = cd.maxLocals → q_Hp D ca B sp sio H h → q_ag h0 h → va_S (q_A B) s.heap H locs →
    W p l e R s m args below meth cd H locs (c0 - c) (1200 * (c0 - c)) Qf (F0 m pc LS (st.map (q_rv B sp sio)))
/-- the ends of a method -/
def q_Rt (p : Program) (l : Launch) (e : Env) (R : Room) (s : State) (m : MethodId) (args : Array Value) (below : List Frame) (meth : Method) (cd : Code) (M c0 : Nat) (h0 : q_H) (Q : Option Value → q_H → Prop) (Qf : State → Prop) : Prop :=
  ∀ (c pc : Nat) (LS : Array Slot) (H : Heap) (locs : List Loc) (h : q_H), c ≤ c0 → q_Hp D ca B sp sio H h → q_ag h0 h → va_S (q_A B) s.heap H locs →
    (∀ (v : Int32) (ty : FieldType), decode (q_b M) pc = .ok (.ireturn, 1) → q_rt M = some ty → narrow ty (.int v) = .int v → Q (some (.int v)) h → W p l e R s m args below meth cd H locs (c0 - c) (1200 * (c0 - c)) Qf (F0 m pc LS [.int v])) ∧
    (∀ v : Int64, decode (q_b M) pc = .ok (.lreturn, 1) → q_rt M = some .long → Q (some (.long v)) h → W p l e R s m args below meth cd H locs (c0 - c) (1200 * (c0 - c)) Qf (F0 m pc LS [.long v])) ∧
    (∀ (v : Value) (ty : FieldType), decode (q_b M) pc = .ok (.areturn, 1) → q_rt M = some ty → ty.isReference = true → (v = .null ∨ ∃ a, v = .ref a ∧ 32 ≤ a) → Q (some v) h → W p l e R s m args below meth cd H locs (c0 - c) (1200 * (c0 - c)) Qf (F0 m pc LS [q_rv B sp sio v])) ∧
    (decode (q_b M) pc = .ok (.return_, 1) → q_rt M = none → Q none h → W p l e R s m args below meth cd H locs (c0 - c) (1200 * (c0 - c)) Qf (F0 m pc LS []))
variable {D ca B sp sio}
variable {M d c0 : Nat} {h0 : q_H} {Q : Option Value → q_H → Prop} {Qf : State → Prop}
theorem q_s_iconst (C : q_Cx D ca B sp sio p R s m args meth cd M d c0 h0) {c pc n : Nat} {ls st : List Value} {h : q_H} {v : Int} (hdg : decode (q_b M) pc = .ok (.iconst v, n))
    (hh : q_ins (q_cll d) M (q_X D ca B sp sio p l e R s m args below meth cd c0 h0 Qf) Q c pc (.iconst v) n ls st h) : q_X D ca B sp sio p l e R s m args below meth cd c0 h0 Qf c pc ls st h := by
  intro hc LS H locs hL hlen hP hag hS
  obtain ⟨hx, hb, hml, hown, hts, hTb, hSp0, hBs, hsio, hnm, hfr, hlo, hce, hsl⟩ := C
  obtain ⟨rfl, hX⟩ := hh
  exact lv_iconst hx hb hdg rfl (hX hc LS H locs hL hlen hP hag hS)
theorem q_s_lconst (C : q_Cx D ca B sp sio p R s m args meth cd M d c0 h0) {c pc n : Nat} {ls st : List Value} {h : q_H} {v : Fin 2} (hdg : decode (q_b M) pc = .ok (.lconst v, n))
    (hh : q_ins (q_cll d) M (q_X D ca B sp sio p l e R s m args below meth cd c0 h0 Qf) Q c pc (.lconst v) n ls st h) : q_X D ca B sp sio p l e R s m args below meth cd c0 h0 Qf c pc ls st h := by
  intro hc LS H locs hL hlen hP hag hS
  obtain ⟨hx, hb, hml, hown, hts, hTb, hSp0, hBs, hsio, hnm, hfr, hlo, hce, hsl⟩ := C
  obtain ⟨rfl, hX⟩ := hh
  exact lv_lconst hx hb hdg rfl (hX hc LS H locs hL hlen hP hag hS)
theorem q_s_bipush (C : q_Cx D ca B sp sio p R s m args meth cd M d c0 h0) {c pc n : Nat} {ls st : List Value} {h : q_H} {v : Int} (hdg : decode (q_b M) pc = .ok (.bipush v, n))
    (hh : q_ins (q_cll d) M (q_X D ca B sp sio p l e R s m args below meth cd c0 h0 Qf) Q c pc (.bipush v) n ls st h) : q_X D ca B sp sio p l e R s m args below meth cd c0 h0 Qf c pc ls st h := by
  intro hc LS H locs hL hlen hP hag hS
  obtain ⟨hx, hb, hml, hown, hts, hTb, hSp0, hBs, hsio, hnm, hfr, hlo, hce, hsl⟩ := C
  obtain ⟨rfl, hX⟩ := hh
  exact lv_bipush hx hb hdg rfl (hX hc LS H locs hL hlen hP hag hS)
theorem q_s_sipush (C : q_Cx D ca B sp sio p R s m args meth cd M d c0 h0) {c pc n : Nat} {ls st : List Value} {h : q_H} {v : Int} (hdg : decode (q_b M) pc = .ok (.sipush v, n))
    (hh : q_ins (q_cll d) M (q_X D ca B sp sio p l e R s m args below meth cd c0 h0 Qf) Q c pc (.sipush v) n ls st h) : q_X D ca B sp sio p l e R s m args below meth cd c0 h0 Qf c pc ls st h := by
  intro hc LS H locs hL hlen hP hag hS
  obtain ⟨hx, hb, hml, hown, hts, hTb, hSp0, hBs, hsio, hnm, hfr, hlo, hce, hsl⟩ := C
  obtain ⟨rfl, hX⟩ := hh
  exact lv_sipush hx hb hdg rfl (hX hc LS H locs hL hlen hP hag hS)
theorem q_s_aconst_null (C : q_Cx D ca B sp sio p R s m args meth cd M d c0 h0) {c pc n : Nat} {ls st : List Value} {h : q_H} (hdg : decode (q_b M) pc = .ok (.aconst_null, n))
    (hh : q_ins (q_cll d) M (q_X D ca B sp sio p l e R s m args below meth cd c0 h0 Qf) Q c pc (.aconst_null) n ls st h) : q_X D ca B sp sio p l e R s m args below meth cd c0 h0 Qf c pc ls st h := by
  intro hc LS H locs hL hlen hP hag hS
  obtain ⟨hx, hb, hml, hown, hts, hTb, hSp0, hBs, hsio, hnm, hfr, hlo, hce, hsl⟩ := C
  obtain ⟨rfl, hX⟩ := hh
  exact lv_null hx hb hdg (hX hc LS H locs hL hlen hP hag hS)
theorem q_s_iload (C : q_Cx D ca B sp sio p R s m args meth cd M d c0 h0) {c pc n : Nat} {ls st : List Value} {h : q_H} {k : Nat} (hdg : decode (q_b M) pc = .ok (.iload k, n))
    (hh : q_ins (q_cll d) M (q_X D ca B sp sio p l e R s m args below meth cd c0 h0 Qf) Q c pc (.iload k) n ls st h) : q_X D ca B sp sio p l e R s m args below meth cd c0 h0 Qf c pc ls st h := by
  intro hc LS H locs hL hlen hP hag hS
  obtain ⟨hx, hb, hml, hown, hts, hTb, hSp0, hBs, hsio, hnm, hfr, hlo, hce, hsl⟩ := C
  obtain ⟨rfl, hh⟩ := hh
  obtain ⟨x, hk, hX⟩ := q_lI_e hh
  exact lv_iload hx hb hdg (hL.2.2 _ _ hk (by intro z; cases z)) (hX hc LS H locs hL hlen hP hag hS)
theorem q_s_iload_n (C : q_Cx D ca B sp sio p R s m args meth cd M d c0 h0) {c pc n : Nat} {ls st : List Value} {h : q_H} {k : Fin 4} (hdg : decode (q_b M) pc = .ok (.iload_n k, n))
    (hh : q_ins (q_cll d) M (q_X D ca B sp sio p l e R s m args below meth cd c0 h0 Qf) Q c pc (.iload_n k) n ls st h) : q_X D ca B sp sio p l e R s m args below meth cd c0 h0 Qf c pc ls st h := by
  intro hc LS H locs hL hlen hP hag hS
  obtain ⟨hx, hb, hml, hown, hts, hTb, hSp0, hBs, hsio, hnm, hfr, hlo, hce, hsl⟩ := C
  obtain ⟨rfl, hh⟩ := hh
  obtain ⟨x, hk, hX⟩ := q_lI_e hh
  exact lv_iload_n hx hb hdg rfl (hL.2.2 _ _ hk (by intro z; cases z)) (hX hc LS H locs hL hlen hP hag hS)
theorem q_s_lload (C : q_Cx D ca B sp sio p R s m args meth cd M d c0 h0) {c pc n : Nat} {ls st : List Value} {h : q_H} {k : Nat} (hdg : decode (q_b M) pc = .ok (.lload k, n))
    (hh : q_ins (q_cll d) M (q_X D ca B sp sio p l e R s m args below meth cd c0 h0 Qf) Q c pc (.lload k) n ls st h) : q_X D ca B sp sio p l e R s m args below meth cd c0 h0 Qf c pc ls st h := by
  intro hc LS H locs hL hlen hP hag hS
  obtain ⟨hx, hb, hml, hown, hts, hTb, hSp0, hBs, hsio, hnm, hfr, hlo, hce, hsl⟩ := C
  obtain ⟨rfl, hh⟩ := hh
  obtain ⟨x, hk, hX⟩ := q_lJ_e hh
  exact lv_lload hx hb hdg (hL.2.2 _ _ hk (by intro z; cases z)) (hX hc LS H locs hL hlen hP hag hS)
theorem q_s_lload_n (C : q_Cx D ca B sp sio p R s m args meth cd M d c0 h0) {c pc n : Nat} {ls st : List Value} {h : q_H} {k : Fin 4} (hdg : decode (q_b M) pc = .ok (.lload_n k, n))
    (hh : q_ins (q_cll d) M (q_X D ca B sp sio p l e R s m args below meth cd c0 h0 Qf) Q c pc (.lload_n k) n ls st h) : q_X D ca B sp sio p l e R s m args below meth cd c0 h0 Qf c pc ls st h := by
  intro hc LS H locs hL hlen hP hag hS
  obtain ⟨hx, hb, hml, hown, hts, hTb, hSp0, hBs, hsio, hnm, hfr, hlo, hce, hsl⟩ := C
  obtain ⟨rfl, hh⟩ := hh
  obtain ⟨x, hk, hX⟩ := q_lJ_e hh
  exact lv_lload_n hx hb hdg rfl (hL.2.2 _ _ hk (by intro z; cases z)) (hX hc LS H locs hL hlen hP hag hS)
theorem q_s_aload (C : q_Cx D ca B sp sio p R s m args meth cd M d c0 h0) {c pc n : Nat} {ls st : List Value} {h : q_H} {k : Nat} (hdg : decode (q_b M) pc = .ok (.aload k, n))
    (hh : q_ins (q_cll d) M (q_X D ca B sp sio p l e R s m args below meth cd c0 h0 Qf) Q c pc (.aload k) n ls st h) : q_X D ca B sp sio p l e R s m args below meth cd c0 h0 Qf c pc ls st h := by
  intro hc LS H locs hL hlen hP hag hS
  obtain ⟨hx, hb, hml, hown, hts, hTb, hSp0, hBs, hsio, hnm, hfr, hlo, hce, hsl⟩ := C
  obtain ⟨rfl, hh⟩ := hh
  rcases q_lA_e hh with ⟨x, hk, hX⟩ | ⟨hk, hX⟩
  · have hv := hL.2.2 _ _ hk (by intro z; cases z)
    have hX := hX hc LS H locs hL hlen hP hag hS
    generalize hr : q_rv B sp sio (.ref x) = r at hv
    have hX : W p l e R s m args below meth cd H locs (c0 - c) (1200 * (c0 - c)) Qf (F0 m (pc + 2) LS (q_rv B sp sio (.ref x) :: st.map (q_rv B sp sio))) := hX
    rw [hr] at hX
    have hcase : r = .null ∨ ∃ t, r = .ref t := by
      rw [← hr]
      show (if x = 29 then sio else .ref (q_ad B sp x)) = .null ∨ ∃ t, (if x = 29 then sio else .ref (q_ad B sp x)) = .ref t
      split
      · exact hsio
      · exact Or.inr ⟨_, rfl⟩
    rcases hcase with rfl | ⟨t, rfl⟩
    · exact lv_aloadN hx hb hdg hv hX
    · exact lv_aload hx hb hdg hv hX
  · exact lv_aloadN hx hb hdg (hL.2.2 _ _ hk (by intro z; cases z)) (hX hc LS H locs hL hlen hP hag hS)
theorem q_s_aload_n (C : q_Cx D ca B sp sio p R s m args meth cd M d c0 h0) {c pc n : Nat} {ls st : List Value} {h : q_H} {k : Fin 4} (hdg : decode (q_b M) pc = .ok (.aload_n k, n))
    (hh : q_ins (q_cll d) M (q_X D ca B sp sio p l e R s m args below meth cd c0 h0 Qf) Q c pc (.aload_n k) n ls st h) : q_X D ca B sp sio p l e R s m args below meth cd c0 h0 Qf c pc ls st h := by
  intro hc LS H locs hL hlen hP hag hS
  obtain ⟨hx, hb, hml, hown, hts, hTb, hSp0, hBs, hsio, hnm, hfr, hlo, hce, hsl⟩ := C
  obtain ⟨rfl, hh⟩ := hh
  rcases q_lA_e hh with ⟨x, hk, hX⟩ | ⟨hk, hX⟩
  · have hv := hL.2.2 _ _ hk (by intro z; cases z)
    have hX := hX hc LS H locs hL hlen hP hag hS
    generalize hr : q_rv B sp sio (.ref x) = r at hv
    have hX : W p l e R s m args below meth cd H locs (c0 - c) (1200 * (c0 - c)) Qf (F0 m (pc + 1) LS (q_rv B sp sio (.ref x) :: st.map (q_rv B sp sio))) := hX
    rw [hr] at hX
    have hcase : r = .null ∨ ∃ t, r = .ref t := by
      rw [← hr]
      show (if x = 29 then sio else .ref (q_ad B sp x)) = .null ∨ ∃ t, (if x = 29 then sio else .ref (q_ad B sp x)) = .ref t
      split
      · exact hsio
      · exact Or.inr ⟨_, rfl⟩
    rcases hcase with rfl | ⟨t, rfl⟩
    · exact lv_aload_nN hx hb hdg rfl hv hX
    · exact lv_aload_n hx hb hdg rfl hv hX
  · exact lv_aload_nN hx hb hdg rfl (hL.2.2 _ _ hk (by intro z; cases z)) (hX hc LS H locs hL hlen hP hag hS)
theorem q_s_istore (C : q_Cx D ca B sp sio p R s m args meth cd M d c0 h0) {c pc n : Nat} {ls st : List Value} {h : q_H} {k : Nat} (hdg : decode (q_b M) pc = .ok (.istore k, n))
    (hh : q_ins (q_cll d) M (q_X D ca B sp sio p l e R s m args below meth cd c0 h0 Qf) Q c pc (.istore k) n ls st h) : q_X D ca B sp sio p l e R s m args below meth cd c0 h0 Qf c pc ls st h := by
  intro hc LS H locs hL hlen hP hag hS
  obtain ⟨hx, hb, hml, hown, hts, hTb, hSp0, hBs, hsio, hnm, hfr, hlo, hce, hsl⟩ := C
  obtain ⟨rfl, hh⟩ := hh
  obtain ⟨x, r, rfl, ⟨hk, hnl⟩, hX⟩ := q_pI_e hh
  exact lv_istore hx hb hdg (q_LR_has hL) hk rfl (fun ls' hl' => hX hc ls' H locs (q_LR_st1 hsio hnl hl') (by rw [List.length_set]; exact hlen) hP hag hS)
theorem q_s_lstore (C : q_Cx D ca B sp sio p R s m args meth cd M d c0 h0) {c pc n : Nat} {ls st : List Value} {h : q_H} {k : Nat} (hdg : decode (q_b M) pc = .ok (.lstore k, n))
    (hh : q_ins (q_cll d) M (q_X D ca B sp sio p l e R s m args below meth cd c0 h0 Qf) Q c pc (.lstore k) n ls st h) : q_X D ca B sp sio p l e R s m args below meth cd c0 h0 Qf c pc ls st h := by
  intro hc LS H locs hL hlen hP hag hS
  obtain ⟨hx, hb, hml, hown, hts, hTb, hSp0, hBs, hsio, hnm, hfr, hlo, hce, hsl⟩ := C
  obtain ⟨rfl, hh⟩ := hh
  obtain ⟨x, r, rfl, ⟨hk, hnl⟩, hX⟩ := q_pJ_e hh
  exact lv_lstore hx hb hdg (q_LR_has hL) hk rfl (fun ls' hl' => hX hc ls' H locs (q_LR_st2 hsio hnl hl') (by rw [List.length_set, List.length_set]; exact hlen) hP hag hS)
theorem q_s_astore (C : q_Cx D ca B sp sio p R s m args meth cd M d c0 h0) {c pc n : Nat} {ls st : List Value} {h : q_H} {k : Nat} (hdg : decode (q_b M) pc = .ok (.astore k, n))
    (hh : q_ins (q_cll d) M (q_X D ca B sp sio p l e R s m args below meth cd c0 h0 Qf) Q c pc (.astore k) n ls st h) : q_X D ca B sp sio p l e R s m args below meth cd c0 h0 Qf c pc ls st h := by
  intro hc LS H locs hL hlen hP hag hS
  obtain ⟨hx, hb, hml, hown, hts, hTb, hSp0, hBs, hsio, hnm, hfr, hlo, hce, hsl⟩ := C
  obtain ⟨rfl, hh⟩ := hh
  rcases q_pA_e hh with ⟨x, r, rfl, ⟨hk, hnl⟩, hX⟩ | ⟨r, rfl, ⟨hk, hnl⟩, hX⟩
  · have hcase : q_rv B sp sio (.ref x) = .null ∨ ∃ t, q_rv B sp sio (.ref x) = .ref t := by
      show (if x = 29 then sio else .ref (q_ad B sp x)) = .null ∨ ∃ t, (if x = 29 then sio else .ref (q_ad B sp x)) = .ref t
      split
      · exact hsio
      · exact Or.inr ⟨_, rfl⟩
    show W p l e R s m args below meth cd H locs (c0 - c) (1200 * (c0 - c)) Qf (F0 m pc LS (q_rv B sp sio (.ref x) :: r.map (q_rv B sp sio)))
    rcases hcase with hr | ⟨t, hr⟩
    · rw [hr]
      exact lv_astoreN hx hb hdg (q_LR_has hL) hk rfl (fun ls' hl' => hX hc ls' H locs (q_LR_st1 hsio hnl (by rw [hr]; exact hl')) (by rw [List.length_set]; exact hlen) hP hag hS)
    · rw [hr]
      exact lv_astore hx hb hdg (q_LR_has hL) hk rfl (fun ls' hl' => hX hc ls' H locs (q_LR_st1 hsio hnl (by rw [hr]; exact hl')) (by rw [List.length_set]; exact hlen) hP hag hS)
  · exact lv_astoreN hx hb hdg (q_LR_has hL) hk rfl (fun ls' hl' => hX hc ls' H locs (q_LR_st1 hsio hnl hl') (by rw [List.length_set]; exact hlen) hP hag hS)
theorem q_s_istore_n (C : q_Cx D ca B sp sio p R s m args meth cd M d c0 h0) {c pc n : Nat} {ls st : List Value} {h : q_H} {k : Fin 4} (hdg : decode (q_b M) pc = .ok (.istore_n k, n))
    (hh : q_ins (q_cll d) M (q_X D ca B sp sio p l e R s m args below meth cd c0 h0 Qf) Q c pc (.istore_n k) n ls st h) : q_X D ca B sp sio p l e R s m args below meth cd c0 h0 Qf c pc ls st h := by
  intro hc LS H locs hL hlen hP hag hS
  obtain ⟨hx, hb, hml, hown, hts, hTb, hSp0, hBs, hsio, hnm, hfr, hlo, hce, hsl⟩ := C
  obtain ⟨rfl, hh⟩ := hh
  obtain ⟨x, r, rfl, ⟨hk, hnl⟩, hX⟩ := q_pI_e hh
  exact lv_istore_n hx hb hdg rfl (q_LR_has hL) hk rfl (fun ls' hl' => hX hc ls' H locs (q_LR_st1 hsio hnl hl') (by rw [List.length_set]; exact hlen) hP hag hS)
theorem q_s_lstore_n (C : q_Cx D ca B sp sio p R s m args meth cd M d c0 h0) {c pc n : Nat} {ls st : List Value} {h : q_H} {k : Fin 4} (hdg : decode (q_b M) pc = .ok (.lstore_n k, n))
    (hh : q_ins (q_cll d) M (q_X D ca B sp sio p l e R s m args below meth cd c0 h0 Qf) Q c pc (.lstore_n k) n ls st h) : q_X D ca B sp sio p l e R s m args below meth cd c0 h0 Qf c pc ls st h := by
  intro hc LS H locs hL hlen hP hag hS
  obtain ⟨hx, hb, hml, hown, hts, hTb, hSp0, hBs, hsio, hnm, hfr, hlo, hce, hsl⟩ := C
  obtain ⟨rfl, hh⟩ := hh
  obtain ⟨x, r, rfl, ⟨hk, hnl⟩, hX⟩ := q_pJ_e hh
  exact lv_lstore_n hx hb hdg rfl (q_LR_has hL) hk rfl (fun ls' hl' => hX hc ls' H locs (q_LR_st2 hsio hnl hl') (by rw [List.length_set, List.length_set]; exact hlen) hP hag hS)
theorem q_s_astore_n (C : q_Cx D ca B sp sio p R s m args meth cd M d c0 h0) {c pc n : Nat} {ls st : List Value} {h : q_H} {k : Fin 4} (hdg : decode (q_b M) pc = .ok (.astore_n k, n))
    (hh : q_ins (q_cll d) M (q_X D ca B sp sio p l e R s m args below meth cd c0 h0 Qf) Q c pc (.astore_n k) n ls st h) : q_X D ca B sp sio p l e R s m args below meth cd c0 h0 Qf c pc ls st h := by
  intro hc LS H locs hL hlen hP hag hS
  obtain ⟨hx, hb, hml, hown, hts, hTb, hSp0, hBs, hsio, hnm, hfr, hlo, hce, hsl⟩ := C
  obtain ⟨rfl, hh⟩ := hh
  rcases q_pA_e hh with ⟨x, r, rfl, ⟨hk, hnl⟩, hX⟩ | ⟨r, rfl, ⟨hk, hnl⟩, hX⟩
  · have hcase : q_rv B sp sio (.ref x) = .null ∨ ∃ t, q_rv B sp sio (.ref x) = .ref t := by
      show (if x = 29 then sio else .ref (q_ad B sp x)) = .null ∨ ∃ t, (if x = 29 then sio else .ref (q_ad B sp x)) = .ref t
      split
      · exact hsio
      · exact Or.inr ⟨_, rfl⟩
    show W p l e R s m args below meth cd H locs (c0 - c) (1200 * (c0 - c)) Qf (F0 m pc LS (q_rv B sp sio (.ref x) :: r.map (q_rv B sp sio)))
    rcases hcase with hr | ⟨t, hr⟩
    · rw [hr]
      exact lv_astore_nN hx hb hdg rfl (q_LR_has hL) hk rfl (fun ls' hl' => hX hc ls' H locs (q_LR_st1 hsio hnl (by rw [hr]; exact hl')) (by rw [List.length_set]; exact hlen) hP hag hS)
    · rw [hr]
      exact lv_astore_n hx hb hdg rfl (q_LR_has hL) hk rfl (fun ls' hl' => hX hc ls' H locs (q_LR_st1 hsio hnl (by rw [hr]; exact hl')) (by rw [List.length_set]; exact hlen) hP hag hS)
  · exact lv_astore_nN hx hb hdg rfl (q_LR_has hL) hk rfl (fun ls' hl' => hX hc ls' H locs (q_LR_st1 hsio hnl hl') (by rw [List.length_set]; exact hlen) hP hag hS)
theorem q_s_iinc (C : q_Cx D ca B sp sio p R s m args meth cd M d c0 h0) {c pc n : Nat} {ls st : List Value} {h : q_H} {k : Nat} {v : Int} (hdg : decode (q_b M) pc = .ok (.iinc k v, n))
    (hh : q_ins (q_cll d) M (q_X D ca B sp sio p l e R s m args below meth cd c0 h0 Qf) Q c pc (.iinc k v) n ls st h) : q_X D ca B sp sio p l e R s m args below meth cd c0 h0 Qf c pc ls st h := by
  intro hc LS H locs hL hlen hP hag hS
  obtain ⟨hx, hb, hml, hown, hts, hTb, hSp0, hBs, hsio, hnm, hfr, hlo, hce, hsl⟩ := C
  obtain ⟨rfl, hh⟩ := hh
  obtain ⟨x, hk, hX⟩ := q_lI_e hh
  have hmem : (k, Value.int x) ∈ q_lvl B sp sio ls := q_lvl_mem.mpr ⟨_, hk, (by intro z; cases z), rfl⟩
  obtain ⟨j, hj, hj2⟩ := List.getElem_of_mem hmem
  have hkl : k < ls.length := (List.getElem?_eq_some_iff.mp hk).1
  have hne : ∀ w, (k, w) ∈ q_lvl B sp sio ls → True := fun _ _ => trivial
  refine lv_iinc hx hb hdg (q_LR_has hL) (k := j) (List.getElem?_eq_some_iff.mpr ⟨hj, hj2⟩) rfl hkl rfl (fun ls' hl' => ?_)
  refine hX hc ls' H locs ?_ (by rw [List.length_set]; exact hlen) hP hag hS
  by_cases hnl : q_nl ls k
  · exact q_LR_st1 hsio hnl hl'
  · exact (q_LR_iinc hL hk hl')
theorem q_s_iadd (C : q_Cx D ca B sp sio p R s m args meth cd M d c0 h0) {c pc n : Nat} {ls st : List Value} {h : q_H} (hdg : decode (q_b M) pc = .ok (.iadd, n))
    (hh : q_ins (q_cll d) M (q_X D ca B sp sio p l e R s m args below meth cd c0 h0 Qf) Q c pc (.iadd) n ls st h) : q_X D ca B sp sio p l e R s m args below meth cd c0 h0 Qf c pc ls st h := by
  intro hc LS H locs hL hlen hP hag hS
  obtain ⟨hx, hb, hml, hown, hts, hTb, hSp0, hBs, hsio, hnm, hfr, hlo, hce, hsl⟩ := C
  obtain ⟨rfl, hh⟩ := hh
  obtain ⟨y, r1, rfl, hh2⟩ := q_pI_e hh
  obtain ⟨x, r, rfl, hX⟩ := q_pI_e hh2
  exact lv_iadd hx hb hdg (hX hc LS H locs hL hlen hP hag hS)
theorem q_s_isub (C : q_Cx D ca B sp sio p R s m args meth cd M d c0 h0) {c pc n : Nat} {ls st : List Value} {h : q_H} (hdg : decode (q_b M) pc = .ok (.isub, n))
    (hh : q_ins (q_cll d) M (q_X D ca B sp sio p l e R s m args below meth cd c0 h0 Qf) Q c pc (.isub) n ls st h) : q_X D ca B sp sio p l e R s m args below meth cd c0 h0 Qf c pc ls st h := by
  intro hc LS H locs hL hlen hP hag hS
  obtain ⟨hx, hb, hml, hown, hts, hTb, hSp0, hBs, hsio, hnm, hfr, hlo, hce, hsl⟩ := C
  obtain ⟨rfl, hh⟩ := hh
  obtain ⟨y, r1, rfl, hh2⟩ := q_pI_e hh
  obtain ⟨x, r, rfl, hX⟩ := q_pI_e hh2
  exact lv_isub hx hb hdg (hX hc LS H locs hL hlen hP hag hS)
theorem q_s_imul (C : q_Cx D ca B sp sio p R s m args meth cd M d c0 h0) {c pc n : Nat} {ls st : List Value} {h : q_H} (hdg : decode (q_b M) pc = .ok (.imul, n))
    (hh : q_ins (q_cll d) M (q_X D ca B sp sio p l e R s m args below meth cd c0 h0 Qf) Q c pc (.imul) n ls st h) : q_X D ca B sp sio p l e R s m args below meth cd c0 h0 Qf c pc ls st h := by
  intro hc LS H locs hL hlen hP hag hS
  obtain ⟨hx, hb, hml, hown, hts, hTb, hSp0, hBs, hsio, hnm, hfr, hlo, hce, hsl⟩ := C
  obtain ⟨rfl, hh⟩ := hh
  obtain ⟨y, r1, rfl, hh2⟩ := q_pI_e hh
  obtain ⟨x, r, rfl, hX⟩ := q_pI_e hh2
  exact lv_imul hx hb hdg (hX hc LS H locs hL hlen hP hag hS)
theorem q_s_iand (C : q_Cx D ca B sp sio p R s m args meth cd M d c0 h0) {c pc n : Nat} {ls st : List Value} {h : q_H} (hdg : decode (q_b M) pc = .ok (.iand, n))
    (hh : q_ins (q_cll d) M (q_X D ca B sp sio p l e R s m args below meth cd c0 h0 Qf) Q c pc (.iand) n ls st h) : q_X D ca B sp sio p l e R s m args below meth cd c0 h0 Qf c pc ls st h := by
  intro hc LS H locs hL hlen hP hag hS
  obtain ⟨hx, hb, hml, hown, hts, hTb, hSp0, hBs, hsio, hnm, hfr, hlo, hce, hsl⟩ := C
  obtain ⟨rfl, hh⟩ := hh
  obtain ⟨y, r1, rfl, hh2⟩ := q_pI_e hh
  obtain ⟨x, r, rfl, hX⟩ := q_pI_e hh2
  exact lv_iand hx hb hdg (hX hc LS H locs hL hlen hP hag hS)
theorem q_s_ior (C : q_Cx D ca B sp sio p R s m args meth cd M d c0 h0) {c pc n : Nat} {ls st : List Value} {h : q_H} (hdg : decode (q_b M) pc = .ok (.ior, n))
    (hh : q_ins (q_cll d) M (q_X D ca B sp sio p l e R s m args below meth cd c0 h0 Qf) Q c pc (.ior) n ls st h) : q_X D ca B sp sio p l e R s m args below meth cd c0 h0 Qf c pc ls st h := by
  intro hc LS H locs hL hlen hP hag hS
  obtain ⟨hx, hb, hml, hown, hts, hTb, hSp0, hBs, hsio, hnm, hfr, hlo, hce, hsl⟩ := C
  obtain ⟨rfl, hh⟩ := hh
  obtain ⟨y, r1, rfl, hh2⟩ := q_pI_e hh
  obtain ⟨x, r, rfl, hX⟩ := q_pI_e hh2
  exact lv_ior hx hb hdg (hX hc LS H locs hL hlen hP hag hS)
theorem q_s_ixor (C : q_Cx D ca B sp sio p R s m args meth cd M d c0 h0) {c pc n : Nat} {ls st : List Value} {h : q_H} (hdg : decode (q_b M) pc = .ok (.ixor, n))
    (hh : q_ins (q_cll d) M (q_X D ca B sp sio p l e R s m args below meth cd c0 h0 Qf) Q c pc (.ixor) n ls st h) : q_X D ca B sp sio p l e R s m args below meth cd c0 h0 Qf c pc ls st h := by
  intro hc LS H locs hL hlen hP hag hS
  obtain ⟨hx, hb, hml, hown, hts, hTb, hSp0, hBs, hsio, hnm, hfr, hlo, hce, hsl⟩ := C
  obtain ⟨rfl, hh⟩ := hh
  obtain ⟨y, r1, rfl, hh2⟩ := q_pI_e hh
  obtain ⟨x, r, rfl, hX⟩ := q_pI_e hh2
  exact lv_ixor hx hb hdg (hX hc LS H locs hL hlen hP hag hS)
theorem q_s_ishl (C : q_Cx D ca B sp sio p R s m args meth cd M d c0 h0) {c pc n : Nat} {ls st : List Value} {h : q_H} (hdg : decode (q_b M) pc = .ok (.ishl, n))
    (hh : q_ins (q_cll d) M (q_X D ca B sp sio p l e R s m args below meth cd c0 h0 Qf) Q c pc (.ishl) n ls st h) : q_X D ca B sp sio p l e R s m args below meth cd c0 h0 Qf c pc ls st h := by
  intro hc LS H locs hL hlen hP hag hS
  obtain ⟨hx, hb, hml, hown, hts, hTb, hSp0, hBs, hsio, hnm, hfr, hlo, hce, hsl⟩ := C
  obtain ⟨rfl, hh⟩ := hh
  obtain ⟨y, r1, rfl, hh2⟩ := q_pI_e hh
  obtain ⟨x, r, rfl, hX⟩ := q_pI_e hh2
  exact lv_ishl hx hb hdg (hX hc LS H locs hL hlen hP hag hS)
theorem q_s_ishr (C : q_Cx D ca B sp sio p R s m args meth cd M d c0 h0) {c pc n : Nat} {ls st : List Value} {h : q_H} (hdg : decode (q_b M) pc = .ok (.ishr, n))
    (hh : q_ins (q_cll d) M (q_X D ca B sp sio p l e R s m args below meth cd c0 h0 Qf) Q c pc (.ishr) n ls st h) : q_X D ca B sp sio p l e R s m args below meth cd c0 h0 Qf c pc ls st h := by
  intro hc LS H locs hL hlen hP hag hS
  obtain ⟨hx, hb, hml, hown, hts, hTb, hSp0, hBs, hsio, hnm, hfr, hlo, hce, hsl⟩ := C
  obtain ⟨rfl, hh⟩ := hh
  obtain ⟨y, r1, rfl, hh2⟩ := q_pI_e hh
  obtain ⟨x, r, rfl, hX⟩ := q_pI_e hh2
  exact lv_ishr hx hb hdg (hX hc LS H locs hL hlen hP hag hS)
theorem q_s_idiv (C : q_Cx D ca B sp sio p R s m args meth cd M d c0 h0) {c pc n : Nat} {ls st : List Value} {h : q_H} (hdg : decode (q_b M) pc = .ok (.idiv, n))
    (hh : q_ins (q_cll d) M (q_X D ca B sp sio p l e R s m args below meth cd c0 h0 Qf) Q c pc (.idiv) n ls st h) : q_X D ca B sp sio p l e R s m args below meth cd c0 h0 Qf c pc ls st h := by
  intro hc LS H locs hL hlen hP hag hS
  obtain ⟨hx, hb, hml, hown, hts, hTb, hSp0, hBs, hsio, hnm, hfr, hlo, hce, hsl⟩ := C
  obtain ⟨rfl, hh⟩ := hh
  obtain ⟨y, r1, rfl, hh2⟩ := q_pI_e hh
  obtain ⟨x, r, rfl, hne, hX⟩ := q_pI_e hh2
  exact lv_idiv hx hb hdg hne (hX hc LS H locs hL hlen hP hag hS)
theorem q_s_irem (C : q_Cx D ca B sp sio p R s m args meth cd M d c0 h0) {c pc n : Nat} {ls st : List Value} {h : q_H} (hdg : decode (q_b M) pc = .ok (.irem, n))
    (hh : q_ins (q_cll d) M (q_X D ca B sp sio p l e R s m args below meth cd c0 h0 Qf) Q c pc (.irem) n ls st h) : q_X D ca B sp sio p l e R s m args below meth cd c0 h0 Qf c pc ls st h := by
  intro hc LS H locs hL hlen hP hag hS
  obtain ⟨hx, hb, hml, hown, hts, hTb, hSp0, hBs, hsio, hnm, hfr, hlo, hce, hsl⟩ := C
  obtain ⟨rfl, hh⟩ := hh
  obtain ⟨y, r1, rfl, hh2⟩ := q_pI_e hh
  obtain ⟨x, r, rfl, hne, hX⟩ := q_pI_e hh2
  exact lv_irem hx hb hdg hne (by rw [irem_eq_mod]; exact hX hc LS H locs hL hlen hP hag hS)
theorem q_s_iushr (C : q_Cx D ca B sp sio p R s m args meth cd M d c0 h0) {c pc n : Nat} {ls st : List Value} {h : q_H} (hdg : decode (q_b M) pc = .ok (.iushr, n))
    (hh : q_ins (q_cll d) M (q_X D ca B sp sio p l e R s m args below meth cd c0 h0 Qf) Q c pc (.iushr) n ls st h) : q_X D ca B sp sio p l e R s m args below meth cd c0 h0 Qf c pc ls st h := by
  intro hc LS H locs hL hlen hP hag hS
  obtain ⟨hx, hb, hml, hown, hts, hTb, hSp0, hBs, hsio, hnm, hfr, hlo, hce, hsl⟩ := C
  obtain ⟨rfl, hh⟩ := hh
  obtain ⟨y, r1, rfl, hh2⟩ := q_pI_e hh
  obtain ⟨x, r, rfl, hX⟩ := q_pI_e hh2
  exact lv_iushr hx hb hdg rfl (hX hc LS H locs hL hlen hP hag hS)
theorem q_s_ineg (C : q_Cx D ca B sp sio p R s m args meth cd M d c0 h0) {c pc n : Nat} {ls st : List Value} {h : q_H} (hdg : decode (q_b M) pc = .ok (.ineg, n))
    (hh : q_ins (q_cll d) M (q_X D ca B sp sio p l e R s m args below meth cd c0 h0 Qf) Q c pc (.ineg) n ls st h) : q_X D ca B sp sio p l e R s m args below meth cd c0 h0 Qf c pc ls st h := by
  intro hc LS H locs hL hlen hP hag hS
  obtain ⟨hx, hb, hml, hown, hts, hTb, hSp0, hBs, hsio, hnm, hfr, hlo, hce, hsl⟩ := C
  obtain ⟨rfl, hh⟩ := hh
  obtain ⟨x, r, rfl, hX⟩ := q_pI_e hh
  exact lv_ineg hx hb hdg (hX hc LS H locs hL hlen hP hag hS)
theorem q_s_i2l (C : q_Cx D ca B sp sio p R s m args meth cd M d c0 h0) {c pc n : Nat} {ls st : List Value} {h : q_H} (hdg : decode (q_b M) pc = .ok (.i2l, n))
    (hh : q_ins (q_cll d) M (q_X D ca B sp sio p l e R s m args below meth cd c0 h0 Qf) Q c pc (.i2l) n ls st h) : q_X D ca B sp sio p l e R s m args below meth cd c0 h0 Qf c pc ls st h := by
  intro hc LS H locs hL hlen hP hag hS
  obtain ⟨hx, hb, hml, hown, hts, hTb, hSp0, hBs, hsio, hnm, hfr, hlo, hce, hsl⟩ := C
  obtain ⟨rfl, hh⟩ := hh
  obtain ⟨x, r, rfl, hX⟩ := q_pI_e hh
  exact lv_i2l hx hb hdg rfl (hX hc LS H locs hL hlen hP hag hS)
theorem q_s_i2b (C : q_Cx D ca B sp sio p R s m args meth cd M d c0 h0) {c pc n : Nat} {ls st : List Value} {h : q_H} (hdg : decode (q_b M) pc = .ok (.i2b, n))
    (hh : q_ins (q_cll d) M (q_X D ca B sp sio p l e R s m args below meth cd c0 h0 Qf) Q c pc (.i2b) n ls st h) : q_X D ca B sp sio p l e R s m args below meth cd c0 h0 Qf c pc ls st h := by
  intro hc LS H locs hL hlen hP hag hS
  obtain ⟨hx, hb, hml, hown, hts, hTb, hSp0, hBs, hsio, hnm, hfr, hlo, hce, hsl⟩ := C
  obtain ⟨rfl, hh⟩ := hh
  obtain ⟨x, r, rfl, hX⟩ := q_pI_e hh
  exact lv_i2b hx hb hdg rfl (hX hc LS H locs hL hlen hP hag hS)
theorem q_s_i2s (C : q_Cx D ca B sp sio p R s m args meth cd M d c0 h0) {c pc n : Nat} {ls st : List Value} {h : q_H} (hdg : decode (q_b M) pc = .ok (.i2s, n))
    (hh : q_ins (q_cll d) M (q_X D ca B sp sio p l e R s m args below meth cd c0 h0 Qf) Q c pc (.i2s) n ls st h) : q_X D ca B sp sio p l e R s m args below meth cd c0 h0 Qf c pc ls st h := by
  intro hc LS H locs hL hlen hP hag hS
  obtain ⟨hx, hb, hml, hown, hts, hTb, hSp0, hBs, hsio, hnm, hfr, hlo, hce, hsl⟩ := C
  obtain ⟨rfl, hh⟩ := hh
  obtain ⟨x, r, rfl, hX⟩ := q_pI_e hh
  exact lv_i2s hx hb hdg rfl (hX hc LS H locs hL hlen hP hag hS)
theorem q_s_i2c (C : q_Cx D ca B sp sio p R s m args meth cd M d c0 h0) {c pc n : Nat} {ls st : List Value} {h : q_H} (hdg : decode (q_b M) pc = .ok (.i2c, n))
    (hh : q_ins (q_cll d) M (q_X D ca B sp sio p l e R s m args below meth cd c0 h0 Qf) Q c pc (.i2c) n ls st h) : q_X D ca B sp sio p l e R s m args below meth cd c0 h0 Qf c pc ls st h := by
  intro hc LS H locs hL hlen hP hag hS
  obtain ⟨hx, hb, hml, hown, hts, hTb, hSp0, hBs, hsio, hnm, hfr, hlo, hce, hsl⟩ := C
  obtain ⟨rfl, hh⟩ := hh
  obtain ⟨x, r, rfl, hX⟩ := q_pI_e hh
  exact lv_i2c hx hb hdg rfl (hX hc LS H locs hL hlen hP hag hS)
theorem q_s_l2i (C : q_Cx D ca B sp sio p R s m args meth cd M d c0 h0) {c pc n : Nat} {ls st : List Value} {h : q_H} (hdg : decode (q_b M) pc = .ok (.l2i, n))
    (hh : q_ins (q_cll d) M (q_X D ca B sp sio p l e R s m args below meth cd c0 h0 Qf) Q c pc (.l2i) n ls st h) : q_X D ca B sp sio p l e R s m args below meth cd c0 h0 Qf c pc ls st h := by
  intro hc LS H locs hL hlen hP hag hS
  obtain ⟨hx, hb, hml, hown, hts, hTb, hSp0, hBs, hsio, hnm, hfr, hlo, hce, hsl⟩ := C
  obtain ⟨rfl, hh⟩ := hh
  obtain ⟨x, r, rfl, hX⟩ := q_pJ_e hh
  exact lv_l2i hx hb hdg rfl (hX hc LS H locs hL hlen hP hag hS)
theorem q_s_ladd (C : q_Cx D ca B sp sio p R s m args meth cd M d c0 h0) {c pc n : Nat} {ls st : List Value} {h : q_H} (hdg : decode (q_b M) pc = .ok (.ladd, n))
    (hh : q_ins (q_cll d) M (q_X D ca B sp sio p l e R s m args below meth cd c0 h0 Qf) Q c pc (.ladd) n ls st h) : q_X D ca B sp sio p l e R s m args below meth cd c0 h0 Qf c pc ls st h := by
  intro hc LS H locs hL hlen hP hag hS
  obtain ⟨hx, hb, hml, hown, hts, hTb, hSp0, hBs, hsio, hnm, hfr, hlo, hce, hsl⟩ := C
  obtain ⟨rfl, hh⟩ := hh
  obtain ⟨y, r1, rfl, hh2⟩ := q_pJ_e hh
  obtain ⟨x, r, rfl, hX⟩ := q_pJ_e hh2
  exact lv_ladd hx hb hdg (hX hc LS H locs hL hlen hP hag hS)
theorem q_s_lmul (C : q_Cx D ca B sp sio p R s m args meth cd M d c0 h0) {c pc n : Nat} {ls st : List Value} {h : q_H} (hdg : decode (q_b M) pc = .ok (.lmul, n))
    (hh : q_ins (q_cll d) M (q_X D ca B sp sio p l e R s m args below meth cd c0 h0 Qf) Q c pc (.lmul) n ls st h) : q_X D ca B sp sio p l e R s m args below meth cd c0 h0 Qf c pc ls st h := by
  intro hc LS H locs hL hlen hP hag hS
  obtain ⟨hx, hb, hml, hown, hts, hTb, hSp0, hBs, hsio, hnm, hfr, hlo, hce, hsl⟩ := C
  obtain ⟨rfl, hh⟩ := hh
  obtain ⟨y, r1, rfl, hh2⟩ := q_pJ_e hh
  obtain ⟨x, r, rfl, hX⟩ := q_pJ_e hh2
  exact lv_lmul hx hb hdg (hX hc LS H locs hL hlen hP hag hS)
theorem q_s_land (C : q_Cx D ca B sp sio p R s m args meth cd M d c0 h0) {c pc n : Nat} {ls st : List Value} {h : q_H} (hdg : decode (q_b M) pc = .ok (.land, n))
    (hh : q_ins (q_cll d) M (q_X D ca B sp sio p l e R s m args below meth cd c0 h0 Qf) Q c pc (.land) n ls st h) : q_X D ca B sp sio p l e R s m args below meth cd c0 h0 Qf c pc ls st h := by
  intro hc LS H locs hL hlen hP hag hS
  obtain ⟨hx, hb, hml, hown, hts, hTb, hSp0, hBs, hsio, hnm, hfr, hlo, hce, hsl⟩ := C
  obtain ⟨rfl, hh⟩ := hh
  obtain ⟨y, r1, rfl, hh2⟩ := q_pJ_e hh
  obtain ⟨x, r, rfl, hX⟩ := q_pJ_e hh2
  exact lv_land hx hb hdg (hX hc LS H locs hL hlen hP hag hS)
theorem q_s_lor (C : q_Cx D ca B sp sio p R s m args meth cd M d c0 h0) {c pc n : Nat} {ls st : List Value} {h : q_H} (hdg : decode (q_b M) pc = .ok (.lor, n))
    (hh : q_ins (q_cll d) M (q_X D ca B sp sio p l e R s m args below meth cd c0 h0 Qf) Q c pc (.lor) n ls st h) : q_X D ca B sp sio p l e R s m args below meth cd c0 h0 Qf c pc ls st h := by
  intro hc LS H locs hL hlen hP hag hS
  obtain ⟨hx, hb, hml, hown, hts, hTb, hSp0, hBs, hsio, hnm, hfr, hlo, hce, hsl⟩ := C
  obtain ⟨rfl, hh⟩ := hh
  obtain ⟨y, r1, rfl, hh2⟩ := q_pJ_e hh
  obtain ⟨x, r, rfl, hX⟩ := q_pJ_e hh2
  exact lv_lor hx hb hdg (hX hc LS H locs hL hlen hP hag hS)
theorem q_s_ldiv (C : q_Cx D ca B sp sio p R s m args meth cd M d c0 h0) {c pc n : Nat} {ls st : List Value} {h : q_H} (hdg : decode (q_b M) pc = .ok (.ldiv, n))
    (hh : q_ins (q_cll d) M (q_X D ca B sp sio p l e R s m args below meth cd c0 h0 Qf) Q c pc (.ldiv) n ls st h) : q_X D ca B sp sio p l e R s m args below meth cd c0 h0 Qf c pc ls st h := by
  intro hc LS H locs hL hlen hP hag hS
  obtain ⟨hx, hb, hml, hown, hts, hTb, hSp0, hBs, hsio, hnm, hfr, hlo, hce, hsl⟩ := C
  obtain ⟨rfl, hh⟩ := hh
  obtain ⟨y, r1, rfl, hh2⟩ := q_pJ_e hh
  obtain ⟨x, r, rfl, hne, hX⟩ := q_pJ_e hh2
  exact lv_ldiv hx hb hdg hne (hX hc LS H locs hL hlen hP hag hS)
theorem q_s_lrem (C : q_Cx D ca B sp sio p R s m args meth cd M d c0 h0) {c pc n : Nat} {ls st : List Value} {h : q_H} (hdg : decode (q_b M) pc = .ok (.lrem, n))
    (hh : q_ins (q_cll d) M (q_X D ca B sp sio p l e R s m args below meth cd c0 h0 Qf) Q c pc (.lrem) n ls st h) : q_X D ca B sp sio p l e R s m args below meth cd c0 h0 Qf c pc ls st h := by
  intro hc LS H locs hL hlen hP hag hS
  obtain ⟨hx, hb, hml, hown, hts, hTb, hSp0, hBs, hsio, hnm, hfr, hlo, hce, hsl⟩ := C
  obtain ⟨rfl, hh⟩ := hh
  obtain ⟨y, r1, rfl, hh2⟩ := q_pJ_e hh
  obtain ⟨x, r, rfl, hne, hX⟩ := q_pJ_e hh2
  exact lv_lrem hx hb hdg hne (by rw [q_lrem]; exact hX hc LS H locs hL hlen hP hag hS)
theorem q_s_lshl (C : q_Cx D ca B sp sio p R s m args meth cd M d c0 h0) {c pc n : Nat} {ls st : List Value} {h : q_H} (hdg : decode (q_b M) pc = .ok (.lshl, n))
    (hh : q_ins (q_cll d) M (q_X D ca B sp sio p l e R s m args below meth cd c0 h0 Qf) Q c pc (.lshl) n ls st h) : q_X D ca B sp sio p l e R s m args below meth cd c0 h0 Qf c pc ls st h := by
  intro hc LS H locs hL hlen hP hag hS
  obtain ⟨hx, hb, hml, hown, hts, hTb, hSp0, hBs, hsio, hnm, hfr, hlo, hce, hsl⟩ := C
  obtain ⟨rfl, hh⟩ := hh
  obtain ⟨y, r1, rfl, hh2⟩ := q_pI_e hh
  obtain ⟨x, r, rfl, hX⟩ := q_pJ_e hh2
  exact lv_lshl hx hb hdg rfl (hX hc LS H locs hL hlen hP hag hS)
theorem q_s_lshr (C : q_Cx D ca B sp sio p R s m args meth cd M d c0 h0) {c pc n : Nat} {ls st : List Value} {h : q_H} (hdg : decode (q_b M) pc = .ok (.lshr, n))
    (hh : q_ins (q_cll d) M (q_X D ca B sp sio p l e R s m args below meth cd c0 h0 Qf) Q c pc (.lshr) n ls st h) : q_X D ca B sp sio p l e R s m args below meth cd c0 h0 Qf c pc ls st h := by
  intro hc LS H locs hL hlen hP hag hS
  obtain ⟨hx, hb, hml, hown, hts, hTb, hSp0, hBs, hsio, hnm, hfr, hlo, hce, hsl⟩ := C
  obtain ⟨rfl, hh⟩ := hh
  obtain ⟨y, r1, rfl, hh2⟩ := q_pI_e hh
  obtain ⟨x, r, rfl, hX⟩ := q_pJ_e hh2
  exact lv_lshr hx hb hdg rfl (hX hc LS H locs hL hlen hP hag hS)
theorem q_s_lushr (C : q_Cx D ca B sp sio p R s m args meth cd M d c0 h0) {c pc n : Nat} {ls st : List Value} {h : q_H} (hdg : decode (q_b M) pc = .ok (.lushr, n))
    (hh : q_ins (q_cll d) M (q_X D ca B sp sio p l e R s m args below meth cd c0 h0 Qf) Q c pc (.lushr) n ls st h) : q_X D ca B sp sio p l e R s m args below meth cd c0 h0 Qf c pc ls st h := by
  intro hc LS H locs hL hlen hP hag hS
  obtain ⟨hx, hb, hml, hown, hts, hTb, hSp0, hBs, hsio, hnm, hfr, hlo, hce, hsl⟩ := C
  obtain ⟨rfl, hh⟩ := hh
  obtain ⟨y, r1, rfl, hh2⟩ := q_pI_e hh
  obtain ⟨x, r, rfl, hX⟩ := q_pJ_e hh2
  exact lv_lushr hx hb hdg rfl (hX hc LS H locs hL hlen hP hag hS)
theorem q_s_lcmp (C : q_Cx D ca B sp sio p R s m args meth cd M d c0 h0) {c pc n : Nat} {ls st : List Value} {h : q_H} (hdg : decode (q_b M) pc = .ok (.lcmp, n))
    (hh : q_ins (q_cll d) M (q_X D ca B sp sio p l e R s m args below meth cd c0 h0 Qf) Q c pc (.lcmp) n ls st h) : q_X D ca B sp sio p l e R s m args below meth cd c0 h0 Qf c pc ls st h := by
  intro hc LS H locs hL hlen hP hag hS
  obtain ⟨hx, hb, hml, hown, hts, hTb, hSp0, hBs, hsio, hnm, hfr, hlo, hce, hsl⟩ := C
  obtain ⟨rfl, hh⟩ := hh
  obtain ⟨y, r1, rfl, hh2⟩ := q_pJ_e hh
  obtain ⟨x, r, rfl, hX⟩ := q_pJ_e hh2
  exact W.lcmp hx hb hdg (hX hc LS H locs hL hlen hP hag hS)
theorem q_s_dup (C : q_Cx D ca B sp sio p R s m args meth cd M d c0 h0) {c pc n : Nat} {ls st : List Value} {h : q_H} (hdg : decode (q_b M) pc = .ok (.dup, n))
    (hh : q_ins (q_cll d) M (q_X D ca B sp sio p l e R s m args below meth cd c0 h0 Qf) Q c pc (.dup) n ls st h) : q_X D ca B sp sio p l e R s m args below meth cd c0 h0 Qf c pc ls st h := by
  intro hc LS H locs hL hlen hP hag hS
  obtain ⟨hx, hb, hml, hown, hts, hTb, hSp0, hBs, hsio, hnm, hfr, hlo, hce, hsl⟩ := C
  obtain ⟨rfl, hh⟩ := hh
  obtain ⟨v, r, rfl, hv, hX⟩ := q_p1_e hh
  exact lv_dup hx hb hdg (by rw [q_rv_cat hsio]; exact hv) (hX hc LS H locs hL hlen hP hag hS)
theorem q_s_pop (C : q_Cx D ca B sp sio p R s m args meth cd M d c0 h0) {c pc n : Nat} {ls st : List Value} {h : q_H} (hdg : decode (q_b M) pc = .ok (.pop, n))
    (hh : q_ins (q_cll d) M (q_X D ca B sp sio p l e R s m args below meth cd c0 h0 Qf) Q c pc (.pop) n ls st h) : q_X D ca B sp sio p l e R s m args below meth cd c0 h0 Qf c pc ls st h := by
  intro hc LS H locs hL hlen hP hag hS
  obtain ⟨hx, hb, hml, hown, hts, hTb, hSp0, hBs, hsio, hnm, hfr, hlo, hce, hsl⟩ := C
  obtain ⟨rfl, hh⟩ := hh
  obtain ⟨v, r, rfl, hv, hX⟩ := q_p1_e hh
  exact lv_pop hx hb hdg (by rw [q_rv_cat hsio]; exact hv) (hX hc LS H locs hL hlen hP hag hS)
theorem q_s_dup_x1 (C : q_Cx D ca B sp sio p R s m args meth cd M d c0 h0) {c pc n : Nat} {ls st : List Value} {h : q_H} (hdg : decode (q_b M) pc = .ok (.dup_x1, n))
    (hh : q_ins (q_cll d) M (q_X D ca B sp sio p l e R s m args below meth cd c0 h0 Qf) Q c pc (.dup_x1) n ls st h) : q_X D ca B sp sio p l e R s m args below meth cd c0 h0 Qf c pc ls st h := by
  intro hc LS H locs hL hlen hP hag hS
  obtain ⟨hx, hb, hml, hown, hts, hTb, hSp0, hBs, hsio, hnm, hfr, hlo, hce, hsl⟩ := C
  obtain ⟨rfl, hh⟩ := hh
  obtain ⟨v, r1, rfl, hv, hh2⟩ := q_p1_e hh
  obtain ⟨w, r, rfl, hw, hX⟩ := q_p1_e hh2
  exact lv_dup_x1 hx hb hdg (by rw [q_rv_cat hsio]; exact hv) (by rw [q_rv_cat hsio]; exact hw) (hX hc LS H locs hL hlen hP hag hS)
theorem q_s_dup2 (C : q_Cx D ca B sp sio p R s m args meth cd M d c0 h0) {c pc n : Nat} {ls st : List Value} {h : q_H} (hdg : decode (q_b M) pc = .ok (.dup2, n))
    (hh : q_ins (q_cll d) M (q_X D ca B sp sio p l e R s m args below meth cd c0 h0 Qf) Q c pc (.dup2) n ls st h) : q_X D ca B sp sio p l e R s m args below meth cd c0 h0 Qf c pc ls st h := by
  intro hc LS H locs hL hlen hP hag hS
  obtain ⟨hx, hb, hml, hown, hts, hTb, hSp0, hBs, hsio, hnm, hfr, hlo, hce, hsl⟩ := C
  obtain ⟨rfl, hh⟩ := hh
  obtain ⟨v, r1, rfl, hv, hh2⟩ := q_p1_e hh
  obtain ⟨w, r, rfl, hw, hX⟩ := q_p1_e hh2
  exact lv_dup2_11 hx hb hdg (by rw [q_rv_cat hsio]; exact hv) (by rw [q_rv_cat hsio]; exact hw) (hX hc LS H locs hL hlen hP hag hS)
theorem q_s_goto (C : q_Cx D ca B sp sio p R s m args meth cd M d c0 h0) {c pc n : Nat} {ls st : List Value} {h : q_H} {off : Int} (hdg : decode (q_b M) pc = .ok (.goto off, n))
    (hh : q_ins (q_cll d) M (q_X D ca B sp sio p l e R s m args below meth cd c0 h0 Qf) Q c pc (.goto off) n ls st h) : q_X D ca B sp sio p l e R s m args below meth cd c0 h0 Qf c pc ls st h := by
  intro hc LS H locs hL hlen hP hag hS
  obtain ⟨hx, hb, hml, hown, hts, hTb, hSp0, hBs, hsio, hnm, hfr, hlo, hce, hsl⟩ := C
  obtain ⟨rfl, ht, hX⟩ := hh
  exact lv_goto (tgt := q_tg pc off) hx hb hdg (by unfold q_tg; omega) (hX hc LS H locs hL hlen hP hag hS)
theorem q_s_ifCond_eq (C : q_Cx D ca B sp sio p R s m args meth cd M d c0 h0) {c pc n : Nat} {ls st : List Value} {h : q_H} {off : Int} (hdg : decode (q_b M) pc = .ok (.ifCond .eq off, n))
    (hh : q_ins (q_cll d) M (q_X D ca B sp sio p l e R s m args below meth cd c0 h0 Qf) Q c pc (.ifCond .eq off) n ls st h) : q_X D ca B sp sio p l e R s m args below meth cd c0 h0 Qf c pc ls st h := by
  intro hc LS H locs hL hlen hP hag hS
  obtain ⟨hx, hb, hml, hown, hts, hTb, hSp0, hBs, hsio, hnm, hfr, hlo, hce, hsl⟩ := C
  obtain ⟨rfl, ht, hh⟩ := hh
  obtain ⟨x, r, rfl, hX⟩ := q_pI_e hh
  exact lv_if_eq (tgt := q_tg pc off) hx hb hdg (by unfold q_tg; omega) (fun z => by rw [if_pos z] at hX; exact hX hc LS H locs hL hlen hP hag hS) (fun z => by rw [if_neg z] at hX; exact hX hc LS H locs hL hlen hP hag hS)
theorem q_s_if_icmp_eq (C : q_Cx D ca B sp sio p R s m args meth cd M d c0 h0) {c pc n : Nat} {ls st : List Value} {h : q_H} {off : Int} (hdg : decode (q_b M) pc = .ok (.if_icmp .eq off, n))
    (hh : q_ins (q_cll d) M (q_X D ca B sp sio p l e R s m args below meth cd c0 h0 Qf) Q c pc (.if_icmp .eq off) n ls st h) : q_X D ca B sp sio p l e R s m args below meth cd c0 h0 Qf c pc ls st h := by
  intro hc LS H locs hL hlen hP hag hS
  obtain ⟨hx, hb, hml, hown, hts, hTb, hSp0, hBs, hsio, hnm, hfr, hlo, hce, hsl⟩ := C
  obtain ⟨rfl, ht, hh⟩ := hh
  obtain ⟨y, r1, rfl, hh2⟩ := q_pI_e hh
  obtain ⟨x, r, rfl, hX⟩ := q_pI_e hh2
  exact lv_icmp_eq (tgt := q_tg pc off) hx hb hdg (by unfold q_tg; omega) (fun z => by rw [if_pos z] at hX; exact hX hc LS H locs hL hlen hP hag hS) (fun z => by rw [if_neg z] at hX; exact hX hc LS H locs hL hlen hP hag hS)
theorem q_s_ifCond_ne (C : q_Cx D ca B sp sio p R s m args meth cd M d c0 h0) {c pc n : Nat} {ls st : List Value} {h : q_H} {off : Int} (hdg : decode (q_b M) pc = .ok (.ifCond .ne off, n))
    (hh : q_ins (q_cll d) M (q_X D ca B sp sio p l e R s m args below meth cd c0 h0 Qf) Q c pc (.ifCond .ne off) n ls st h) : q_X D ca B sp sio p l e R s m args below meth cd c0 h0 Qf c pc ls st h := by
  intro hc LS H locs hL hlen hP hag hS
  obtain ⟨hx, hb, hml, hown, hts, hTb, hSp0, hBs, hsio, hnm, hfr, hlo, hce, hsl⟩ := C
  obtain ⟨rfl, ht, hh⟩ := hh
  obtain ⟨x, r, rfl, hX⟩ := q_pI_e hh
  exact lv_if_ne (tgt := q_tg pc off) hx hb hdg (by unfold q_tg; omega) (fun z => by rw [if_neg z] at hX; exact hX hc LS H locs hL hlen hP hag hS) (fun z => by rw [if_pos z] at hX; exact hX hc LS H locs hL hlen hP hag hS)
theorem q_s_if_icmp_ne (C : q_Cx D ca B sp sio p R s m args meth cd M d c0 h0) {c pc n : Nat} {ls st : List Value} {h : q_H} {off : Int} (hdg : decode (q_b M) pc = .ok (.if_icmp .ne off, n))
    (hh : q_ins (q_cll d) M (q_X D ca B sp sio p l e R s m args below meth cd c0 h0 Qf) Q c pc (.if_icmp .ne off) n ls st h) : q_X D ca B sp sio p l e R s m args below meth cd c0 h0 Qf c pc ls st h := by
  intro hc LS H locs hL hlen hP hag hS
  obtain ⟨hx, hb, hml, hown, hts, hTb, hSp0, hBs, hsio, hnm, hfr, hlo, hce, hsl⟩ := C
  obtain ⟨rfl, ht, hh⟩ := hh
  obtain ⟨y, r1, rfl, hh2⟩ := q_pI_e hh
  obtain ⟨x, r, rfl, hX⟩ := q_pI_e hh2
  exact lv_icmp_ne (tgt := q_tg pc off) hx hb hdg (by unfold q_tg; omega) (fun z => by rw [if_neg z] at hX; exact hX hc LS H locs hL hlen hP hag hS) (fun z => by rw [if_pos z] at hX; exact hX hc LS H locs hL hlen hP hag hS)
theorem q_s_ifCond_lt (C : q_Cx D ca B sp sio p R s m args meth cd M d c0 h0) {c pc n : Nat} {ls st : List Value} {h : q_H} {off : Int} (hdg : decode (q_b M) pc = .ok (.ifCond .lt off, n))
    (hh : q_ins (q_cll d) M (q_X D ca B sp sio p l e R s m args below meth cd c0 h0 Qf) Q c pc (.ifCond .lt off) n ls st h) : q_X D ca B sp sio p l e R s m args below meth cd c0 h0 Qf c pc ls st h := by
  intro hc LS H locs hL hlen hP hag hS
  obtain ⟨hx, hb, hml, hown, hts, hTb, hSp0, hBs, hsio, hnm, hfr, hlo, hce, hsl⟩ := C
  obtain ⟨rfl, ht, hh⟩ := hh
  obtain ⟨x, r, rfl, hX⟩ := q_pI_e hh
  exact lv_if_lt (tgt := q_tg pc off) hx hb hdg (by unfold q_tg; omega) (fun z => by rw [if_pos z] at hX; exact hX hc LS H locs hL hlen hP hag hS) (fun z => by rw [if_neg z] at hX; exact hX hc LS H locs hL hlen hP hag hS)
theorem q_s_if_icmp_lt (C : q_Cx D ca B sp sio p R s m args meth cd M d c0 h0) {c pc n : Nat} {ls st : List Value} {h : q_H} {off : Int} (hdg : decode (q_b M) pc = .ok (.if_icmp .lt off, n))
    (hh : q_ins (q_cll d) M (q_X D ca B sp sio p l e R s m args below meth cd c0 h0 Qf) Q c pc (.if_icmp .lt off) n ls st h) : q_X D ca B sp sio p l e R s m args below meth cd c0 h0 Qf c pc ls st h := by
  intro hc LS H locs hL hlen hP hag hS
  obtain ⟨hx, hb, hml, hown, hts, hTb, hSp0, hBs, hsio, hnm, hfr, hlo, hce, hsl⟩ := C
  obtain ⟨rfl, ht, hh⟩ := hh
  obtain ⟨y, r1, rfl, hh2⟩ := q_pI_e hh
  obtain ⟨x, r, rfl, hX⟩ := q_pI_e hh2
  exact lv_icmp_lt (tgt := q_tg pc off) hx hb hdg (by unfold q_tg; omega) (fun z => by rw [if_pos z] at hX; exact hX hc LS H locs hL hlen hP hag hS) (fun z => by rw [if_neg z] at hX; exact hX hc LS H locs hL hlen hP hag hS)
theorem q_s_ifCond_ge (C : q_Cx D ca B sp sio p R s m args meth cd M d c0 h0) {c pc n : Nat} {ls st : List Value} {h : q_H} {off : Int} (hdg : decode (q_b M) pc = .ok (.ifCond .ge off, n))
    (hh : q_ins (q_cll d) M (q_X D ca B sp sio p l e R s m args below meth cd c0 h0 Qf) Q c pc (.ifCond .ge off) n ls st h) : q_X D ca B sp sio p l e R s m args below meth cd c0 h0 Qf c pc ls st h := by
  intro hc LS H locs hL hlen hP hag hS
  obtain ⟨hx, hb, hml, hown, hts, hTb, hSp0, hBs, hsio, hnm, hfr, hlo, hce, hsl⟩ := C
  obtain ⟨rfl, ht, hh⟩ := hh
  obtain ⟨x, r, rfl, hX⟩ := q_pI_e hh
  exact lv_if_ge (tgt := q_tg pc off) hx hb hdg (by unfold q_tg; omega) (fun z => by rw [if_pos z] at hX; exact hX hc LS H locs hL hlen hP hag hS) (fun z => by rw [if_neg z] at hX; exact hX hc LS H locs hL hlen hP hag hS)
theorem q_s_if_icmp_ge (C : q_Cx D ca B sp sio p R s m args meth cd M d c0 h0) {c pc n : Nat} {ls st : List Value} {h : q_H} {off : Int} (hdg : decode (q_b M) pc = .ok (.if_icmp .ge off, n))
    (hh : q_ins (q_cll d) M (q_X D ca B sp sio p l e R s m args below meth cd c0 h0 Qf) Q c pc (.if_icmp .ge off) n ls st h) : q_X D ca B sp sio p l e R s m args below meth cd c0 h0 Qf c pc ls st h := by
  intro hc LS H locs hL hlen hP hag hS
  obtain ⟨hx, hb, hml, hown, hts, hTb, hSp0, hBs, hsio, hnm, hfr, hlo, hce, hsl⟩ := C
  obtain ⟨rfl, ht, hh⟩ := hh
  obtain ⟨y, r1, rfl, hh2⟩ := q_pI_e hh
  obtain ⟨x, r, rfl, hX⟩ := q_pI_e hh2
  exact lv_icmp_ge (tgt := q_tg pc off) hx hb hdg (by unfold q_tg; omega) (fun z => by rw [if_pos z] at hX; exact hX hc LS H locs hL hlen hP hag hS) (fun z => by rw [if_neg z] at hX; exact hX hc LS H locs hL hlen hP hag hS)
theorem q_s_ifCond_gt (C : q_Cx D ca B sp sio p R s m args meth cd M d c0 h0) {c pc n : Nat} {ls st : List Value} {h : q_H} {off : Int} (hdg : decode (q_b M) pc = .ok (.ifCond .gt off, n))
    (hh : q_ins (q_cll d) M (q_X D ca B sp sio p l e R s m args below meth cd c0 h0 Qf) Q c pc (.ifCond .gt off) n ls st h) : q_X D ca B sp sio p l e R s m args below meth cd c0 h0 Qf c pc ls st h := by
  intro hc LS H locs hL hlen hP hag hS
  obtain ⟨hx, hb, hml, hown, hts, hTb, hSp0, hBs, hsio, hnm, hfr, hlo, hce, hsl⟩ := C
  obtain ⟨rfl, ht, hh⟩ := hh
  obtain ⟨x, r, rfl, hX⟩ := q_pI_e hh
  exact lv_if_gt (tgt := q_tg pc off) hx hb hdg (by unfold q_tg; omega) (fun z => by rw [if_pos z] at hX; exact hX hc LS H locs hL hlen hP hag hS) (fun z => by rw [if_neg z] at hX; exact hX hc LS H locs hL hlen hP hag hS)
theorem q_s_if_icmp_gt (C : q_Cx D ca B sp sio p R s m args meth cd M d c0 h0) {c pc n : Nat} {ls st : List Value} {h : q_H} {off : Int} (hdg : decode (q_b M) pc = .ok (.if_icmp .gt off, n))
    (hh : q_ins (q_cll d) M (q_X D ca B sp sio p l e R s m args below meth cd c0 h0 Qf) Q c pc (.if_icmp .gt off) n ls st h) : q_X D ca B sp sio p l e R s m args below meth cd c0 h0 Qf c pc ls st h := by
  intro hc LS H locs hL hlen hP hag hS
  obtain ⟨hx, hb, hml, hown, hts, hTb, hSp0, hBs, hsio, hnm, hfr, hlo, hce, hsl⟩ := C
  obtain ⟨rfl, ht, hh⟩ := hh
  obtain ⟨y, r1, rfl, hh2⟩ := q_pI_e hh
  obtain ⟨x, r, rfl, hX⟩ := q_pI_e hh2
  exact lv_icmp_gt (tgt := q_tg pc off) hx hb hdg (by unfold q_tg; omega) (fun z => by rw [if_pos z] at hX; exact hX hc LS H locs hL hlen hP hag hS) (fun z => by rw [if_neg z] at hX; exact hX hc LS H locs hL hlen hP hag hS)
theorem q_s_ifCond_le (C : q_Cx D ca B sp sio p R s m args meth cd M d c0 h0) {c pc n : Nat} {ls st : List Value} {h : q_H} {off : Int} (hdg : decode (q_b M) pc = .ok (.ifCond .le off, n))
    (hh : q_ins (q_cll d) M (q_X D ca B sp sio p l e R s m args below meth cd c0 h0 Qf) Q c pc (.ifCond .le off) n ls st h) : q_X D ca B sp sio p l e R s m args below meth cd c0 h0 Qf c pc ls st h := by
  intro hc LS H locs hL hlen hP hag hS
  obtain ⟨hx, hb, hml, hown, hts, hTb, hSp0, hBs, hsio, hnm, hfr, hlo, hce, hsl⟩ := C
  obtain ⟨rfl, ht, hh⟩ := hh
  obtain ⟨x, r, rfl, hX⟩ := q_pI_e hh
  exact lv_if_le (tgt := q_tg pc off) hx hb hdg (by unfold q_tg; omega) (fun z => by rw [if_pos z] at hX; exact hX hc LS H locs hL hlen hP hag hS) (fun z => by rw [if_neg z] at hX; exact hX hc LS H locs hL hlen hP hag hS)
theorem q_s_if_icmp_le (C : q_Cx D ca B sp sio p R s m args meth cd M d c0 h0) {c pc n : Nat} {ls st : List Value} {h : q_H} {off : Int} (hdg : decode (q_b M) pc = .ok (.if_icmp .le off, n))
    (hh : q_ins (q_cll d) M (q_X D ca B sp sio p l e R s m args below meth cd c0 h0 Qf) Q c pc (.if_icmp .le off) n ls st h) : q_X D ca B sp sio p l e R s m args below meth cd c0 h0 Qf c pc ls st h := by
  intro hc LS H locs hL hlen hP hag hS
  obtain ⟨hx, hb, hml, hown, hts, hTb, hSp0, hBs, hsio, hnm, hfr, hlo, hce, hsl⟩ := C
  obtain ⟨rfl, ht, hh⟩ := hh
  obtain ⟨y, r1, rfl, hh2⟩ := q_pI_e hh
  obtain ⟨x, r, rfl, hX⟩ := q_pI_e hh2
  exact lv_icmp_le (tgt := q_tg pc off) hx hb hdg (by unfold q_tg; omega) (fun z => by rw [if_pos z] at hX; exact hX hc LS H locs hL hlen hP hag hS) (fun z => by rw [if_neg z] at hX; exact hX hc LS H locs hL hlen hP hag hS)
theorem q_s_ifnull (C : q_Cx D ca B sp sio p R s m args meth cd M d c0 h0) {c pc n : Nat} {ls st : List Value} {h : q_H} {off : Int} (hdg : decode (q_b M) pc = .ok (.ifnull off, n))
    (hh : q_ins (q_cll d) M (q_X D ca B sp sio p l e R s m args below meth cd c0 h0 Qf) Q c pc (.ifnull off) n ls st h) : q_X D ca B sp sio p l e R s m args below meth cd c0 h0 Qf c pc ls st h := by
  intro hc LS H locs hL hlen hP hag hS
  obtain ⟨hx, hb, hml, hown, hts, hTb, hSp0, hBs, hsio, hnm, hfr, hlo, hce, hsl⟩ := C
  obtain ⟨rfl, ht, hh⟩ := hh
  rcases q_pA_e hh with ⟨x, r, rfl, hr, hX⟩ | ⟨r, rfl, -, hX⟩
  · have hr : 32 ≤ x := hr
    rw [if_neg (by intro z; cases z)] at hX
    show W p l e R s m args below meth cd H locs (c0 - c) (1200 * (c0 - c)) Qf (F0 m pc LS (q_rv B sp sio (.ref x) :: r.map (q_rv B sp sio)))
    rw [q_rv_ref (a := x) (by omega)]
    exact lv_ifnull hx hb hdg (hX hc LS H locs hL hlen hP hag hS)
  · rw [if_pos rfl] at hX
    exact lv_ifnullN (tgt := q_tg pc off) hx hb hdg (by unfold q_tg; omega) (hX hc LS H locs hL hlen hP hag hS)
theorem q_s_ifnonnull (C : q_Cx D ca B sp sio p R s m args meth cd M d c0 h0) {c pc n : Nat} {ls st : List Value} {h : q_H} {off : Int} (hdg : decode (q_b M) pc = .ok (.ifnonnull off, n))
    (hh : q_ins (q_cll d) M (q_X D ca B sp sio p l e R s m args below meth cd c0 h0 Qf) Q c pc (.ifnonnull off) n ls st h) : q_X D ca B sp sio p l e R s m args below meth cd c0 h0 Qf c pc ls st h := by
  intro hc LS H locs hL hlen hP hag hS
  obtain ⟨hx, hb, hml, hown, hts, hTb, hSp0, hBs, hsio, hnm, hfr, hlo, hce, hsl⟩ := C
  obtain ⟨rfl, ht, hh⟩ := hh
  rcases q_pA_e hh with ⟨x, r, rfl, hr, hX⟩ | ⟨r, rfl, -, hX⟩
  · have hr : 32 ≤ x := hr
    rw [if_neg (by intro z; cases z)] at hX
    show W p l e R s m args below meth cd H locs (c0 - c) (1200 * (c0 - c)) Qf (F0 m pc LS (q_rv B sp sio (.ref x) :: r.map (q_rv B sp sio)))
    rw [q_rv_ref (a := x) (by omega)]
    exact lv_ifnonnull (tgt := q_tg pc off) hx hb hdg (by unfold q_tg; omega) (hX hc LS H locs hL hlen hP hag hS)
  · rw [if_pos rfl] at hX
    exact lv_ifnonnullN hx hb hdg (hX hc LS H locs hL hlen hP hag hS)
theorem q_s_tableswitch (C : q_Cx D ca B sp sio p R s m args meth cd M d c0 h0) {c pc n : Nat} {ls st : List Value} {h : q_H} {df lo hi : Int} {offs : Array Int} (hdg : decode (q_b M) pc = .ok (.tableswitch df lo hi offs, n))
    (hh : q_ins (q_cll d) M (q_X D ca B sp sio p l e R s m args below meth cd c0 h0 Qf) Q c pc (.tableswitch df lo hi offs) n ls st h) : q_X D ca B sp sio p l e R s m args below meth cd c0 h0 Qf c pc ls st h := by
  intro hc LS H locs hL hlen hP hag hS
  obtain ⟨hx, hb, hml, hown, hts, hTb, hSp0, hBs, hsio, hnm, hfr, hlo, hce, hsl⟩ := C
  obtain ⟨x, r, rfl, hX⟩ := q_pI_e hh
  by_cases hz : x.toInt < lo ∨ hi < x.toInt
  · rw [if_pos hz] at hX
    obtain ⟨ht, hX⟩ := hX
    exact lv_tableOut (tgt := q_tg pc df) hx hb hdg hz (by unfold q_tg; omega) (hX hc LS H locs hL hlen hP hag hS)
  · rw [if_neg hz] at hX
    obtain ⟨off, ho, ht, hX⟩ := q_o_e hX
    exact lv_tableIn (tgt := q_tg pc off) hx hb hdg (fun q => hz (Or.inl q)) (fun q => hz (Or.inr q)) ho (by unfold q_tg; omega) (hX hc LS H locs hL hlen hP hag hS)
theorem q_s_lookupswitch (C : q_Cx D ca B sp sio p R s m args meth cd M d c0 h0) {c pc n : Nat} {ls st : List Value} {h : q_H} {df : Int} {ps : Array (Int × Int)} (hdg : decode (q_b M) pc = .ok (.lookupswitch df ps, n))
    (hh : q_ins (q_cll d) M (q_X D ca B sp sio p l e R s m args below meth cd c0 h0 Qf) Q c pc (.lookupswitch df ps) n ls st h) : q_X D ca B sp sio p l e R s m args below meth cd c0 h0 Qf c pc ls st h := by
  intro hc LS H locs hL hlen hP hag hS
  obtain ⟨hx, hb, hml, hown, hts, hTb, hSp0, hBs, hsio, hnm, hfr, hlo, hce, hsl⟩ := C
  obtain ⟨x, r, rfl, ⟨hp, ht⟩, hX⟩ := q_pI_e hh
  exact lv_lookup (tgt := q_tg pc (Op.lookupswitch.offset ps.toList df x.toInt)) hx hb hdg hp rfl (by unfold q_tg; omega) (hX hc LS H locs hL hlen hP hag hS)
theorem q_s_ldc (C : q_Cx D ca B sp sio p R s m args meth cd M d c0 h0) {c pc n : Nat} {ls st : List Value} {h : q_H} {k : Nat} (hdg : decode (q_b M) pc = .ok (.ldc k, n))
    (hh : q_ins (q_cll d) M (q_X D ca B sp sio p l e R s m args below meth cd c0 h0 Qf) Q c pc (.ldc k) n ls st h) : q_X D ca B sp sio p l e R s m args below meth cd c0 h0 Qf c pc ls st h := by
  intro hc LS H locs hL hlen hP hag hS
  obtain ⟨hx, hb, hml, hown, hts, hTb, hSp0, hBs, hsio, hnm, hfr, hlo, hce, hsl⟩ := C
  obtain ⟨rfl, hh⟩ := hh
  unfold q_oe at hh
  split at hh
  · rename_i ev he
    exact lv_ldc hx hb hown (hts _ (q_ki_ok he)) hdg (hh hc LS H locs hL hlen hP hag hS)
  · obtain ⟨j, hj, hX⟩ := q_o_e hh
    unfold q_ks at hj
    obtain ⟨hj1, hj2, -⟩ := List.findIdx?_eq_some_iff_getElem.mp hj
    simp only [Bool.and_eq_true, beq_iff_eq] at hj2
    have hR := hTb.2.2.2 j _ (List.getElem?_eq_getElem hj1)
    rw [hj2.1, hj2.2] at hR
    have hlt : j < 13 := hj1
    refine va_ldcS hx hb hown hR hdg ?_
    have hX := hX hc LS H locs hL hlen hP hag hS
    have e1 : q_rv B sp sio (.ref (3 + j)) = .ref (sp (3 + j)) := by
      rw [q_rv_ref (by omega)]; unfold q_ad; rw [if_pos (by omega)]
    have hX : W p l e R s m args below meth cd H locs (c0 - c) (1200 * (c0 - c)) Qf (F0 m (pc + 2) LS (q_rv B sp sio (.ref (3 + j)) :: st.map (q_rv B sp sio))) := hX
    rw [e1] at hX
    exact hX
theorem q_s_ldc_w (C : q_Cx D ca B sp sio p R s m args meth cd M d c0 h0) {c pc n : Nat} {ls st : List Value} {h : q_H} {k : Nat} (hdg : decode (q_b M) pc = .ok (.ldc_w k, n))
    (hh : q_ins (q_cll d) M (q_X D ca B sp sio p l e R s m args below meth cd c0 h0 Qf) Q c pc (.ldc_w k) n ls st h) : q_X D ca B sp sio p l e R s m args below meth cd c0 h0 Qf c pc ls st h := by
  intro hc LS H locs hL hlen hP hag hS
  obtain ⟨hx, hb, hml, hown, hts, hTb, hSp0, hBs, hsio, hnm, hfr, hlo, hce, hsl⟩ := C
  obtain ⟨rfl, hh⟩ := hh
  obtain ⟨ev, he, hX⟩ := q_o_e hh
  exact lv_ldcw hx hb hown (hts _ (q_ki_ok he)) hdg (hX hc LS H locs hL hlen hP hag hS)
theorem q_s_ldc2_w (C : q_Cx D ca B sp sio p R s m args meth cd M d c0 h0) {c pc n : Nat} {ls st : List Value} {h : q_H} {k : Nat} (hdg : decode (q_b M) pc = .ok (.ldc2_w k, n))
    (hh : q_ins (q_cll d) M (q_X D ca B sp sio p l e R s m args below meth cd c0 h0 Qf) Q c pc (.ldc2_w k) n ls st h) : q_X D ca B sp sio p l e R s m args below meth cd c0 h0 Qf c pc ls st h := by
  intro hc LS H locs hL hlen hP hag hS
  obtain ⟨hx, hb, hml, hown, hts, hTb, hSp0, hBs, hsio, hnm, hfr, hlo, hce, hsl⟩ := C
  obtain ⟨rfl, hh⟩ := hh
  obtain ⟨ev, he, hX⟩ := q_o_e hh
  exact lv_ldc2 hx hb hown (hts _ (q_kj_ok he)) hdg (hX hc LS H locs hL hlen hP hag hS)
end QS
