theorem q_c_mem {t i : Nat} {x : Nat × Nat × Nat × Nat × Nat × Nat × Nat} (h : q_c t i = some x) : (t, i, x) ∈ q_cT := q_find h
theorem q_c_mok {t i md M n p1 p2 p3 p4 : Nat} (h : q_c t i = some (md, M, n, p1, p2, p3, p4)) (hm : md < 4) : q_mok M := q_Ms_ok _ (q_cT_ms _ (q_c_mem h) hm)
theorem q_c_all {t i md M n p1 p2 p3 p4 : Nat} (h : q_c t i = some (md, M, n, p1, p2, p3, p4)) (hm : md < 4) :
    (parseMethodDescriptor (q_y M).desc).map (fun d => d.parameters.length) = some n ∧ Cond.initialized (q_y M).cls ∈ q_gd ∧
    (md = 0 → Cond.methodLink (q_cn t) i (q_y M) ∈ q_gd ∧ Cond.static (q_y M) ∈ q_gd) ∧
    (md = 1 → Cond.methodLink (q_cn t) i (q_y M) ∈ q_gd ∧ Cond.instanceMethod (q_y M) ∈ q_gd ∧ Cond.selects (q_y M).cls (q_y M) (q_y M) ∈ q_gd) ∧
    (md = 2 → Cond.methodLink (q_cn t) i (q_y M) ∈ q_gd ∧ Cond.instanceMethod (q_y M) ∈ q_gd ∧ (q_y M).name = "<init>" ∧ q_rt M = none) ∧
    (md = 3 → Cond.methodLinkNest (q_cn t) i (q_y M) "ComesBack" ∈ lw_tbl ∧ Cond.instanceMethod (q_y M) ∈ q_gd ∧ (q_y M).name = "<init>" ∧ q_rt M = none) := by
  have hc := q_cT_ok _ (q_c_mem h)
  unfold q_ccheck at hc
  dsimp only at hc
  rw [if_neg (by omega), if_neg (by omega), Bool.and_eq_true, Bool.and_eq_true] at hc
  obtain ⟨⟨h1, h2⟩, h3⟩ := hc
  refine ⟨of_decide_eq_true h1, q_gd_pos _ (of_decide_eq_true h2) rfl, fun e => ?_, fun e => ?_, fun e => ?_, fun e => ?_⟩
  · subst e
    rw [if_pos rfl] at h3
    have h3 := of_decide_eq_true h3
    exact ⟨q_gd_pos _ h3.1 rfl, q_gd_pos _ h3.2 rfl⟩
  · subst e
    rw [if_neg (by omega), if_pos rfl] at h3
    have h3 := of_decide_eq_true h3
    exact ⟨q_gd_pos _ h3.1 rfl, q_gd_pos _ h3.2.1 rfl, q_gd_pos _ h3.2.2 rfl⟩
  · subst e
    rw [if_neg (by omega), if_neg (by omega), if_pos rfl] at h3
    have h3 := of_decide_eq_true h3
    exact ⟨q_gd_pos _ h3.1 rfl, q_gd_pos _ h3.2.1 rfl, h3.2.2⟩
  · subst e
    rw [if_neg (by omega), if_neg (by omega), if_neg (by omega)] at h3
    have h3 := of_decide_eq_true h3
    exact ⟨List.mem_of_getElem? h3.1, q_gd_pos _ h3.2.1 rfl, h3.2.2⟩
theorem q_c_4 {t i M n p1 p2 p3 p4 : Nat} (h : q_c t i = some (4, M, n, p1, p2, p3, p4)) : Cond.methodLink (q_cn t) i Lib.objectInit ∈ q_gd := by
  have hc := q_cT_ok _ (q_c_mem h)
  unfold q_ccheck at hc
  dsimp only at hc
  rw [if_pos rfl] at hc
  exact q_gd_pos _ (of_decide_eq_true hc) rfl
theorem q_c_5 {t i M n p1 p2 p3 p4 : Nat} (h : q_c t i = some (5, M, n, p1, p2, p3, p4)) : Cond.methodLink (q_cn t) i arraycopyName ∈ q_gd := by
  have hc := q_cT_ok _ (q_c_mem h)
  unfold q_ccheck at hc
  dsimp only at hc
  rw [if_neg (by omega), if_pos rfl] at hc
  exact q_gd_pos _ (of_decide_eq_true hc) rfl
section QS4
variable {p : Program} {l : Launch} {e : Env} {R : Room} {s : State} {m : MethodId} {args : Array Value} {below : List Frame} {meth : Method} {cd : Code}
variable {D : va_G} {ca : Nat → ClassId} {B : Nat} {sp : Nat → Nat} {sio : Value}
variable {M d c0 : Nat} {h0 : q_H} {Q : Option Value → q_H → Prop} {Qf : State → Prop}
theorem q_cons {H : Heap} {locs : List Loc} {cells slots mc ms pc : Nat} {LS : Array Slot} {st0 rest : List Value} {Q' : Option Value → q_H → Prop} {h : q_H} {a : Array Value}
    (hr : va_Run p l e R s m args below meth cd H locs cells slots mc ms (F0 m pc LS st0) rest (q_Qc D ca B sp sio h Q' a) (q_A B)) (hS : va_S (q_A B) s.heap H locs)
    (kk : ∀ (r : Option Value) (h' : q_H) (H1 : Heap) (locs1 : List Loc), Q' r h' → q_Hp D ca B sp sio H1 h' → q_ag h h' → va_S (q_A B) s.heap H1 locs1 → W p l e R s m args below meth cd H1 locs1 (cells + mc) (slots + ms) Qf (F0 m (pc + 3) LS ((r.map (q_rv B sp sio)).toList ++ rest))) :
    W p l e R s m args below meth cd H locs cells slots Qf (F0 m pc LS st0) := by
  intro T hT X
  obtain ⟨v, st₀, t, T', L, h0', X', hL, e1, e2, ⟨⟨r, h', hv, hq, hp, hag⟩, hz, hk⟩, st⟩ := hr T hT X
  cases hv
  rw [h0'] at hz hk
  obtain ⟨t2, a1, b1⟩ := kk r h' T'.heap (locs ++ L) hq (by rw [e1]; exact hp) hag
    ⟨Nat.le_trans hS.1 (by rw [e1]; exact hz), fun q h1 h2 => by rw [e1, hk q (Nat.lt_of_lt_of_le h1 hS.1) h2]; exact hS.2.1 q h1 h2, fun q hq => by
      rcases List.mem_append.mp hq with h | h
      · exact hS.2.2 q h
      · exact hL q h⟩ T' rfl X'
  exact ⟨t2, st t2 a1, b1⟩
theorem q_ret_map (r : Option Value) (rest : List Value) : (r.map (q_rv B sp sio)).toList ++ rest.map (q_rv B sp sio) = (r.toList ++ rest).map (q_rv B sp sio) := by
  cases r <;> simp
theorem q_pre {H : Heap} {h : q_H} {locs : List Loc} {as : List Value} (hTb : q_Tb D ca sp s) (hSp0 : q_Sp B sp sio s s.heap h0) (hag : q_ag h0 h) (hS : va_S (q_A B) s.heap H locs) (hP : q_Hp D ca B sp sio H h) : ∀ U : State, U.heap = H → s.WarmedH U.vm → q_Pc D ca B sp sio as h (as.map (q_rv B sp sio)).toArray U :=
  fun U hU hW => ⟨rfl, hTb.warm hW, by rw [hU]; exact q_Sp.moved (u := s) hW.alike (fun _ _ _ => rfl) q_ag.rf (q_Sp_now hSp0 hag hS), by rw [hU]; exact hP⟩
/-- what stands behind a call -/
theorem q_after (C : q_Cx D ca B sp sio p R s m args meth cd M d c0 h0) {c pc M' : Nat} {ls rest : List Value} {h : q_H} {LS : Array Slot} {H : Heap} {locs : List Loc} {st0 : List Value} {a : Array Value} (hc : c ≤ c0) (hL : q_LR B sp sio LS ls) (hlen : ls.length = cd.maxLocals) (hag : q_ag h0 h) (hS : va_S (q_A B) s.heap H locs) (hal : q_al M' ≤ c)
    (hr : va_Run p l e R s m args below meth cd H locs (c0 - c) (1200 * (c0 - c)) (q_al M') (1200 * q_al M') (F0 m pc LS st0) (rest.map (q_rv B sp sio)) (q_Qc D ca B sp sio h (fun r h' => q_X D ca B sp sio p l e R s m args below meth cd c0 h0 Qf (c - q_al M') (pc + 3) ls (r.toList ++ rest) h') a) (q_A B)) :
    W p l e R s m args below meth cd H locs (c0 - c) (1200 * (c0 - c)) Qf (F0 m pc LS st0) := by
  refine q_cons hr hS fun r h' H1 locs1 hX hp hag' hS' => ?_
  have hX := hX (by omega) LS H1 locs1 hL hlen hp (hag.tr hag') hS'
  rw [q_ret_map]
  have e1 : c0 - c + q_al M' = c0 - (c - q_al M') := by omega
  have e2 : 1200 * (c0 - c) + 1200 * q_al M' = 1200 * (c0 - (c - q_al M')) := by omega
  rw [e1, e2]
  exact hX
theorem q_stk (st : List Value) (n : Nat) : st.map (q_rv B sp sio) = (((st.take n).reverse).map (q_rv B sp sio)).reverse ++ (st.drop n).map (q_rv B sp sio) := by
  rw [List.map_reverse, List.reverse_reverse, ← List.map_append, List.take_append_drop]
theorem q_room {cs sl c M' : Nat} (C : q_Cx D ca B sp sio p R s m args meth cd M d c0 h0) (hm : q_mok M') : (q_rm d c).frames + 1 ≤ R.frames ∧ 8 + (q_ml M' + 11) + (q_rm d c).locals ≤ R.locals := by
  obtain ⟨-, -, -, -, -, -, -, -, -, -, hfr, hlo, -, -⟩ := C
  have := hm.2.1
  exact ⟨hfr, by show 8 + (q_ml M' + 11) + 60 * d ≤ R.locals; omega⟩
theorem q_callS (C : q_Cx D ca B sp sio p R s m args meth cd M d c0 h0) (hI : q_IH D ca B sp sio l d) {c pc i M' n p1 p2 p3 p4 : Nat} {ls st : List Value} {h : q_H} (hdg : decode (q_b M) pc = .ok (.invokestatic i, 3)) (he : q_c (M / 1000) i = some (0, M', n, p1, p2, p3, p4)) (hn : n ≤ st.length)
    (hh : q_call (q_cll d) (q_X D ca B sp sio p l e R s m args below meth cd c0 h0 Qf) c pc ls h M' (st.take n).reverse (st.drop n)) : q_X D ca B sp sio p l e R s m args below meth cd c0 h0 Qf c pc ls st h := by
  intro hc LS H locs hL hlen hP hag hS
  have C0 := C
  obtain ⟨hx, hb, hml, hown, hts, hTb, hSp0, hBs, hsio, hnm, hfr, hlo, hce, hsl⟩ := C
  obtain ⟨hr8, hfit, hal, hw⟩ := hh
  have hmo := q_c_mok he (by omega)
  obtain ⟨w1, w2, w3, -⟩ := q_c_all he (by omega)
  have hM := hI M' (q_al M') _ h _ hmo hfit hw
  have cw := callB_of (R := R) n hts (q_W_good hmo) rfl rfl rfl (hts _ w2) (hts _ (w3 rfl).1) ⟨hmo.2.2.2.2.1, hmo.2.2.2.2.2, w1⟩ (q_room (cs := 0) (sl := 0) (c := q_al M') C0 hmo)
  refine q_after C0 (rest := st.drop n) hc hL hlen hag hS hal (va_runS (As := ((st.take n).reverse).map (q_rv B sp sio)) ⟨hx, hb, hml, hown, hts⟩ hM ⟨cw, hts _ (w3 rfl).2⟩ ⟨q_Pc_blind, q_pre hTb hSp0 hag hS hP⟩ rfl ?_ ?_ ?_ ?_ hdg ⟨by omega, by omega⟩)
  · rw [List.length_map, List.length_reverse, List.length_take]; omega
  · show LS.size = q_ml M; rw [hL.1, hlen, hml]
  · exact q_stk st n
  · exact lv_room (by rw [q_cs_map hsio]; exact hr8)
theorem q_callV (C : q_Cx D ca B sp sio p R s m args meth cd M d c0 h0) (hI : q_IH D ca B sp sio l d) {c pc i M' n p1 p2 p3 p4 b : Nat} {ls st r : List Value} {h : q_H} (hdg : decode (q_b M) pc = .ok (.invokevirtual i, 3)) (he : q_c (M / 1000) i = some (1, M', n, p1, p2, p3, p4)) (hn : n ≤ st.length) (hb : st.drop n = .ref b :: r)
    (hrc : if b < 32 then (3 ≤ b ∧ b < 16) ∧ M' / 1000 = 11 else (h.2.2.2.1 b).1 < 9 ∧ M' / 1000 = (h.2.2.2.1 b).1)
    (hh : q_call (q_cll d) (q_X D ca B sp sio p l e R s m args below meth cd c0 h0 Qf) c pc ls h M' (.ref b :: (st.take n).reverse) r) : q_X D ca B sp sio p l e R s m args below meth cd c0 h0 Qf c pc ls st h := by
  intro hc LS H locs hL hlen hP hag hS
  have C0 := C
  obtain ⟨hx, hbb, hml, hown, hts, hTb, hSp0, hBs, hsio, hnm, hfr, hlo, hce, hsl⟩ := C
  obtain ⟨hr8, hfit, hal, hw⟩ := hh
  have hmo := q_c_mok he (by omega)
  obtain ⟨w1, w2, -, w3, -⟩ := q_c_all he (by omega)
  have hM := hI M' (q_al M') _ h _ hmo hfit hw
  have cw := callB_of (R := R) n hts (q_W_good hmo) rfl rfl rfl (hts _ w2) (hts _ (w3 rfl).1) ⟨hmo.2.2.2.2.1, hmo.2.2.2.2.2, w1⟩ (q_room (cs := 0) (sl := 0) (c := q_al M') C0 hmo)
  have hb29 : b ≠ 29 := by
    intro z; subst z
    rw [if_pos (by omega)] at hrc
    omega
  have erv : q_rv B sp sio (.ref b) = .ref (q_ad B sp b) := q_rv_ref hb29
  have hcell : ∃ cellB : Cell, H[q_ad B sp b]? = some cellB ∧ cellB.vm.isStatics = false ∧ s.vm.findClass (q_y M').cls = some cellB.cls := by
    rw [hmo.2.2.1]
    by_cases h32 : b < 32
    · rw [if_pos h32] at hrc
      obtain ⟨-, -, s3, -, -⟩ := q_Sp_now hSp0 hag hS
      obtain ⟨-, ⟨cell, g1, g2, g3, -⟩, -, -⟩ := s3 b hrc.1.1 hrc.1.2
      refine ⟨cell, ?_, g2, ?_⟩
      · unfold q_ad; rw [if_pos h32]; exact g1
      · rw [hrc.2]; exact g3
    · rw [if_neg h32] at hrc
      obtain ⟨cell, g1, g2, g3, -⟩ := q_obj hP (by omega) rfl hrc.1
      refine ⟨cell, g1, by rw [g3]; rfl, ?_⟩
      rw [hrc.2, g2]
      exact (hTb.1.1 _ _ (q_cl9 _ hrc.1)).2.1
  have hpre : ∀ U : State, U.heap = H → s.WarmedH U.vm → q_Pc D ca B sp sio (.ref b :: (st.take n).reverse) h (Value.ref (q_ad B sp b) :: ((st.take n).reverse).map (q_rv B sp sio)).toArray U := by
    rw [← erv]
    exact q_pre hTb hSp0 hag hS hP
  have hM2 := va_runV (l := l) (e := e) (below := below) (meth := meth) (c := cd) (locs := locs) (cells := c0 - c) (slots := 1200 * (c0 - c)) (As := ((st.take n).reverse).map (q_rv B sp sio)) (rest := r.map (q_rv B sp sio)) (b := q_ad B sp b) (g := F0 m pc LS (st.map (q_rv B sp sio))) ⟨hx, hbb, hml, hown, hts⟩ hM ⟨cw, hts _ (w3 rfl).2.1, hts _ (w3 rfl).2.2⟩ ⟨q_Pc_blind, hcell, hpre⟩ rfl (by rw [List.length_map, List.length_reverse, List.length_take]; omega) (show LS.size = q_ml M by rw [hL.1, hlen, hml]) (by
      show st.map (q_rv B sp sio) = _
      rw [q_stk st n, hb, List.map_cons, erv]) (lv_room (by rw [q_cs_map hsio]; exact hr8)) hdg ⟨by omega, by omega⟩
  exact q_after C0 (rest := r) hc hL hlen hag hS hal hM2
theorem q_callI (C : q_Cx D ca B sp sio p R s m args meth cd M d c0 h0) (hI : q_IH D ca B sp sio l d) {c pc i md M' n p1 p2 p3 p4 b : Nat} {ls st r : List Value} {h : q_H} (hdg : decode (q_b M) pc = .ok (.invokespecial i, 3)) (he : q_c (M / 1000) i = some (md, M', n, p1, p2, p3, p4)) (hmd : md = 2 ∨ md = 3) (hn : n ≤ st.length) (hb : st.drop n = .ref b :: r) (hb32 : 32 ≤ b)
    (hh : q_call (q_cll d) (q_X D ca B sp sio p l e R s m args below meth cd c0 h0 Qf) c pc ls h M' (.ref b :: (st.take n).reverse) r) : q_X D ca B sp sio p l e R s m args below meth cd c0 h0 Qf c pc ls st h := by
  intro hc LS H locs hL hlen hP hag hS
  have C0 := C
  obtain ⟨hx, hbb, hml, hown, hts, hTb, hSp0, hBs, hsio, hnm, hfr, hlo, hce, hsl⟩ := C
  obtain ⟨hr8, hfit, hal, hw⟩ := hh
  have hmo := q_c_mok he (by omega)
  obtain ⟨w1, w2, -, -, w4, w5⟩ := q_c_all he (by omega)
  have hM := hI M' (q_al M') _ h _ hmo hfit hw
  have erv : q_rv B sp sio (.ref b) = .ref (q_ad B sp b) := q_rv_ref (by omega)
  have hpre : ∀ U : State, U.heap = H → s.WarmedH U.vm → q_Pc D ca B sp sio (.ref b :: (st.take n).reverse) h (Value.ref (q_ad B sp b) :: ((st.take n).reverse).map (q_rv B sp sio)).toArray U := by
    rw [← erv]
    exact q_pre hTb hSp0 hag hS hP
  have hst : (F0 m pc LS (st.map (q_rv B sp sio))).stack = (((st.take n).reverse).map (q_rv B sp sio)).reverse ++ .ref (q_ad B sp b) :: r.map (q_rv B sp sio) := by
    show st.map (q_rv B sp sio) = _
    rw [q_stk st n, hb, List.map_cons, erv]
  have hwrt : q_rt M' = none := by
    rcases hmd with e1 | e1
    · exact (w4 e1).2.2.2
    · exact (w5 e1).2.2.2
  have hWe : q_W M' = Cond.code (q_y M') (q_b M') (q_ml M') none :: q_gd := by unfold q_W; rw [hwrt]
  rcases hmd with e1 | e1
  · have cw := callB_of (R := R) (ret := none) n hts (q_W_good hmo) hWe rfl rfl (hts _ w2) (hts _ (w4 e1).1) ⟨hmo.2.2.2.2.1, hmo.2.2.2.2.2, w1⟩ (q_room (cs := 0) (sl := 0) (c := q_al M') C0 hmo)
    have hM2 := va_runI (l := l) (e := e) (below := below) (meth := meth) (c := cd) (locs := locs) (cells := c0 - c) (slots := 1200 * (c0 - c)) (As := ((st.take n).reverse).map (q_rv B sp sio)) (rest := r.map (q_rv B sp sio)) (b := q_ad B sp b) (g := F0 m pc LS (st.map (q_rv B sp sio))) ⟨hx, hbb, hml, hown, hts⟩ hM ⟨cw, (w4 e1).2.2.1, hts _ (w4 e1).2.1⟩ ⟨q_Pc_blind, hpre⟩ rfl (by rw [List.length_map, List.length_reverse, List.length_take]; omega) (show LS.size = q_ml M by rw [hL.1, hlen, hml]) hst (lv_room (by rw [q_cs_map hsio]; exact hr8)) hdg ⟨by omega, by omega⟩
    exact q_after C0 (rest := r) hc hL hlen hag hS hal hM2
  · have cw := va_cnB (R := R) (ret := none) n hts (q_W_good hmo) hWe rfl rfl (va_Nw.of rfl (hTb.2.2.1 _ (w5 e1).1 rfl)) (hts _ w2) ⟨hmo.2.2.2.2.1, hmo.2.2.2.2.2, w1⟩ (q_room (cs := 0) (sl := 0) (c := q_al M') C0 hmo)
    have hM2 := va_runIN (l := l) (e := e) (below := below) (meth := meth) (c := cd) (locs := locs) (cells := c0 - c) (slots := 1200 * (c0 - c)) (As := ((st.take n).reverse).map (q_rv B sp sio)) (rest := r.map (q_rv B sp sio)) (b := q_ad B sp b) (g := F0 m pc LS (st.map (q_rv B sp sio))) ⟨hx, hbb, hml, hown, hts⟩ hM ⟨cw, (w5 e1).2.2.1, hts _ (w5 e1).2.1⟩ ⟨q_Pc_blind, hpre⟩ rfl (by rw [List.length_map, List.length_reverse, List.length_take]; omega) (show LS.size = q_ml M by rw [hL.1, hlen, hml]) hst (lv_room (by rw [q_cs_map hsio]; exact hr8)) hdg ⟨by omega, by omega⟩
    exact q_after C0 (rest := r) hc hL hlen hag hS hal hM2
end QS4
