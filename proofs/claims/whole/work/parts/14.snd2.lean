section QS2
variable {p : Program} {l : Launch} {e : Env} {R : Room} {s : State} {m : MethodId} {args : Array Value} {below : List Frame} {meth : Method} {cd : Code}
variable {D : va_G} {ca : Nat → ClassId} {B : Nat} {sp : Nat → Nat} {sio : Value}
variable {M d c0 : Nat} {h0 : q_H} {Q : Option Value → q_H → Prop} {Qf : State → Prop}
theorem q_Sp_now {H : Heap} {h : q_H} {locs : List Loc} (hSp : q_Sp B sp sio s s.heap h0) (hag : q_ag h0 h) (hS : va_S (q_A B) s.heap H locs) : q_Sp B sp sio s H h := q_Sp.moved (Vm.Alike.refl _) (fun a h1 h2 => hS.2.1 a h1 h2) hag hSp
theorem q_A_ad {a : Nat} (h : 32 ≤ a) : q_A B (q_ad B sp a) := by rw [q_ad_ge h]; exact Nat.le_add_right _ _
theorem q_ag_up {h h1 : q_H} {a : Nat} (hag : q_ag h0 h) (ha : 32 ≤ a) (hI : ∀ b, b ≠ a → h1.1 b = h.1 b) (hK : h1.2.2.2.1 = h.2.2.2.1) : q_ag h0 h1 := fun b hb => ⟨(hI b (by omega)).trans (hag b hb).1, by rw [hK]; exact (hag b hb).2⟩
theorem q_up_ne {α : Type} {f : Nat → Nat → α} {a k b : Nat} {v : α} (h : b ≠ a) : q_up f a k v b = f b := by
  funext j; unfold q_up; rw [if_neg (fun q => h q.1)]
theorem q_up_eq {α : Type} {f : Nat → Nat → α} {a k j : Nat} {v : α} : q_up f a k v a j = if j = k then v else f a j := by
  unfold q_up; simp
theorem q_nw_ne {α : Type} {f : Nat → α} {a b : Nat} {v : α} (h : b ≠ a) : q_nw f a v b = f b := if_neg h
theorem q_nw_eq {α : Type} {f : Nat → α} {a : Nat} {v : α} : q_nw f a v a = v := if_pos rfl
theorem q_s_iaload (C : q_Cx D ca B sp sio p R s m args meth cd M d c0 h0) {c pc n : Nat} {ls st : List Value} {h : q_H} (hdg : decode (q_b M) pc = .ok (.iaload, n))
    (hh : q_ins (q_cll d) M (q_X D ca B sp sio p l e R s m args below meth cd c0 h0 Qf) Q c pc (.iaload) n ls st h) : q_X D ca B sp sio p l e R s m args below meth cd c0 h0 Qf c pc ls st h := by
  intro hc LS H locs hL hlen hP hag hS
  obtain ⟨hx, hb, hml, hown, hts, hTb, hSp0, hBs, hsio, hnm, hfr, hlo, hce, hsl⟩ := C
  obtain ⟨rfl, hh⟩ := hh
  obtain ⟨i, r1, rfl, hh2⟩ := q_pI_e hh
  obtain ⟨a, r, rfl, ⟨hk, hin⟩, hX⟩ := q_pR_e hh2
  obtain ⟨hne, cell, g1, g2, g3, g4, g5, g6⟩ := q_arr hP (q_Sp_now hSp0 hag hS) hTb.2.1 hk (by omega) (by omega)
  show W p l e R s m args below meth cd H locs (c0 - c) (1200 * (c0 - c)) Qf (F0 m pc LS (.int i :: q_rv B sp sio (.ref a) :: r.map (q_rv B sp sio)))
  rw [q_rv_ref hne]
  refine W.iald (v := .int (h.1 a i.toNatClampNeg)) hx hb g1 g2 g3 (q_in_of hin g4) ?_ rfl rfl hdg (hX hc LS H locs hL hlen hP hag hS)
  rw [g6 _ (q_in_lt hin)]; unfold q_cv; rw [hk]; rfl
theorem q_s_baload (C : q_Cx D ca B sp sio p R s m args meth cd M d c0 h0) {c pc n : Nat} {ls st : List Value} {h : q_H} (hdg : decode (q_b M) pc = .ok (.baload, n))
    (hh : q_ins (q_cll d) M (q_X D ca B sp sio p l e R s m args below meth cd c0 h0 Qf) Q c pc (.baload) n ls st h) : q_X D ca B sp sio p l e R s m args below meth cd c0 h0 Qf c pc ls st h := by
  intro hc LS H locs hL hlen hP hag hS
  obtain ⟨hx, hb, hml, hown, hts, hTb, hSp0, hBs, hsio, hnm, hfr, hlo, hce, hsl⟩ := C
  obtain ⟨rfl, hh⟩ := hh
  obtain ⟨i, r1, rfl, hh2⟩ := q_pI_e hh
  obtain ⟨a, r, rfl, ⟨hk, hin⟩, hX⟩ := q_pR_e hh2
  obtain ⟨hne, cell, g1, g2, g3, g4, g5, g6⟩ := q_arr hP (q_Sp_now hSp0 hag hS) hTb.2.1 hk (by omega) (by omega)
  show W p l e R s m args below meth cd H locs (c0 - c) (1200 * (c0 - c)) Qf (F0 m pc LS (.int i :: q_rv B sp sio (.ref a) :: r.map (q_rv B sp sio)))
  rw [q_rv_ref hne]
  refine W.bald (v := .int (h.1 a i.toNatClampNeg)) hx hb g1 g2 g3 (q_in_of hin g4) ?_ rfl rfl hdg (hX hc LS H locs hL hlen hP hag hS)
  rw [g6 _ (q_in_lt hin)]; unfold q_cv; rw [hk]; rfl
theorem q_s_laload (C : q_Cx D ca B sp sio p R s m args meth cd M d c0 h0) {c pc n : Nat} {ls st : List Value} {h : q_H} (hdg : decode (q_b M) pc = .ok (.laload, n))
    (hh : q_ins (q_cll d) M (q_X D ca B sp sio p l e R s m args below meth cd c0 h0 Qf) Q c pc (.laload) n ls st h) : q_X D ca B sp sio p l e R s m args below meth cd c0 h0 Qf c pc ls st h := by
  intro hc LS H locs hL hlen hP hag hS
  obtain ⟨hx, hb, hml, hown, hts, hTb, hSp0, hBs, hsio, hnm, hfr, hlo, hce, hsl⟩ := C
  obtain ⟨rfl, hh⟩ := hh
  obtain ⟨i, r1, rfl, hh2⟩ := q_pI_e hh
  obtain ⟨a, r, rfl, ⟨ha, hk, hin⟩, hX⟩ := q_pR_e hh2
  obtain ⟨hne, cell, g1, g2, g3, g4, g5, g6⟩ := q_arr hP (q_Sp_now hSp0 hag hS) hTb.2.1 hk (by omega) (by omega)
  show W p l e R s m args below meth cd H locs (c0 - c) (1200 * (c0 - c)) Qf (F0 m pc LS (.int i :: q_rv B sp sio (.ref a) :: r.map (q_rv B sp sio)))
  rw [q_rv_ref hne]
  refine W.lald (v := .long (h.2.1 a i.toNatClampNeg)) hx hb g1 g2 g3 (q_in_of hin g4) ?_ rfl rfl hdg (hX hc LS H locs hL hlen hP hag hS)
  rw [g6 _ (q_in_lt hin)]; unfold q_cv; rw [hk]; rfl
theorem q_s_aaload (C : q_Cx D ca B sp sio p R s m args meth cd M d c0 h0) {c pc n : Nat} {ls st : List Value} {h : q_H} (hdg : decode (q_b M) pc = .ok (.aaload, n))
    (hh : q_ins (q_cll d) M (q_X D ca B sp sio p l e R s m args below meth cd c0 h0 Qf) Q c pc (.aaload) n ls st h) : q_X D ca B sp sio p l e R s m args below meth cd c0 h0 Qf c pc ls st h := by
  intro hc LS H locs hL hlen hP hag hS
  obtain ⟨hx, hb, hml, hown, hts, hTb, hSp0, hBs, hsio, hnm, hfr, hlo, hce, hsl⟩ := C
  obtain ⟨rfl, hh⟩ := hh
  obtain ⟨i, r1, rfl, hh2⟩ := q_pI_e hh
  obtain ⟨a, r, rfl, ⟨ha, hk, hin⟩, hX⟩ := q_pR_e hh2
  obtain ⟨hne, cell, g1, g2, g3, g4, g5, g6⟩ := q_arr (k := (h.2.2.2.1 a).1) hP (q_Sp_now hSp0 hag hS) hTb.2.1 rfl (by omega) (by omega)
  have hv := (q_arrN (k := (h.2.2.2.1 a).1) hP ha rfl (by omega) (by omega)).2
  show W p l e R s m args below meth cd H locs (c0 - c) (1200 * (c0 - c)) Qf (F0 m pc LS (.int i :: q_rv B sp sio (.ref a) :: r.map (q_rv B sp sio)))
  rw [q_rv_ref hne]
  refine W.aald (v := q_rv B sp sio (va_rf (h.2.2.1 a i.toNatClampNeg))) (ty := q_aty (h.2.2.2.1 a).1) hx hb g1 g2 ?_ g3 (q_in_of hin g4) ?_ rfl rfl hdg (hX hc LS H locs hL hlen hP hag hS)
  · unfold q_aty
    rw [if_neg (by omega), if_neg (by omega), if_neg (by omega)]
    split <;> rfl
  · rw [g6 _ (q_in_lt hin)]; unfold q_cv; rw [if_neg (by omega), if_neg (by omega)]
theorem q_s_arraylength (C : q_Cx D ca B sp sio p R s m args meth cd M d c0 h0) {c pc n : Nat} {ls st : List Value} {h : q_H} (hdg : decode (q_b M) pc = .ok (.arraylength, n))
    (hh : q_ins (q_cll d) M (q_X D ca B sp sio p l e R s m args below meth cd c0 h0 Qf) Q c pc (.arraylength) n ls st h) : q_X D ca B sp sio p l e R s m args below meth cd c0 h0 Qf c pc ls st h := by
  intro hc LS H locs hL hlen hP hag hS
  obtain ⟨hx, hb, hml, hown, hts, hTb, hSp0, hBs, hsio, hnm, hfr, hlo, hce, hsl⟩ := C
  obtain ⟨rfl, hh⟩ := hh
  obtain ⟨a, r, rfl, hk, hX⟩ := q_pR_e hh
  obtain ⟨hne, cell, g1, g2, g3, g4, g5, g6⟩ := q_arr (k := (h.2.2.2.1 a).1) hP (q_Sp_now hSp0 hag hS) hTb.2.1 rfl (by omega) (by omega)
  show W p l e R s m args below meth cd H locs (c0 - c) (1200 * (c0 - c)) Qf (F0 m pc LS (q_rv B sp sio (.ref a) :: r.map (q_rv B sp sio)))
  rw [q_rv_ref hne]
  exact W.alen hx hb g1 g2 g5 rfl rfl hdg (hX hc LS H locs hL hlen hP hag hS)
theorem q_s_iastore (C : q_Cx D ca B sp sio p R s m args meth cd M d c0 h0) {c pc n : Nat} {ls st : List Value} {h : q_H} (hdg : decode (q_b M) pc = .ok (.iastore, n))
    (hh : q_ins (q_cll d) M (q_X D ca B sp sio p l e R s m args below meth cd c0 h0 Qf) Q c pc (.iastore) n ls st h) : q_X D ca B sp sio p l e R s m args below meth cd c0 h0 Qf c pc ls st h := by
  intro hc LS H locs hL hlen hP hag hS
  obtain ⟨hx, hb, hml, hown, hts, hTb, hSp0, hBs, hsio, hnm, hfr, hlo, hce, hsl⟩ := C
  obtain ⟨rfl, hh⟩ := hh
  obtain ⟨v, r1, rfl, hh2⟩ := q_pI_e hh
  obtain ⟨i, r2, rfl, hh3⟩ := q_pI_e hh2
  obtain ⟨a, r, rfl, ⟨ha, hk, hin⟩, hX⟩ := q_pR_e hh3
  have hcell := (q_arrN hP ha hk (by omega) (by omega)).1
  have harr := (hTb.2.1 100 (by omega)).1 (h.2.2.2.1 a).2 (fun j => q_cv B sp sio h a j)
  show W p l e R s m args below meth cd H locs (c0 - c) (1200 * (c0 - c)) Qf (F0 m pc LS (.int v :: .int i :: q_rv B sp sio (.ref a) :: r.map (q_rv B sp sio)))
  rw [q_rv_ref (a := a) (by omega)]
  refine W.iast hx hb hcell harr q_ArrOf_vm (by rw [arrV_size]; exact hin) rfl rfl hdg fun H' e1 e2 e3 => ?_
  refine hX hc LS H' _ hL hlen (q_Hp_put (h1' := (q_up h.1 a i.toNatClampNeg v, h.2)) (v := .int v) hP ha hk (by omega) (by omega) rfl (fun b hb => ⟨q_up_ne hb, rfl, rfl⟩) (fun j => ?_) e2 e3 e1) (q_ag_up hag ha (fun b hb => q_up_ne hb) rfl) (hS.put e2 e3 (q_A_ad ha))
  by_cases ej : j = i.toNatClampNeg
  · simp [q_cv, updV, hk, q_up_eq, ej]
  · simp [q_cv, updV, hk, q_up_eq, ej]
theorem q_s_bastore (C : q_Cx D ca B sp sio p R s m args meth cd M d c0 h0) {c pc n : Nat} {ls st : List Value} {h : q_H} (hdg : decode (q_b M) pc = .ok (.bastore, n))
    (hh : q_ins (q_cll d) M (q_X D ca B sp sio p l e R s m args below meth cd c0 h0 Qf) Q c pc (.bastore) n ls st h) : q_X D ca B sp sio p l e R s m args below meth cd c0 h0 Qf c pc ls st h := by
  intro hc LS H locs hL hlen hP hag hS
  obtain ⟨hx, hb, hml, hown, hts, hTb, hSp0, hBs, hsio, hnm, hfr, hlo, hce, hsl⟩ := C
  obtain ⟨rfl, hh⟩ := hh
  obtain ⟨v, r1, rfl, hh2⟩ := q_pI_e hh
  obtain ⟨i, r2, rfl, hh3⟩ := q_pI_e hh2
  obtain ⟨a, r, rfl, ⟨ha, hk, hin⟩, hX⟩ := q_pR_e hh3
  have hcell := (q_arrN hP ha hk (by omega) (by omega)).1
  have harr := (hTb.2.1 101 (by omega)).1 (h.2.2.2.1 a).2 (fun j => q_cv B sp sio h a j)
  show W p l e R s m args below meth cd H locs (c0 - c) (1200 * (c0 - c)) Qf (F0 m pc LS (.int v :: .int i :: q_rv B sp sio (.ref a) :: r.map (q_rv B sp sio)))
  rw [q_rv_ref (a := a) (by omega)]
  refine W.bast hx hb hcell harr q_ArrOf_vm (by rw [arrV_size]; exact hin) rfl rfl hdg fun H' e1 e2 e3 => ?_
  refine hX hc LS H' _ hL hlen (q_Hp_put (h1' := (q_up h.1 a i.toNatClampNeg v.toInt8.toInt32, h.2)) (v := .int v.toInt8.toInt32) hP ha hk (by omega) (by omega) rfl (fun b hb => ⟨q_up_ne hb, rfl, rfl⟩) (fun j => ?_) e2 e3 (by rw [e1]; rfl)) (q_ag_up hag ha (fun b hb => q_up_ne hb) rfl) (hS.put e2 e3 (q_A_ad ha))
  by_cases ej : j = i.toNatClampNeg
  · simp [q_cv, updV, hk, q_up_eq, ej]
  · simp [q_cv, updV, hk, q_up_eq, ej]
theorem q_s_lastore (C : q_Cx D ca B sp sio p R s m args meth cd M d c0 h0) {c pc n : Nat} {ls st : List Value} {h : q_H} (hdg : decode (q_b M) pc = .ok (.lastore, n))
    (hh : q_ins (q_cll d) M (q_X D ca B sp sio p l e R s m args below meth cd c0 h0 Qf) Q c pc (.lastore) n ls st h) : q_X D ca B sp sio p l e R s m args below meth cd c0 h0 Qf c pc ls st h := by
  intro hc LS H locs hL hlen hP hag hS
  obtain ⟨hx, hb, hml, hown, hts, hTb, hSp0, hBs, hsio, hnm, hfr, hlo, hce, hsl⟩ := C
  obtain ⟨rfl, hh⟩ := hh
  obtain ⟨v, r1, rfl, hh2⟩ := q_pJ_e hh
  obtain ⟨i, r2, rfl, hh3⟩ := q_pI_e hh2
  obtain ⟨a, r, rfl, ⟨ha, hk, hin⟩, hX⟩ := q_pR_e hh3
  have hcell := (q_arrN hP ha hk (by omega) (by omega)).1
  have harr := (hTb.2.1 102 (by omega)).1 (h.2.2.2.1 a).2 (fun j => q_cv B sp sio h a j)
  show W p l e R s m args below meth cd H locs (c0 - c) (1200 * (c0 - c)) Qf (F0 m pc LS (.long v :: .int i :: q_rv B sp sio (.ref a) :: r.map (q_rv B sp sio)))
  rw [q_rv_ref (a := a) (by omega)]
  refine W.last hx hb hcell harr q_ArrOf_vm (by rw [arrV_size]; exact hin) rfl rfl hdg fun H' e1 e2 e3 => ?_
  refine hX hc LS H' _ hL hlen (q_Hp_put (h1' := (h.1, q_up h.2.1 a i.toNatClampNeg v, h.2.2)) (v := .long v) hP ha hk (by omega) (by omega) rfl (fun b hb => ⟨rfl, q_up_ne hb, rfl⟩) (fun j => ?_) e2 e3 e1) (q_ag_up hag ha (fun b hb => rfl) rfl) (hS.put e2 e3 (q_A_ad ha))
  by_cases ej : j = i.toNatClampNeg
  · simp [q_cv, updV, hk, q_up_eq, ej]
  · simp [q_cv, updV, hk, q_up_eq, ej]
theorem q_s_aastore (C : q_Cx D ca B sp sio p R s m args meth cd M d c0 h0) {c pc n : Nat} {ls st : List Value} {h : q_H} (hdg : decode (q_b M) pc = .ok (.aastore, n))
    (hh : q_ins (q_cll d) M (q_X D ca B sp sio p l e R s m args below meth cd c0 h0 Qf) Q c pc (.aastore) n ls st h) : q_X D ca B sp sio p l e R s m args below meth cd c0 h0 Qf c pc ls st h := by
  intro hc LS H locs hL hlen hP hag hS
  obtain ⟨hx, hb, hml, hown, hts, hTb, hSp0, hBs, hsio, hnm, hfr, hlo, hce, hsl⟩ := C
  obtain ⟨rfl, hh⟩ := hh
  obtain ⟨b, r1, rfl, hh2⟩ := q_pR_e hh
  obtain ⟨i, r2, rfl, hh3⟩ := q_pI_e hh2
  obtain ⟨a, r, rfl, ⟨⟨ha, hb32, hbn⟩, hb9, hk, hin⟩, hX⟩ := q_pR_e hh3
  have hk2 := (q_arrN hP ha hk (by omega) (by omega)).2
  have hcell := (q_arrN hP ha hk (by omega) (by omega)).1
  obtain ⟨cellV, v1, v2, v3, -⟩ := q_obj hP hb32 rfl hb9
  have hcls := (hTb.1.1 _ _ (q_cl9 _ hb9)).2
  have hra := (hTb.2.1 _ hk2).2
  have hty : q_aty (110 + (h.2.2.2.1 b).1) = .object (q_cn (h.2.2.2.1 b).1) := by
    unfold q_aty
    rw [if_neg (by omega), if_neg (by omega), if_neg (by omega), if_neg (by omega)]
    congr 2
    omega
  rw [hty] at hra
  obtain ⟨kA, comp, k1, k2, k3, -⟩ := hra
  have hcomp : comp = D.1 (h.2.2.2.1 b).1 := Option.some.inj (k3.symm.trans hcls.1)
  subst hcomp
  obtain ⟨kC, hkC, -⟩ := hcls.2
  show W p l e R s m args below meth cd H locs (c0 - c) (1200 * (c0 - c)) Qf (F0 m pc LS (q_rv B sp sio (.ref b) :: .int i :: q_rv B sp sio (.ref a) :: r.map (q_rv B sp sio)))
  rw [q_rv_ref (a := a) (by omega), q_rv_ref (a := b) (by omega)]
  refine W.aast hx hb hcell (fun q z => by cases z) (fun z => by cases z) k1 k2 rfl hkC ⟨fun z => hin (Or.inl z), by rw [arrV_size]; exact q_in_lt hin⟩ v1 (fun q z => by rw [v3] at z; cases z) (by rw [v2]; exact hkC) (by rw [v2]; exact va_assign hcls) rfl rfl hdg fun H' e1 e2 e3 => ?_
  refine hX hc LS H' _ hL hlen (q_Hp_put (h1' := (h.1, h.2.1, q_up h.2.2.1 a i.toNatClampNeg (some b), h.2.2.2)) (v := .ref (q_ad B sp b)) hP ha hk (by omega) (by omega) rfl (fun x hx => ⟨rfl, rfl, q_up_ne hx⟩) (fun j => ?_) e2 e3 e1) (q_ag_up hag ha (fun b hb => rfl) rfl) (hS.put e2 e3 (q_A_ad ha))
  have n1 : ¬ (h.2.2.2.1 a).1 < 102 := by omega
  have n2 : ¬ (h.2.2.2.1 a).1 = 102 := by omega
  have n3 : q_rv B sp sio (.ref b) = .ref (q_ad B sp b) := q_rv_ref (by omega)
  by_cases ej : j = i.toNatClampNeg
  · simp [q_cv, updV, n1, n2, q_up_eq, ej, va_rf, n3]
  · simp [q_cv, updV, n1, n2, q_up_eq, ej]
end QS2
