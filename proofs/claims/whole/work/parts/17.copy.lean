section QS5
variable {p : Program} {l : Launch} {e : Env} {R : Room} {s : State} {m : MethodId} {args : Array Value} {below : List Frame} {meth : Method} {cd : Code}
variable {D : va_G} {ca : Nat → ClassId} {B : Nat} {sp : Nat → Nat} {sio : Value}
variable {M d c0 : Nat} {h0 : q_H} {Q : Option Value → q_H → Prop} {Qf : State → Prop}
theorem q_nn {z : Int32} (hz : ¬ z < 0) : z.toInt = (z.toNatClampNeg : Int) := by
  have hz0 : (0 : Int) ≤ z.toInt := by
    have := Int32.not_lt.mp hz
    simpa using Int32.le_iff_toInt_le.mp this
  show z.toInt = ((z.toInt.toNat : Nat) : Int)
  omega
/-- System.arraycopy of ints, with the heap's size -/
theorem q_Wcopy {cc : ByteArray} {pc : Nat} {LS : Array Slot} {rest : List Value} {H : Heap} {locs : List Loc} {cells slots : Nat} (hexec : p.tables.exec = Jvm.exec) (hb : cd.code = cc) (hml : cd.maxLocals = LS.size) {own : String} {index : Nat} (hown : s.vm.findClass own = some m.cls) (hlink : (Cond.methodLink own index arraycopyName).before args s = true) (hnat : (Cond.native arraycopyName).before args s = true) (hstat : (Cond.static arraycopyName).before args s = true) (hini : (Cond.initialized "java/lang/System").before args s = true)
    {a0 a n0 n1 : Nat} {cI : ClassId} {f g : Nat → Int32} (hA : ArrOfT s cI .int) (hc0 : H[a0]? = some (vp_cell cI (n0, .inl f))) (hc1 : H[a]? = some (vp_cell cI (n1, .inl g)))
    {sp' dp n : Int32} (h1 : ¬ sp' < 0) (h2 : ¬ dp < 0) (h3 : ¬ n < 0) (h4 : sp'.toNatClampNeg + n.toNatClampNeg ≤ n0) (h5 : dp.toNatClampNeg + n.toNatClampNeg ≤ n1)
    (hframes : 1 ≤ R.frames) (hlocals : (rest.map fun v => v.category).sum + (nativeFrameWords "java/lang/System" "arraycopy" 5 + 11) ≤ R.locals) (hdg : decode cc pc = .ok (.invokestatic index, 3))
    (kk : ∀ (H1 : Heap) (L : List Loc), (∀ q ∈ L, q.base = a) → H1.size = H.size → (∀ q, q ≠ a → H1[q]? = H[q]?) → H1[a]? = some (vp_cell cI (n1, .inl (va_cpy f g sp'.toNatClampNeg dp.toNatClampNeg n.toNatClampNeg))) → W p l e R s m args below meth cd H1 (locs ++ L) cells slots Qf (F0 m (pc + 3) LS rest)) : W p l e R s m args below meth cd H locs cells slots Qf (F0 m pc LS (.int n :: .int dp :: .ref a :: .int sp' :: .ref a0 :: rest)) := by
  intro T hT X
  obtain ⟨-, k0, hk0, cm0, hkk0⟩ := hA n0 (fun j => .int (f j))
  obtain ⟨-, k1, hk1, cm1, hkk1⟩ := hA n1 (fun j => .int (g j))
  obtain ⟨vm', X', step⟩ := X.arraycopy hexec hown hlink hnat hstat hini (src := a0) (dst := a) (cs := vp_cell cI (n0, .inl f)) (cd := vp_cell cI (n1, .inl g)) (srcPos := sp') (destPos := dp) (n := n) (by rw [hT]; exact hc0) (by rw [hT]; exact hc1)
    (fun _ h => by cases h) (fun _ h => by cases h) (fun h => by cases h) (fun h => by cases h) hk0 hk1 hkk0 hkk1 (by simp [refKind]) h1 h2 h3
    (by rw [q_nn h1, q_nn h3]; show ¬ _ > ((arrV cI n0 (fun j => .int (f j))).slots.size : Int); rw [arrV_size]; omega)
    (by rw [q_nn h2, q_nn h3]; show ¬ _ > ((arrV cI n1 (fun j => .int (g j))).slots.size : Int); rw [arrV_size]; omega)
    (fun vm₁ _ i hi => by
      have e : (vp_cell cI (n0, .inl f)).slots.getD (sp'.toNatClampNeg + i) .null = .int (f (sp'.toNatClampNeg + i)) := by
        show (arrV cI n0 (fun j => .int (f j))).slots.getD _ _ = _
        rw [Array.getD_eq_getD_getElem?, arrV_read _ _ (by omega)]
        rfl
      refine ⟨?_, ?_⟩
      · rw [e]; rfl
      · rw [e]; exact trivial)
    (g := F0 m pc LS (.int n :: .int dp :: .ref a :: .int sp' :: .ref a0 :: rest)) rfl (by rw [hml]) (rest := rest) rfl (by rw [hb]; exact hdg) hframes (by show 2 * 0 + _ + _ ≤ _; omega)
  have e1 : copied (vp_cell cI (n0, .inl f)) (vp_cell cI (n1, .inl g)) sp' dp n = vp_cell cI (n1, .inl (va_cpy f g sp'.toNatClampNeg dp.toNatClampNeg n.toNatClampNeg)) := va_copied (fun z => .int z) cI cI f g h4
  rw [e1] at X' step
  have hl : a < H.size := (Array.getElem?_eq_some_iff.mp hc1).1
  have hheap : ((T.setVm vm').setCell a (vp_cell cI (n1, .inl (va_cpy f g sp'.toNatClampNeg dp.toNatClampNeg n.toNatClampNeg)))).heap = H.setIfInBounds a (vp_cell cI (n1, .inl (va_cpy f g sp'.toNatClampNeg dp.toNatClampNeg n.toNatClampNeg))) := by rw [← hT]; rfl
  have oq : ∀ q : Nat, q ≠ a → (H.setIfInBounds a (vp_cell cI (n1, .inl (va_cpy f g sp'.toNatClampNeg dp.toNatClampNeg n.toNatClampNeg))))[q]? = H[q]? := fun q hq => by simp [Array.getElem?_setIfInBounds, Ne.symm hq]
  obtain ⟨t, a1, b1⟩ := kk _ _ (fun q hq => by obtain ⟨z, -, hz⟩ := List.mem_map.mp hq; rw [← hz]) (by simp) oq (by simp [Array.getElem?_setIfInBounds, hl]) _ hheap X'
  exact ⟨t, step t a1, b1⟩
theorem q_s_copy (C : q_Cx D ca B sp sio p R s m args meth cd M d c0 h0) {c pc i M' n p1 p2 p3 p4 : Nat} {ls st : List Value} {h : q_H} (hdg : decode (q_b M) pc = .ok (.invokestatic i, 3)) (he : q_c (M / 1000) i = some (5, M', n, p1, p2, p3, p4))
    (hh : q_copy (q_X D ca B sp sio p l e R s m args below meth cd c0 h0 Qf) c pc ls st h) : q_X D ca B sp sio p l e R s m args below meth cd c0 h0 Qf c pc ls st h := by
  intro hc LS H locs hL hlen hP hag hS
  obtain ⟨hx, hb, hml, hown, hts, hTb, hSp0, hBs, hsio, hnm, hfr, hlo, hce, hsl⟩ := C
  obtain ⟨n, r1, rfl, hh2⟩ := q_pI_e hh
  obtain ⟨dp, r2, rfl, hh3⟩ := q_pI_e hh2
  obtain ⟨dd, r3, rfl, hh4⟩ := q_pR_e hh3
  obtain ⟨sp', r4, rfl, hh5⟩ := q_pI_e hh4
  obtain ⟨ss, r, rfl, ⟨hs32, hd32, hks, hkd, ⟨n1, n2, n3⟩, n4, n5, hr8⟩, hX⟩ := q_pR_e hh5
  have hcs := (q_arrN hP hs32 hks (by omega) (by omega)).1
  have hcd := (q_arrN hP hd32 hkd (by omega) (by omega)).1
  have es : ∀ a, (h.2.2.2.1 a).1 = 100 → (fun j => q_cv B sp sio h a j) = fun j => .int (h.1 a j) := fun a ha => by
    funext j; unfold q_cv; rw [if_pos (by omega)]
  rw [es _ hks] at hcs
  rw [es _ hkd] at hcd
  show W p l e R s m args below meth cd H locs (c0 - c) (1200 * (c0 - c)) Qf (F0 m pc LS (.int n :: .int dp :: q_rv B sp sio (.ref dd) :: .int sp' :: q_rv B sp sio (.ref ss) :: r.map (q_rv B sp sio)))
  rw [q_rv_ref (a := dd) (by omega), q_rv_ref (a := ss) (by omega)]
  refine q_Wcopy (n0 := (h.2.2.2.1 ss).2) (n1 := (h.2.2.2.1 dd).2) (cI := ca 100) (f := h.1 ss) (g := h.1 dd) hx hb (by rw [hL.1, hlen]) hown (hts _ (q_c_5 he)) (hts _ q_w_nat) (hts _ q_w_cst) (hts _ q_w_csi) ((hTb.2.1 100 (by omega)).1) hcs hcd n1 n2 n3 n4 n5 (by omega) ?_ hdg fun H1 L hL1 e1 e2 e3 => ?_
  · rw [q_cs_map hsio]
    have : nativeFrameWords "java/lang/System" "arraycopy" 5 + 11 ≤ 52 := by decide +kernel
    omega
  · refine hX hc LS H1 _ hL hlen (q_Hp_upd (a := dd) hP hd32 rfl (fun b hb => ⟨q_nw_ne hb, rfl, rfl⟩) e1 e2 ?_) (q_ag_up hag hd32 (fun b hb => q_nw_ne hb) rfl) ⟨by rw [e1]; exact hS.1, fun q g1 g2 => by
      rw [e2 q (fun z => g2 (by rw [z]; exact q_A_ad hd32))]
      exact hS.2.1 q g1 g2, fun q hq => by
      rcases List.mem_append.mp hq with z | z
      · exact hS.2.2 q z
      · rw [hL1 q z]; exact q_A_ad hd32⟩
    unfold q_At
    dsimp only
    rw [if_neg (by omega), e3, hkd, vp_cell_i]
    congr 2
    funext j
    unfold q_cv
    dsimp only
    rw [if_pos (by omega), q_nw_eq]
theorem q_s_invokestatic (C : q_Cx D ca B sp sio p R s m args meth cd M d c0 h0) (hI : q_IH D ca B sp sio l d) {c pc n i : Nat} {ls st : List Value} {h : q_H} (hdg : decode (q_b M) pc = .ok (.invokestatic i, n))
    (hh : q_ins (q_cll d) M (q_X D ca B sp sio p l e R s m args below meth cd c0 h0 Qf) Q c pc (.invokestatic i) n ls st h) : q_X D ca B sp sio p l e R s m args below meth cd c0 h0 Qf c pc ls st h := by
  obtain ⟨rfl, hh⟩ := hh
  obtain ⟨⟨md, M', n, p1, p2, p3, p4⟩, he, hX⟩ := q_o_e hh
  dsimp only at hX
  by_cases h5 : md = 5
  · subst h5
    rw [if_pos rfl] at hX
    exact q_s_copy C hdg he hX
  · rw [if_neg h5] at hX
    obtain ⟨⟨rfl, hn⟩, hX⟩ := hX
    exact q_callS C hI hdg he hn hX
theorem q_s_invokevirtual (C : q_Cx D ca B sp sio p R s m args meth cd M d c0 h0) (hI : q_IH D ca B sp sio l d) {c pc n i : Nat} {ls st : List Value} {h : q_H} (hdg : decode (q_b M) pc = .ok (.invokevirtual i, n))
    (hh : q_ins (q_cll d) M (q_X D ca B sp sio p l e R s m args below meth cd c0 h0 Qf) Q c pc (.invokevirtual i) n ls st h) : q_X D ca B sp sio p l e R s m args below meth cd c0 h0 Qf c pc ls st h := by
  obtain ⟨rfl, hh⟩ := hh
  obtain ⟨⟨md, M', n, p1, p2, p3, p4⟩, he, ⟨h1, hn⟩, hX⟩ := q_o_e hh
  dsimp only at h1 hn hX
  subst h1
  obtain ⟨b, r, hb, hrc, hX⟩ := q_pR_e hX
  exact q_callV C hI hdg he hn hb hrc hX
theorem q_s_invokespecial (C : q_Cx D ca B sp sio p R s m args meth cd M d c0 h0) (hI : q_IH D ca B sp sio l d) {c pc n i : Nat} {ls st : List Value} {h : q_H} (hdg : decode (q_b M) pc = .ok (.invokespecial i, n))
    (hh : q_ins (q_cll d) M (q_X D ca B sp sio p l e R s m args below meth cd c0 h0 Qf) Q c pc (.invokespecial i) n ls st h) : q_X D ca B sp sio p l e R s m args below meth cd c0 h0 Qf c pc ls st h := by
  obtain ⟨rfl, hh⟩ := hh
  obtain ⟨⟨md, M', n, p1, p2, p3, p4⟩, he, hX⟩ := q_o_e hh
  dsimp only at hX
  by_cases h4 : md = 4
  · subst h4
    rw [if_pos rfl] at hX
    obtain ⟨b, r, rfl, ⟨hb32, hr8⟩, hX⟩ := q_pR_e hX
    intro hc LS H locs hL hlen hP hag hS
    obtain ⟨hx, hb, hml, hown, hts, hTb, hSp0, hBs, hsio, hnm, hfr, hlo, hce, hsl⟩ := C
    show W p l e R s m args below meth cd H locs (c0 - c) (1200 * (c0 - c)) Qf (F0 m pc LS (q_rv B sp sio (.ref b) :: r.map (q_rv B sp sio)))
    rw [q_rv_ref (a := b) (by omega)]
    refine W.objInit hx hb hown (hts _ (q_c_4 he)) (hts _ q_w_oi) (hts _ q_w_oc) rfl (by show LS.size = _; rw [hL.1, hlen]) rfl hdg (by omega) ?_ (hX hc LS H locs hL hlen hP hag hS)
    have := lv_room (m := m) (pc := pc) (ls := LS) (rest := .ref (q_ad B sp b) :: r.map (q_rv B sp sio)) (st := r.map (q_rv B sp sio)) (by rw [q_cs_map hsio]; exact hr8)
    omega
  · rw [if_neg h4] at hX
    obtain ⟨⟨hmd, hn⟩, hX⟩ := hX
    obtain ⟨b, r, hb, hb32, hX⟩ := q_pR_e hX
    exact q_callI C hI hdg he hmd hn hb hb32 hX
end QS5
