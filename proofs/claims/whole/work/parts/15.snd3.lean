theorem q_fits_z {v : Int32} (h : narrow .boolean (.int v) = .int v) : fits .boolean (.int v) = true := by
  simp only [narrow] at h
  injection h with h
  have : v = 0 ∨ v = 1 := by
    have h2 := congrArg Int32.toInt h
    rw [← h]
    first
      | (rcases Int32.and_one_cases v with e | e <;> simp [e])
      | (have : v &&& 1 = 0 ∨ v &&& 1 = 1 := by
           have hb := pk_andE v (m := 1) 1 (by decide)
           obtain ⟨j, hj, e2⟩ := hb
           rcases (show j = 0 ∨ j = 1 by omega) with rfl | rfl
           · left; rw [e2]; rfl
           · right; rw [e2]; rfl
         exact this)
  rcases this with rfl | rfl <;> rfl
theorem q_ac_i : Cond.arrayClass .int ∈ q_gd := q_gd_pos 122 (by decide +kernel) rfl
theorem q_ac_b : Cond.arrayClass .byte ∈ q_gd := q_gd_pos 159 (by decide +kernel) rfl
theorem q_ac_l : Cond.arrayClass .long ∈ q_gd := q_gd_pos 1234 (by decide +kernel) rfl
theorem q_w_nat : Cond.native arraycopyName ∈ q_gd := q_gd_pos 388 (by decide +kernel) rfl
theorem q_w_cst : Cond.static arraycopyName ∈ q_gd := q_gd_pos 387 (by decide +kernel) rfl
theorem q_w_csi : Cond.initialized "java/lang/System" ∈ q_gd := q_gd_pos 73 (by decide +kernel) rfl
theorem q_w_oi : Cond.instanceMethod Lib.objectInit ∈ q_gd := q_gd_pos 84 (by decide +kernel) rfl
theorem q_w_oc : Cond.code Lib.objectInit ⟨#[0xb1]⟩ 1 none ∈ q_gd := q_gd_pos 85 (by decide +kernel) rfl
theorem q_w_ao : ∀ ci, (4 ≤ ci ∧ ci < 7 ∨ ci = 1) → Cond.arrayOver (.object (q_cn ci)) ∈ lw_tbl := by
  intro ci h
  rcases (show ci = 4 ∨ ci = 5 ∨ ci = 6 ∨ ci = 1 by omega) with rfl | rfl | rfl | rfl
  · exact List.mem_of_getElem? (i := 93) (by decide +kernel)
  · exact List.mem_of_getElem? (i := 87) (by decide +kernel)
  · exact List.mem_of_getElem? (i := 89) (by decide +kernel)
  · exact List.mem_of_getElem? (i := 91) (by decide +kernel)
theorem q_w_aoi : Cond.arrayOver (.array .int) ∈ lw_tbl := List.mem_of_getElem? (i := 167) (by decide +kernel)
theorem q_def9 : ∀ ci, ci < 9 → ∀ k, k < q_NF ci → defaultValue (q_tyf ci k) = if q_isR ci k = true then .null else .int 0 := by decide +kernel
theorem q_isI9 : ∀ ci, ci < 9 → ∀ k, k < q_NF ci → q_isR ci k = false → (q_tyf ci k = .int ∨ q_tyf ci k = .boolean) := by decide +kernel
section QS3
variable {p : Program} {l : Launch} {e : Env} {R : Room} {s : State} {m : MethodId} {args : Array Value} {below : List Frame} {meth : Method} {cd : Code}
variable {D : va_G} {ca : Nat → ClassId} {B : Nat} {sp : Nat → Nat} {sio : Value}
variable {M d c0 : Nat} {h0 : q_H} {Q : Option Value → q_H → Prop} {Qf : State → Prop}
theorem q_ad_n {H : Heap} {h : q_H} (hp : q_Hp D ca B sp sio H h) : q_ad B sp h.2.2.2.2 = H.size := by
  rw [q_ad_ge hp.2.1]; have := hp.1; have := hp.2.1; omega
theorem q_mal_Hp {H H1 : Heap} {h : q_H} {z len : Nat} (hp : q_Hp D ca B sp sio H h) (hz : q_vk z) (hs : H1.size = H.size + 1) (ho : ∀ q, q < H.size → H1[q]? = H[q]?) (hat : q_At D ca B sp sio H1 (q_mal h z len) h.2.2.2.2) : q_Hp D ca B sp sio H1 (q_mal h z len) := by
  refine q_Hp_new 1 hp rfl (fun b hb => ?_) (fun b hb => ?_) hs ho (fun b h1 h2 => ?_)
  · have hne : b ≠ h.2.2.2.2 := by omega
    exact ⟨q_nw_ne hne, q_nw_ne hne, q_nw_ne hne, q_nw_ne hne⟩
  · exact q_nw_ne (by omega)
  · have : b = h.2.2.2.2 := by omega
    subst this
    refine ⟨?_, hat⟩
    show q_vk (q_nw h.2.2.2.1 h.2.2.2.2 (z, len) h.2.2.2.2).1
    rw [q_nw_eq]; exact hz
theorem q_mal_ag {h : q_H} {z len : Nat} (hag : q_ag h0 h) (hn : 32 ≤ h.2.2.2.2) : q_ag h0 (q_mal h z len) := fun b hb => by
  have hne : b ≠ h.2.2.2.2 := by omega
  exact ⟨(q_nw_ne (f := h.1) (v := fun _ => 0) hne).trans (hag b hb).1, (q_nw_ne (f := h.2.2.2.1) (v := (z, len)) hne).trans (hag b hb).2⟩
theorem q_S_grow {H H1 : Heap} {locs : List Loc} (hS : va_S (q_A B) s.heap H locs) (hs : H.size ≤ H1.size) (ho : ∀ q, q < H.size → H1[q]? = H[q]?) : va_S (q_A B) s.heap H1 locs :=
  ⟨Nat.le_trans hS.1 hs, fun q h1 h2 => (ho q (Nat.lt_of_lt_of_le h1 hS.1)).trans (hS.2.1 q h1 h2), hS.2.2⟩
theorem q_s_newarray (C : q_Cx D ca B sp sio p R s m args meth cd M d c0 h0) {c pc n : Nat} {ls st : List Value} {h : q_H} {t : ArrayType} (hdg : decode (q_b M) pc = .ok (.newarray t, n))
    (hh : q_ins (q_cll d) M (q_X D ca B sp sio p l e R s m args below meth cd c0 h0 Qf) Q c pc (.newarray t) n ls st h) : q_X D ca B sp sio p l e R s m args below meth cd c0 h0 Qf c pc ls st h := by
  intro hc LS H locs hL hlen hP hag hS
  obtain ⟨hx, hb, hml, hown, hts, hTb, hSp0, hBs, hsio, hnm, hfr, hlo, hce, hsl⟩ := C
  obtain ⟨rfl, hh⟩ := hh
  obtain ⟨k, r, rfl, ⟨hk0, hk1, hc1⟩, hh2⟩ := q_pI_e hh
  obtain ⟨z, hz, hX⟩ := q_o_e hh2
  unfold q_ak at hz
  split at hz
  · cases hz
    refine W.newa (atype := .int) hx hb (hts _ q_ac_i) rfl hdg rfl hk0 (by show k.toNatClampNeg * 4 ≤ 536870912; omega) (by omega) (by omega) fun cA kA comp f1 f2 f3 => ?_
    have hra : s.vm.findClass ("[" ++ (.int : FieldType).toString) = some (ca 100) := (hTb.2.1 100 (by omega)).2
    have ec : cA = ca 100 := Option.some.inj (f1.symm.trans hra)
    subst ec
    have hP1 : q_Hp D ca B sp sio (H.push { cls := ca 100, slots := Array.replicate k.toNatClampNeg (defaultValue (newarray.typeOf .int)), vm := .none }) (q_mal h 100 k.toNatClampNeg) := by
      refine q_mal_Hp hP (by unfold q_vk; omega) (by rw [Array.size_push]) (fun q hq => by rw [Array.getElem?_push, if_neg (Nat.ne_of_lt hq)]) ?_
      unfold q_At
      have e1 : (q_mal h 100 k.toNatClampNeg).2.2.2.1 h.2.2.2.2 = (100, k.toNatClampNeg) := q_nw_eq
      rw [e1, if_neg (show ¬ (100 : Nat) < 9 by decide), q_ad_n hP, Array.getElem?_push_size, arrV_new]
      congr 2
      funext j
      unfold q_cv
      rw [e1]
      simp [q_mal, q_nw_eq, defaultValue, newarray.typeOf]
    refine W.widen (k := c0 - (c - 1)) (n := 1200 * (c0 - (c - 1))) (by omega) (by omega) ?_
    have hX := hX (by omega) LS _ locs hL hlen hP1 (q_mal_ag hag hP.2.1) (q_S_grow hS (by rw [Array.size_push]; omega) (fun q hq => by rw [Array.getElem?_push, if_neg (Nat.ne_of_lt hq)]))
    have e2 : q_rv B sp sio (.ref h.2.2.2.2) = .ref H.size := by rw [q_rv_ref (by have := hP.2.1; omega), q_ad_n hP]
    have hX : W p l e R s m args below meth cd _ locs (c0 - (c - 1)) (1200 * (c0 - (c - 1))) Qf (F0 m (pc + 2) LS (q_rv B sp sio (.ref h.2.2.2.2) :: r.map (q_rv B sp sio))) := hX
    rw [e2] at hX
    exact hX
  · cases hz
    refine W.newa (atype := .byte) hx hb (hts _ q_ac_b) rfl hdg rfl hk0 (by show k.toNatClampNeg * 1 ≤ 536870912; omega) (by omega) (by omega) fun cA kA comp f1 f2 f3 => ?_
    have hra : s.vm.findClass ("[" ++ (.byte : FieldType).toString) = some (ca 101) := (hTb.2.1 101 (by omega)).2
    have ec : cA = ca 101 := Option.some.inj (f1.symm.trans hra)
    subst ec
    have hP1 : q_Hp D ca B sp sio (H.push { cls := ca 101, slots := Array.replicate k.toNatClampNeg (defaultValue (newarray.typeOf .byte)), vm := .none }) (q_mal h 101 k.toNatClampNeg) := by
      refine q_mal_Hp hP (by unfold q_vk; omega) (by rw [Array.size_push]) (fun q hq => by rw [Array.getElem?_push, if_neg (Nat.ne_of_lt hq)]) ?_
      unfold q_At
      have e1 : (q_mal h 101 k.toNatClampNeg).2.2.2.1 h.2.2.2.2 = (101, k.toNatClampNeg) := q_nw_eq
      rw [e1, if_neg (show ¬ (101 : Nat) < 9 by decide), q_ad_n hP, Array.getElem?_push_size, arrV_new]
      congr 2
      funext j
      unfold q_cv
      rw [e1]
      simp [q_mal, q_nw_eq, defaultValue, newarray.typeOf]
    refine W.widen (k := c0 - (c - 1)) (n := 1200 * (c0 - (c - 1))) (by omega) (by omega) ?_
    have hX := hX (by omega) LS _ locs hL hlen hP1 (q_mal_ag hag hP.2.1) (q_S_grow hS (by rw [Array.size_push]; omega) (fun q hq => by rw [Array.getElem?_push, if_neg (Nat.ne_of_lt hq)]))
    have e2 : q_rv B sp sio (.ref h.2.2.2.2) = .ref H.size := by rw [q_rv_ref (by have := hP.2.1; omega), q_ad_n hP]
    have hX : W p l e R s m args below meth cd _ locs (c0 - (c - 1)) (1200 * (c0 - (c - 1))) Qf (F0 m (pc + 2) LS (q_rv B sp sio (.ref h.2.2.2.2) :: r.map (q_rv B sp sio))) := hX
    rw [e2] at hX
    exact hX
  · cases hz
    refine W.newa (atype := .long) hx hb (hts _ q_ac_l) rfl hdg rfl hk0 (by show k.toNatClampNeg * 8 ≤ 536870912; omega) (by omega) (by omega) fun cA kA comp f1 f2 f3 => ?_
    have hra : s.vm.findClass ("[" ++ (.long : FieldType).toString) = some (ca 102) := (hTb.2.1 102 (by omega)).2
    have ec : cA = ca 102 := Option.some.inj (f1.symm.trans hra)
    subst ec
    have hP1 : q_Hp D ca B sp sio (H.push { cls := ca 102, slots := Array.replicate k.toNatClampNeg (defaultValue (newarray.typeOf .long)), vm := .none }) (q_mal h 102 k.toNatClampNeg) := by
      refine q_mal_Hp hP (by unfold q_vk; omega) (by rw [Array.size_push]) (fun q hq => by rw [Array.getElem?_push, if_neg (Nat.ne_of_lt hq)]) ?_
      unfold q_At
      have e1 : (q_mal h 102 k.toNatClampNeg).2.2.2.1 h.2.2.2.2 = (102, k.toNatClampNeg) := q_nw_eq
      rw [e1, if_neg (show ¬ (102 : Nat) < 9 by decide), q_ad_n hP, Array.getElem?_push_size, arrV_new]
      congr 2
      funext j
      unfold q_cv
      rw [e1]
      simp [q_mal, q_nw_eq, defaultValue, newarray.typeOf]
    refine W.widen (k := c0 - (c - 1)) (n := 1200 * (c0 - (c - 1))) (by omega) (by omega) ?_
    have hX := hX (by omega) LS _ locs hL hlen hP1 (q_mal_ag hag hP.2.1) (q_S_grow hS (by rw [Array.size_push]; omega) (fun q hq => by rw [Array.getElem?_push, if_neg (Nat.ne_of_lt hq)]))
    have e2 : q_rv B sp sio (.ref h.2.2.2.2) = .ref H.size := by rw [q_rv_ref (by have := hP.2.1; omega), q_ad_n hP]
    have hX : W p l e R s m args below meth cd _ locs (c0 - (c - 1)) (1200 * (c0 - (c - 1))) Qf (F0 m (pc + 2) LS (q_rv B sp sio (.ref h.2.2.2.2) :: r.map (q_rv B sp sio))) := hX
    rw [e2] at hX
    exact hX
  · cases hz
theorem q_s_anewarray (C : q_Cx D ca B sp sio p R s m args meth cd M d c0 h0) {c pc n : Nat} {ls st : List Value} {h : q_H} {i : Nat} (hdg : decode (q_b M) pc = .ok (.anewarray i, n))
    (hh : q_ins (q_cll d) M (q_X D ca B sp sio p l e R s m args below meth cd c0 h0 Qf) Q c pc (.anewarray i) n ls st h) : q_X D ca B sp sio p l e R s m args below meth cd c0 h0 Qf c pc ls st h := by
  intro hc LS H locs hL hlen hP hag hS
  obtain ⟨hx, hb, hml, hown, hts, hTb, hSp0, hBs, hsio, hnm, hfr, hlo, hce, hsl⟩ := C
  obtain ⟨rfl, hh⟩ := hh
  obtain ⟨k, r, rfl, ⟨hk0, hk1, hc1⟩, hh2⟩ := q_pI_e hh
  obtain ⟨⟨ci, p1, p2, p3⟩, hz, hci, hX⟩ := q_o_e hh2
  dsimp only at hci hX
  refine W.anew hx hb hown (hts _ (q_nt_ok hz).1) (va_AO.use (hTb.2.2.1 _ (q_w_ao ci hci) rfl)) rfl hdg rfl hk0 (by omega) (by omega) (by omega) fun cA kA comp f1 f2 f3 f4 => ?_
  have hty : q_aty (110 + ci) = .object (q_cn ci) := by
    unfold q_aty
    rw [if_neg (by omega), if_neg (by omega), if_neg (by omega), if_neg (by omega)]
    congr 2
    omega
  have hra := (hTb.2.1 (110 + ci) (by omega)).2
  rw [hty] at hra
  obtain ⟨-, -, -, -, -, hra⟩ := hra
  have ec : cA = ca (110 + ci) := Option.some.inj (f1.symm.trans hra)
  subst ec
  have hP1 : q_Hp D ca B sp sio (H.push { cls := ca (110 + ci), slots := Array.replicate k.toNatClampNeg .null, vm := .none }) (q_mal h (110 + ci) k.toNatClampNeg) := by
    refine q_mal_Hp hP (by unfold q_vk; omega) (by rw [Array.size_push]) (fun q hq => by rw [Array.getElem?_push, if_neg (Nat.ne_of_lt hq)]) ?_
    unfold q_At
    have e1 : (q_mal h (110 + ci) k.toNatClampNeg).2.2.2.1 h.2.2.2.2 = (110 + ci, k.toNatClampNeg) := q_nw_eq
    rw [e1, if_neg (by omega), q_ad_n hP, Array.getElem?_push_size, arrV_new]
    congr 2
    funext j
    unfold q_cv
    rw [e1, if_neg (by omega), if_neg (by omega)]
    simp [q_mal, q_nw_eq, va_rf, q_rv]
  refine W.widen (k := c0 - (c - 1)) (n := 1200 * (c0 - (c - 1))) (by omega) (by omega) ?_
  have hX := hX (by omega) LS _ locs hL hlen hP1 (q_mal_ag hag hP.2.1) (q_S_grow hS (by rw [Array.size_push]; omega) (fun q hq => by rw [Array.getElem?_push, if_neg (Nat.ne_of_lt hq)]))
  have e2 : q_rv B sp sio (.ref h.2.2.2.2) = .ref H.size := by rw [q_rv_ref (by have := hP.2.1; omega), q_ad_n hP]
  have hX : W p l e R s m args below meth cd _ locs (c0 - (c - 1)) (1200 * (c0 - (c - 1))) Qf (F0 m (pc + 3) LS (q_rv B sp sio (.ref h.2.2.2.2) :: r.map (q_rv B sp sio))) := hX
  rw [e2] at hX
  exact hX
theorem q_s_new (C : q_Cx D ca B sp sio p R s m args meth cd M d c0 h0) {c pc n : Nat} {ls st : List Value} {h : q_H} {i : Nat} (hdg : decode (q_b M) pc = .ok (.new i, n))
    (hh : q_ins (q_cll d) M (q_X D ca B sp sio p l e R s m args below meth cd c0 h0 Qf) Q c pc (.new i) n ls st h) : q_X D ca B sp sio p l e R s m args below meth cd c0 h0 Qf c pc ls st h := by
  intro hc LS H locs hL hlen hP hag hS
  obtain ⟨hx, hb, hml, hown, hts, hTb, hSp0, hBs, hsio, hnm, hfr, hlo, hce, hsl⟩ := C
  obtain ⟨rfl, hh⟩ := hh
  obtain ⟨⟨ci, p1, p2, p3⟩, hz, ⟨hc1, hc9⟩, hX⟩ := q_o_e hh
  dsimp only at hc9 hX
  obtain ⟨w1, w2, w3, -⟩ := q_nt_ok hz
  have hKn := hTb.1.1 _ _ (q_cl9 ci hc9)
  have hNF : q_NF ci ≤ 65 := by
    unfold q_NF; split <;> omega
  refine W.newcK hx hb hown (hts _ w1) (hts _ w2) (hts _ w3) rfl hdg (by omega) (by omega) hKn.2.1 rfl fun H1 kC hkC e1 z1 o1 => ?_
  have hP1 : q_Hp D ca B sp sio H1 (q_mal h ci 0) := by
    refine q_mal_Hp hP (by unfold q_vk; omega) z1 o1 ?_
    unfold q_At
    have e2 : (q_mal h ci 0).2.2.2.1 h.2.2.2.2 = (ci, 0) := q_nw_eq
    rw [e2, if_pos hc9, q_ad_n hP]
    refine (u_born (q_tyf ci) hts (q_us9 ci hc9) hKn hkC e1 (q_ty9 ci hc9)).to (fun k hk => ?_)
    rw [q_def9 ci hc9 k hk]
    unfold q_fv
    simp only [q_mal, q_nw_eq]
    split <;> rfl
  refine W.widen (k := c0 - (c - 1)) (n := 1200 * (c0 - (c - 1))) (by omega) (by omega) ?_
  have hX := hX (by omega) LS _ locs hL hlen hP1 (q_mal_ag hag hP.2.1) (q_S_grow hS (by omega) o1)
  have e2 : q_rv B sp sio (.ref h.2.2.2.2) = .ref H.size := by rw [q_rv_ref (by have := hP.2.1; omega), q_ad_n hP]
  have hX : W p l e R s m args below meth cd _ locs (c0 - (c - 1)) (1200 * (c0 - (c - 1))) Qf (F0 m (pc + 3) LS (q_rv B sp sio (.ref h.2.2.2.2) :: st.map (q_rv B sp sio))) := hX
  rw [e2] at hX
  exact hX
theorem q_s_getfield (C : q_Cx D ca B sp sio p R s m args meth cd M d c0 h0) {c pc n : Nat} {ls st : List Value} {h : q_H} {i : Nat} (hdg : decode (q_b M) pc = .ok (.getfield i, n))
    (hh : q_ins (q_cll d) M (q_X D ca B sp sio p l e R s m args below meth cd c0 h0 Qf) Q c pc (.getfield i) n ls st h) : q_X D ca B sp sio p l e R s m args below meth cd c0 h0 Qf c pc ls st h := by
  intro hc LS H locs hL hlen hP hag hS
  obtain ⟨hx, hb, hml, hown, hts, hTb, hSp0, hBs, hsio, hnm, hfr, hlo, hce, hsl⟩ := C
  obtain ⟨rfl, hh⟩ := hh
  obtain ⟨a, r, rfl, hh2⟩ := q_pR_e hh
  unfold q_oe at hh2
  split at hh2
  · rename_i ev he
    obtain ⟨ci, k, pp⟩ := ev
    dsimp only at hh2
    obtain ⟨⟨ha, hk⟩, hX⟩ := hh2
    obtain ⟨hlink, hc9, hkN⟩ := q_f_ok he
    obtain ⟨cell, q1, q2, q3, q4⟩ := q_obj hP ha hk hc9
    obtain ⟨hSl, hfc, kC, hkC, hkind⟩ := hTb.1.1 _ _ (q_cl9 ci hc9)
    obtain ⟨cf, kf, fi, f, hi, hslt⟩ := hSl k hkN
    show W p l e R s m args below meth cd H locs (c0 - c) (1200 * (c0 - c)) Qf (F0 m pc LS (q_rv B sp sio (.ref a) :: r.map (q_rv B sp sio)))
    rw [q_rv_ref (a := a) (by omega)]
    refine W.getf (v := q_rv B sp sio (q_fv ci k h a)) hx hb hown (hts _ hlink) hi (u_facts hfc hkC (u_lays hts (q_us9 ci hc9) hkN) hi).1 q1 (by rw [q3]; exact fun z => by cases z) ?_ rfl rfl hdg (hX hc LS H locs hL hlen hP hag hS)
    rw [hslt, q4 k hkN]
  · obtain ⟨⟨j, pp⟩, he, ⟨ha3, ha16⟩, hX⟩ := q_o_e hh2
    dsimp only at hX
    have hlink := q_sf_ok he
    obtain ⟨-, -, s3, -, -⟩ := q_Sp_now hSp0 hag hS
    obtain ⟨-, -, f1, f2⟩ := s3 a ha3 ha16
    show W p l e R s m args below meth cd H locs (c0 - c) (1200 * (c0 - c)) Qf (F0 m pc LS (q_rv B sp sio (.ref a) :: r.map (q_rv B sp sio)))
    rw [q_rv_ref (a := a) (by omega)]
    have ea : q_ad B sp a = sp a := if_pos (by omega)
    rw [ea]
    by_cases hj : j = 0
    · subst hj
      rw [if_pos rfl] at hX
      obtain ⟨cf, k, fi, f, cell, g1, g2, g3, g4, g5, -⟩ := f2
      refine W.getf (v := .ref (sp (a + 13))) hx hb hown (hts _ hlink) g1 g2 g3 g4 g5 rfl rfl hdg ?_
      have hX := hX hc LS H locs hL hlen hP hag hS
      have e2 : q_rv B sp sio (.ref (a + 13)) = .ref (sp (a + 13)) := by rw [q_rv_ref (by omega)]; unfold q_ad; rw [if_pos (by omega)]
      have hX : W p l e R s m args below meth cd H locs (c0 - c) (1200 * (c0 - c)) Qf (F0 m (pc + 3) LS (q_rv B sp sio (.ref (a + 13)) :: r.map (q_rv B sp sio))) := hX
      rw [e2] at hX
      exact hX
    · rw [if_neg hj] at hX
      have e3 : q_sfn j = ("coder", "B") := if_neg hj
      rw [e3] at hlink
      obtain ⟨cf, k, fi, f, cell, g1, g2, g3, g4, g5, -⟩ := f1
      exact W.getf (v := .int 0) hx hb hown (hts _ hlink) g1 g2 g3 g4 g5 rfl rfl hdg (hX hc LS H locs hL hlen hP hag hS)
theorem q_s_getstatic (C : q_Cx D ca B sp sio p R s m args meth cd M d c0 h0) {c pc n : Nat} {ls st : List Value} {h : q_H} {i : Nat} (hdg : decode (q_b M) pc = .ok (.getstatic i, n))
    (hh : q_ins (q_cll d) M (q_X D ca B sp sio p l e R s m args below meth cd c0 h0 Qf) Q c pc (.getstatic i) n ls st h) : q_X D ca B sp sio p l e R s m args below meth cd c0 h0 Qf c pc ls st h := by
  intro hc LS H locs hL hlen hP hag hS
  obtain ⟨hx, hb, hml, hown, hts, hTb, hSp0, hBs, hsio, hnm, hfr, hlo, hce, hsl⟩ := C
  obtain ⟨rfl, hh⟩ := hh
  obtain ⟨⟨j, pp⟩, he, hX⟩ := q_o_e hh
  obtain ⟨hj, hlink⟩ := q_st_ok he
  have hZ := hSp0.1 j hj
  exact va_gets hx hb hZ hS hown (hts _ hlink) (fun _ z => z) hdg (hX hc LS H locs hL hlen hP hag hS)
theorem q_s_putfield (C : q_Cx D ca B sp sio p R s m args meth cd M d c0 h0) {c pc n : Nat} {ls st : List Value} {h : q_H} {i : Nat} (hdg : decode (q_b M) pc = .ok (.putfield i, n))
    (hh : q_ins (q_cll d) M (q_X D ca B sp sio p l e R s m args below meth cd c0 h0 Qf) Q c pc (.putfield i) n ls st h) : q_X D ca B sp sio p l e R s m args below meth cd c0 h0 Qf c pc ls st h := by
  intro hc LS H locs hL hlen hP hag hS
  obtain ⟨hx, hb, hml, hown, hts, hTb, hSp0, hBs, hsio, hnm, hfr, hlo, hce, hsl⟩ := C
  obtain ⟨rfl, hh⟩ := hh
  obtain ⟨⟨ci, k, pp⟩, he, hok, hh2⟩ := q_o_e hh
  dsimp only at hok hh2
  obtain ⟨hlink, hc9, hkN⟩ := q_f_ok he
  by_cases hR : q_isR ci k = true
  · rw [if_pos hR] at hh2
    have hcase : ∃ (v : Value) (r1 : List Value), st = v :: r1 ∧ (v = .null ∨ ∃ b : Nat, v = .ref b) ∧ q_pR r1 fun a st => (32 ≤ a ∧ (h.2.2.2.1 a).1 = ci ∧ q_rok v) ∧ q_X D ca B sp sio p l e R s m args below meth cd c0 h0 Qf c (pc + 3) ls st (h.1, h.2.1, q_up h.2.2.1 a k (q_vr v), h.2.2.2) := by
      rcases q_pA_e hh2 with ⟨b, r, e1, h3⟩ | ⟨r, e1, h3⟩
      · exact ⟨_, r, e1, Or.inr ⟨b, rfl⟩, h3⟩
      · exact ⟨_, r, e1, Or.inl rfl, h3⟩
    obtain ⟨v, r1, rfl, hv, hh3⟩ := hcase
    obtain ⟨a, r, rfl, ⟨ha, hk, hrok⟩, hX⟩ := q_pR_e hh3
    have hrv : va_rf (q_vr v) = v := by rcases hv with rfl | ⟨b, rfl⟩ <;> rfl
    have hvv : q_rv B sp sio v = .null ∨ ∃ t, q_rv B sp sio v = .ref t := by
      rcases hv with rfl | ⟨b, rfl⟩
      · exact Or.inl rfl
      · have hrok : 32 ≤ b := hrok
        exact Or.inr ⟨_, q_rv_ref (by omega)⟩
    have hty : (∃ n, q_tyf ci k = .object n) ∨ ∃ t, q_tyf ci k = .array t := by
      unfold q_isR at hR
      split at hR
      · rename_i n e1; exact Or.inl ⟨n, e1⟩
      · rename_i t e1; exact Or.inr ⟨t, e1⟩
      · cases hR
    have hna : narrow (q_tyf ci k) (q_rv B sp sio v) = q_rv B sp sio v := by
      rcases hty with ⟨n, e1⟩ | ⟨t, e1⟩ <;> rcases hvv with e2 | ⟨t2, e2⟩ <;> rw [e1, e2] <;> rfl
    have hfi : fits (q_tyf ci k) (q_rv B sp sio v) = true := by
      rcases hty with ⟨n, e1⟩ | ⟨t, e1⟩ <;> rcases hvv with e2 | ⟨t2, e2⟩ <;> rw [e1, e2] <;> rfl
    obtain ⟨cell, q1, q2, q3, q4⟩ := q_obj hP ha hk hc9
    obtain ⟨hSl, hfc, kC, hkC, hkind⟩ := hTb.1.1 _ _ (q_cl9 ci hc9)
    obtain ⟨cf, kf, fi, f, hi, hslt⟩ := hSl k hkN
    have hap : ∀ x y, x < q_NF ci → y < q_NF ci → x ≠ y → D.2 ci x ≠ D.2 ci y := va_apart (own := q_cn ci) hts (q_us9 ci hc9) (q_tyf ci) (q_ty9 ci hc9) (q_nm9 ci hc9) hTb.1 (q_cl9 ci hc9)
    have hlay := hts _ (q_us9 ci hc9 _ (u_in_lay hkN))
    have hst := (u_facts hfc hkC (u_lays hts (q_us9 ci hc9) hkN) hi).1
    show W p l e R s m args below meth cd H locs (c0 - c) (1200 * (c0 - c)) Qf (F0 m pc LS (q_rv B sp sio v :: q_rv B sp sio (.ref a) :: r.map (q_rv B sp sio)))
    rw [q_rv_ref (a := a) (by omega)]
    have fin : ∀ (H' : Heap) (locs' : List Loc), H'[q_ad B sp a]? = some (cell.setSlot f.slot (q_rv B sp sio v)) → H'.size = H.size → (∀ q, q ≠ q_ad B sp a → H'[q]? = H[q]?) → va_S (q_A B) s.heap H' locs' → W p l e R s m args below meth cd H' locs' (c0 - c) (1200 * (c0 - c)) Qf (F0 m (pc + 3) LS (r.map (q_rv B sp sio))) := by
      intro H' locs' e1 e2 e3 hS'
      rw [hslt] at e1
      refine hX hc LS H' locs' hL hlen (q_Hp_putf (h1 := (h.1, h.2.1, q_up h.2.2.1 a k (q_vr v), h.2.2.2)) (v := (q_rv B sp sio v)) hP ha hk hc9 rfl (fun b hb => ⟨rfl, rfl, q_up_ne hb⟩) q2 q3 q4 hap hkN (fun j hj => ?_) e2 e3 e1) (q_ag_up hag ha (fun b hb => rfl) rfl) hS'
      unfold q_fv updV
      dsimp only
      by_cases ej : j = k
      · subst ej
        simp [q_up_eq, hR, hrv]
      · simp [q_up_eq, ej]
    by_cases hf : q_fin ci k = true
    · have hfk : (q_y M).name = "<init>" ∧ M / 1000 = ci := by
        unfold q_fok at hok
        rw [hf] at hok
        simpa using hok
      unfold u_lay at hlay
      rw [if_pos (show (q_TT ci k).2.2.2 = true from hf)] at hlay
      have hcf : m.cls = cf := by
        obtain ⟨_, _, c', _, _, _, -, -, hf', -, -, -, hown2, -⟩ := Cond.laysFinal_spec hlay
        have e1 : c' = cf := by have := hi.symm.trans hf'; simp at this; exact this.1.symm
        rw [q_cls9 ci hc9 k hkN, ← hfk.2] at hown2
        rw [← e1]; exact Option.some.inj (hown.symm.trans hown2)
      have h6 := u_fits hfc hkC hkind (Or.inr hlay) hi (q_ty9 ci hc9 k hkN) hna hfi
      exact W.putFinK hx hb hown (hts _ hlink) hi hst hcf (hnm hfk.1) (by rw [q2]; exact h6) q1 q3 (by rw [hslt]; exact k2_hasslot (q4 k hkN)) rfl rfl hdg fun H' e1 e2 e3 => fin H' _ e1 e2 e3 (hS.put e2 e3 (q_A_ad ha))
    · unfold u_lay at hlay
      rw [if_neg (show ¬ (q_TT ci k).2.2.2 = true from hf)] at hlay
      have h6 := u_store hfc hkC hkind hlay hi (q_ty9 ci hc9 k hkN) hna hfi
      exact W.putK hx hb (f := f) ⟨hown, hts _ hlink, ⟨_, _, _, hi⟩, hst⟩ (by rw [q2]; exact h6) q1 q3 (by rw [hslt]; exact k2_hasslot (q4 k hkN)) rfl rfl hdg fun H' e1 e2 e3 => fin H' _ e1 e2 e3 (hS.put e2 e3 (q_A_ad ha))
  · rw [if_neg hR] at hh2
    obtain ⟨v, r1, rfl, hh3⟩ := q_pI_e hh2
    obtain ⟨a, r, rfl, ⟨ha, hk, hna⟩, hX⟩ := q_pR_e hh3
    have hfi : fits (q_tyf ci k) (.int v) = true := by
      rcases q_isI9 ci hc9 k hkN (by simpa using hR) with e1 | e1
      · rw [e1]; rfl
      · rw [e1] at hna ⊢
        exact q_fits_z hna
    obtain ⟨cell, q1, q2, q3, q4⟩ := q_obj hP ha hk hc9
    obtain ⟨hSl, hfc, kC, hkC, hkind⟩ := hTb.1.1 _ _ (q_cl9 ci hc9)
    obtain ⟨cf, kf, fi, f, hi, hslt⟩ := hSl k hkN
    have hap : ∀ x y, x < q_NF ci → y < q_NF ci → x ≠ y → D.2 ci x ≠ D.2 ci y := va_apart (own := q_cn ci) hts (q_us9 ci hc9) (q_tyf ci) (q_ty9 ci hc9) (q_nm9 ci hc9) hTb.1 (q_cl9 ci hc9)
    have hlay := hts _ (q_us9 ci hc9 _ (u_in_lay hkN))
    have hst := (u_facts hfc hkC (u_lays hts (q_us9 ci hc9) hkN) hi).1
    show W p l e R s m args below meth cd H locs (c0 - c) (1200 * (c0 - c)) Qf (F0 m pc LS (.int v :: q_rv B sp sio (.ref a) :: r.map (q_rv B sp sio)))
    rw [q_rv_ref (a := a) (by omega)]
    have fin : ∀ (H' : Heap) (locs' : List Loc), H'[q_ad B sp a]? = some (cell.setSlot f.slot (.int v)) → H'.size = H.size → (∀ q, q ≠ q_ad B sp a → H'[q]? = H[q]?) → va_S (q_A B) s.heap H' locs' → W p l e R s m args below meth cd H' locs' (c0 - c) (1200 * (c0 - c)) Qf (F0 m (pc + 3) LS (r.map (q_rv B sp sio))) := by
      intro H' locs' e1 e2 e3 hS'
      rw [hslt] at e1
      refine hX hc LS H' locs' hL hlen (q_Hp_putf (h1 := (q_up h.1 a k v, h.2)) (v := (.int v)) hP ha hk hc9 rfl (fun b hb => ⟨q_up_ne hb, rfl, rfl⟩) q2 q3 q4 hap hkN (fun j hj => ?_) e2 e3 e1) (q_ag_up hag ha (fun b hb => q_up_ne hb) rfl) hS'
      unfold q_fv updV
      dsimp only
      by_cases ej : j = k
      · subst ej
        simp [q_up_eq, hR, q_rv]
      · simp [q_up_eq, ej]
    by_cases hf : q_fin ci k = true
    · have hfk : (q_y M).name = "<init>" ∧ M / 1000 = ci := by
        unfold q_fok at hok
        rw [hf] at hok
        simpa using hok
      unfold u_lay at hlay
      rw [if_pos (show (q_TT ci k).2.2.2 = true from hf)] at hlay
      have hcf : m.cls = cf := by
        obtain ⟨_, _, c', _, _, _, -, -, hf', -, -, -, hown2, -⟩ := Cond.laysFinal_spec hlay
        have e1 : c' = cf := by have := hi.symm.trans hf'; simp at this; exact this.1.symm
        rw [q_cls9 ci hc9 k hkN, ← hfk.2] at hown2
        rw [← e1]; exact Option.some.inj (hown.symm.trans hown2)
      have h6 := u_fits hfc hkC hkind (Or.inr hlay) hi (q_ty9 ci hc9 k hkN) hna hfi
      exact W.putFinK hx hb hown (hts _ hlink) hi hst hcf (hnm hfk.1) (by rw [q2]; exact h6) q1 q3 (by rw [hslt]; exact k2_hasslot (q4 k hkN)) rfl rfl hdg fun H' e1 e2 e3 => fin H' _ e1 e2 e3 (hS.put e2 e3 (q_A_ad ha))
    · unfold u_lay at hlay
      rw [if_neg (show ¬ (q_TT ci k).2.2.2 = true from hf)] at hlay
      have h6 := u_store hfc hkC hkind hlay hi (q_ty9 ci hc9 k hkN) hna hfi
      exact W.putK hx hb (f := f) ⟨hown, hts _ hlink, ⟨_, _, _, hi⟩, hst⟩ (by rw [q2]; exact h6) q1 q3 (by rw [hslt]; exact k2_hasslot (q4 k hkN)) rfl rfl hdg fun H' e1 e2 e3 => fin H' _ e1 e2 e3 (hS.put e2 e3 (q_A_ad ha))
end QS3
