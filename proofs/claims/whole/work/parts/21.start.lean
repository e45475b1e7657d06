theorem q_inst9 : ∀ ci, ci < 9 → Cond.instantiable (q_cn ci) (q_NF ci) ∈ lw_tbl
  | 0, _ => List.mem_of_getElem? (i := 161) (by decide +kernel)
  | 1, _ => List.mem_of_getElem? (i := 390) (by decide +kernel)
  | 2, _ => List.mem_of_getElem? (i := 95) (by decide +kernel)
  | 3, _ => List.mem_of_getElem? (i := 124) (by decide +kernel)
  | 4, _ => List.mem_of_getElem? (i := 243) (by decide +kernel)
  | 5, _ => List.mem_of_getElem? (i := 218) (by decide +kernel)
  | 6, _ => List.mem_of_getElem? (i := 516) (by decide +kernel)
  | 7, _ => List.mem_of_getElem? (i := 79) (by decide +kernel)
  | 8, _ => List.mem_of_getElem? (i := 1013) (by decide +kernel)
  | n + 9, h => absurd h (by omega)
theorem q_lst : ∀ j, j < 4 → Cond.laysStatic (q_stn j).1 (q_stn j).2.1 (q_stn j).2.2 ∈ lw_tbl ∧ Cond.initialized (q_stn j).1 ∈ lw_tbl
  | 0, _ => ⟨List.mem_of_getElem? (i := 681) (by decide +kernel), List.mem_of_getElem? (i := 65) (by decide +kernel)⟩
  | 1, _ => ⟨List.mem_of_getElem? (i := 525) (by decide +kernel), List.mem_of_getElem? (i := 76) (by decide +kernel)⟩
  | 2, _ => ⟨List.mem_of_getElem? (i := 273) (by decide +kernel), List.mem_of_getElem? (i := 68) (by decide +kernel)⟩
  | 3, _ => ⟨List.mem_of_getElem? (i := 289) (by decide +kernel), List.mem_of_getElem? (i := 70) (by decide +kernel)⟩
  | n + 4, h => absurd h (by omega)
theorem q_strw : ∀ e ∈ q_kS, lw_tbl[e.2.2.2]? = some (Cond.stringRef (q_cn e.1) e.2.1 e.2.2.1) := by decide +kernel
theorem q_lawcode : q_b 16000 = code ∧ q_ml 16000 = 4 ∧ q_rt 16000 = some .boolean ∧ (q_y 16000).name = "law" := ⟨rfl, rfl, rfl, rfl⟩
def R_law : String := "ComesBackLaw"
def lw_P (b : Addr) (xs : List Int32) (args : Array Value) (s : State) : Prop := args = #[.ref b] ∧ s.IntsAt b xs ∧ xs.length ≤ 384 ∧ (Jvm.Cond.and given_1 narrow_1).before args s = true
def lw_Q (_ : Array Value) (s : State) (o : Outcome) (t : State) : Prop := o = .returned (some (.int 1)) ∧ Framed s o t [] 600000 7302249
def lw_Z (below : List Frame) (a : Array Value) (s : State) : State → Prop := fun t => ∃ o, t.status = .running ∧ Ended t below o ∧ lw_Q a s o t
/-- the law's own end, with 1 on the stack, nothing written that was there before, its room as the claim has it -/
theorem lw_ret {p : Program} {l : Launch} {e : Env} {s : State} {m : MethodId} {below : List Frame} {meth : Method} {c : Code} {b : Nat} (hx : p.tables.exec = Jvm.exec) (hb : c.code = code) (hr : meth.sig.returnType = ret) (hlocks : meth.locks = false) {pc : Nat} {H : Heap} {ls : Array Slot} (hdg : decode code pc = .ok (.ireturn, 1)) : W p l e room_1 s m #[Value.ref b] below meth c H [] 600000 7302249 (lw_Z below #[Value.ref b] s) (F0 m pc ls [.int 1]) := by
  intro T hT X
  obtain ⟨fs, hret, hrun, hended, hW, hframe⟩ := X.leave (v := some (.int 1)) (hlocks := hlocks) (fun h => by rw [hr] at h; cases h)
  have hmeth' : T.vm.method? m = some meth := X.method'
  refine ⟨T.setFrames fs, ?_, .returned (some (.int 1)), hrun, hended, rfl, ⟨_, rfl⟩, hW, hframe⟩
  jvm_step X.here [X.here.top, hx, hb, hdg, hmeth', hr, ret, narrow_b1]
  (try refine ⟨rfl, ?_⟩); (try refine ⟨rfl, ?_⟩)
  first | (intro acts; rw [hret _ acts rfl rfl rfl]) | rw [hret _ _ rfl rfl rfl]
  exact Steps.refl _
/-- what holds at the law's entry: the machine, the code, the tables' words (any of lw_tbl by 'hts w (by decide +kernel)'), the script of L ints xs at the cell b, what the Statement gives of the start (any of its parts by flat_of_before) -/
def lw_At (p : Program) (s : State) (m : MethodId) (meth : Method) (c : Code) (b L : Nat) (xs : Nat → Int32) : Prop :=
  p.tables.exec = Jvm.exec ∧ c.code = code ∧ meth.sig.returnType = ret ∧ c.maxLocals = 4 ∧ s.vm.findClass R_law = some m.cls ∧ (∀ w ∈ lw_tbl, w.before #[Value.ref b] s = true) ∧ va_X b L xs s s.heap ∧ b < s.heap.size ∧ meth.locks = false ∧ (Jvm.Cond.and given_1 narrow_1).before #[Value.ref b] s = true
set_option maxHeartbeats 4000000 in
/-- THE LAW's walk out of the abstract machine's -/
theorem q_start {p : Program} {e : Env} {s : State} {m : MethodId} {below : List Frame} {meth : Method} {c : Code} (l : Launch) {b L : Nat} {xs : Nat → Int32} (hL : L ≤ 384) (C0 : lw_At p s m meth c b L xs)
    (hw : q_wp 100 2000 16000 0 [.ref 2, q_jk, q_jk, q_jk] [] (q_h0 L xs) (fun r _ => r = some (.int 1))) : W p l e room_1 s m #[Value.ref b] below meth c s.heap [] 0 0 (lw_Z below #[Value.ref b] s) (entryFrame m ([Value.ref b] : List Value).toArray 4) := by
  obtain ⟨hx, hb, hr, hml, hown, hts, hX, hbl, hlocks, hgv⟩ := id C0
  have hf := flat_of_before _ hgv
  have hA : ∀ a : Nat, a < s.heap.size → ¬ q_A s.heap.size a := fun a h => Nat.not_le.mpr h
  -- the classes
  have hcl : ∀ ci : Nat, ∃ q : ClassId × (Nat → Nat), ci < 9 → u_Kn s (q_cn ci) (q_TT ci) (q_NF ci) q.1 q.2 := fun ci => by
    by_cases h9 : ci < 9
    · obtain ⟨cC, iS, h⟩ := u_known (C := q_cn ci) (T := q_TT ci) (N := q_NF ci) hts (fun w hw => q_gd_tbl w (q_us9 ci h9 w hw)) (hts _ (q_inst9 ci h9))
      exact ⟨(cC, iS), fun _ => h⟩
    · exact ⟨(0, fun _ => 0), fun h => absurd h h9⟩
  obtain ⟨fD, hfD⟩ := Classical.axiomOfChoice hcl
  have har : ∀ k : Nat, ∃ cA : ClassId, ((100 ≤ k ∧ k < 104) ∨ k = 111 ∨ k = 114 ∨ k = 115 ∨ k = 116) → ArrOfT s cA (q_aty k) ∧ va_RA s cA (q_aty k) := fun k => by
    by_cases hk : (100 ≤ k ∧ k < 104) ∨ k = 111 ∨ k = 114 ∨ k = 115 ∨ k = 116
    · have prim : ∀ t : FieldType, (∀ C, t ≠ .object C) → Cond.arrayClass t ∈ q_gd → ∃ cA : ClassId, ArrOfT s cA t ∧ va_RA s cA t := fun t ho hw => by
        obtain ⟨cA, kA, comp, h1, h2, h3⟩ := Cond.arrayClass_spec (hts _ (q_gd_tbl _ hw))
        refine ⟨cA, fun N z => ⟨(fun q hq => by cases hq), kA, h2, comp, h3⟩, ?_⟩
        cases t <;> first | exact h1 | exact absurd rfl (ho _)
      have obj : ∀ ci, (4 ≤ ci ∧ ci < 7 ∨ ci = 1) → ∃ cA : ClassId, ArrOfT s cA (.object (q_cn ci)) ∧ va_RA s cA (.object (q_cn ci)) := fun ci hci => by
        obtain ⟨comp, cA, kA, h1, -, h3, h4, h5⟩ := Cond.arrayOver_spec (hts _ (q_w_ao ci hci))
        exact ⟨cA, fun N z => ⟨(fun q hq => by cases hq), kA, h3, comp, h4⟩, kA, comp, h3, h4, h1, h5⟩
      rcases (show k = 100 ∨ k = 101 ∨ k = 102 ∨ k = 103 ∨ k = 111 ∨ k = 114 ∨ k = 115 ∨ k = 116 by omega) with rfl | rfl | rfl | rfl | rfl | rfl | rfl | rfl
      · obtain ⟨cA, h⟩ := prim .int (fun C z => by cases z) q_ac_i; exact ⟨cA, fun _ => h⟩
      · obtain ⟨cA, h⟩ := prim .byte (fun C z => by cases z) q_ac_b; exact ⟨cA, fun _ => h⟩
      · obtain ⟨cA, h⟩ := prim .long (fun C z => by cases z) q_ac_l; exact ⟨cA, fun _ => h⟩
      · obtain ⟨comp, cA, kA, h1, -, h3, h4, h5⟩ := arrayOverA_spec (hts _ q_w_aoi)
        exact ⟨cA, fun _ => ⟨fun N z => ⟨(fun q hq => by cases hq), kA, h3, comp, h4⟩, h5⟩⟩
      · obtain ⟨cA, h⟩ := obj 1 (by omega); exact ⟨cA, fun _ => h⟩
      · obtain ⟨cA, h⟩ := obj 4 (by omega); exact ⟨cA, fun _ => h⟩
      · obtain ⟨cA, h⟩ := obj 5 (by omega); exact ⟨cA, fun _ => h⟩
      · obtain ⟨cA, h⟩ := obj 6 (by omega); exact ⟨cA, fun _ => h⟩
    · exact ⟨0, fun h => absurd h hk⟩
  obtain ⟨ca, hca⟩ := Classical.axiomOfChoice har
  -- statics and texts
  obtain ⟨tE, eE, TE⟩ := va_Tof (tm := .static "ComesBack$Flight" "EAST" "[I") (ty := .int) (N := 16) (f := fun j => .int (q_east.getD j 0)) (A := q_A s.heap.size) (by decide) (hf _ (q_fl _ q_n_ea.1)) (va_eqt (hf _ (q_fl _ q_n_ea.2))) (fun j hj => va_eqt (hf _ (q_fl _ (q_n_east j hj)))) hA
  obtain ⟨tK, eK, TK⟩ := va_Tof (tm := .static "ComesBack$Toss" "KIND_ABOVE" "[I") (ty := .int) (N := 6) (f := fun j => .int (q_above.getD j 0)) (A := q_A s.heap.size) (by decide) (hf _ (q_fl _ q_n_ka.1)) (va_eqt (hf _ (q_fl _ q_n_ka.2))) (fun j hj => va_eqt (hf _ (q_fl _ (q_n_above j hj)))) hA
  obtain ⟨adK, adV, hSt0⟩ := q_Sof (N := 13) (tm := q_tm) (len := q_len) (byt := q_byt) (A := q_A s.heap.size) q_n_len (fun i hi => hf _ (q_fl _ (q_n_s1 i hi).1)) (fun i hi => hf _ (q_fl _ (q_n_s1 i hi).2.1)) (fun i hi => hf _ (q_fl _ (q_n_s1 i hi).2.2.1)) (fun i hi => hf _ (q_fl _ (q_n_s1 i hi).2.2.2)) (fun i hi j hj => hf _ (q_fl _ (q_n_s2 i hi j hj))) hA
  have hStE := fun i hi => (hSt0 i hi).1
  have hSt := fun i hi => (hSt0 i hi).2
  have hq := va_Zqof (hts _ (q_lst 3 (by omega)).1) (hts _ (q_lst 3 (by omega)).2) (hf _ (q_fl _ q_n_cs.2)) hA
  obtain ⟨sio, hsio, hZio⟩ : ∃ sio : Value, (sio = .null ∨ ∃ t, sio = .ref t) ∧ va_Z (q_stn 3).1 (q_stn 3).2.1 (q_stn 3).2.2 sio (q_A s.heap.size) s s.heap := by
    rcases hq with h | ⟨t, h⟩
    · exact ⟨.null, Or.inl rfl, h⟩
    · exact ⟨.ref t, Or.inr ⟨t, rfl⟩, h⟩
  obtain ⟨sp, hsp0, hsp1, hsp2, hspK, hspV⟩ : ∃ sp : Nat → Nat, sp 0 = tE ∧ sp 1 = tK ∧ sp 2 = b ∧ (∀ i, i < 13 → sp (3 + i) = adK i) ∧ ∀ i, i < 13 → sp (16 + i) = adV i := by
    refine ⟨fun a => if a = 0 then tE else if a = 1 then tK else if a = 2 then b else if a < 16 then adK (a - 3) else adV (a - 16), rfl, rfl, rfl, fun i hi => ?_, fun i hi => ?_⟩
    · dsimp only
      rw [if_neg (by omega), if_neg (by omega), if_neg (by omega), if_pos (by omega)]
      congr 1; omega
    · dsimp only
      rw [if_neg (by omega), if_neg (by omega), if_neg (by omega), if_neg (by omega)]
      congr 1; omega
  have hTb : q_Tb (fun k => (fD k).1, fun k => (fD k).2) ca sp s := by
    refine ⟨⟨fun ci q hq => ?_, fun k q h => by simp at h⟩, fun k hk => hca k hk, fun w hw hbad => ?_, fun j ev he => ?_⟩
    · have h9 : ci < 9 := (List.getElem?_eq_some_iff.mp hq).1
      rw [q_cl9 ci h9] at hq
      cases hq
      exact hfD ci h9
    · have h1 := hts w hw
      cases w <;> first | (exact Bool.noConfusion hbad) | exact va_tabs rfl rfl h1 | exact h1
    · have hj : j < 13 := (List.getElem?_eq_some_iff.mp he).1
      have h1 := hts _ (List.mem_of_getElem? (q_strw ev (List.mem_of_getElem? he)))
      have h2 := hStE j hj
      have e1 : q_tm j = .string (q_cn ev.1) ev.2.1 := by unfold q_tm; rw [he]
      rw [e1] at h2
      rw [hspK j hj]
      exact vk_R.of (A := #[Value.ref b]) h1 h2
  have hSp : q_Sp s.heap.size sp sio s s.heap (q_h0 L xs) := by
    refine ⟨fun j hj => ?_, fun a ha => ?_, fun a h3 ha => ?_, fun a h3 ha => ?_, fun a h3 ha => ?_⟩
    · rcases (show j = 0 ∨ j = 1 ∨ j = 2 ∨ j = 3 by omega) with rfl | rfl | rfl | rfl
      · have : va_Z "ComesBack$Flight" "EAST" "[I" (.ref (sp 0)) (q_A s.heap.size) s s.heap := by rw [hsp0]; exact va_Zof (hts _ (q_lst 0 (by omega)).1) (hts _ (q_lst 0 (by omega)).2) eE hA
        exact this
      · have : va_Z "ComesBack$Toss" "KIND_ABOVE" "[I" (.ref (sp 1)) (q_A s.heap.size) s s.heap := by rw [hsp1]; exact va_Zof (hts _ (q_lst 1 (by omega)).1) (hts _ (q_lst 1 (by omega)).2) eK hA
        exact this
      · exact va_Zof (hts _ (q_lst 2 (by omega)).1) (hts _ (q_lst 2 (by omega)).2) (va_eqt (hf _ (q_fl _ q_n_cs.1))) hA
      · exact hZio
    · rcases (show a = 0 ∨ a = 1 ∨ a = 2 by omega) with rfl | rfl | rfl
      · exact ⟨rfl, by rw [hsp0]; exact TE⟩
      · exact ⟨rfl, by rw [hsp1]; exact TK⟩
      · obtain ⟨scr, x1, x2, x3, x4, x5⟩ := hX
        refine ⟨rfl, scr, by rw [hsp2]; exact x1, x2, x3, Nat.le_of_eq x4.symm, by rw [x4]; rfl, fun j hj => x5 j hj, by rw [hsp2]; exact hA b hbl⟩
    · obtain ⟨i, rfl⟩ : ∃ i, a = 3 + i := ⟨a - 3, by omega⟩
      have hi : i < 13 := by omega
      obtain ⟨y1, y2, y3, y4⟩ := hSt i hi
      have e1 : (q_h0 L xs).2.2.2.1 (3 + i) = (200, 0) := by
        show q_sK L (3 + i) = _
        unfold q_sK
        rw [if_neg (by omega), if_neg (by omega), if_neg (by omega), if_pos (by omega)]
      refine ⟨by rw [e1], by rw [hspK i hi]; exact y1, by rw [hspK i hi]; exact y2, ?_⟩
      rw [hspK i hi, show 3 + i + 13 = 16 + i by omega, hspV i hi]
      exact y3
    · obtain ⟨i, rfl⟩ : ∃ i, a = 16 + i := ⟨a - 16, by omega⟩
      have hi : i < 13 := by omega
      obtain ⟨y1, y2, y3, y4⟩ := hSt i hi
      have e1 : (q_h0 L xs).2.2.2.1 (16 + i) = (101, q_len.getD i 0) := by
        show q_sK L (16 + i) = _
        unfold q_sK
        rw [if_neg (by omega), if_neg (by omega), if_neg (by omega), if_neg (by omega), if_pos (by omega)]
        congr 2; omega
      have e2 : ∀ j, (q_h0 L xs).1 (16 + i) j = (q_byt.getD i []).getD j 0 := fun j => by
        show q_sI xs (16 + i) j = _
        unfold q_sI
        rw [if_neg (by omega), if_neg (by omega), if_neg (by omega), if_neg (by omega), if_pos (by omega)]
        congr 2; omega
      refine ⟨by rw [e1], ?_⟩
      rw [hspV i hi, e1]
      simp only [e2]
      exact y4
    · show (q_sK L a).1 = 300
      unfold q_sK
      rw [if_neg (by omega), if_neg (by omega), if_neg (by omega), if_neg (by omega), if_neg (by omega)]
  have hHp : q_Hp (fun k => (fD k).1, fun k => (fD k).2) ca s.heap.size sp sio s.heap (q_h0 L xs) := by
    refine ⟨rfl, Nat.le_refl _, fun a h1 h2 => absurd h2 (Nat.not_lt.mpr h1), fun a ha => ?_⟩
    have ha : 32 ≤ a := ha
    show (q_sK L a).1 = 300
    unfold q_sK
    rw [if_neg (by omega), if_neg (by omega), if_neg (by omega), if_neg (by omega), if_neg (by omega)]
  have hC : q_Cx (fun k => (fD k).1, fun k => (fD k).2) ca s.heap.size sp sio p room_1 s m #[Value.ref b] meth c 16000 99 2000 (q_h0 L xs) := by
    refine ⟨hx, hb, hml, hown, fun w hw => hts w (q_gd_tbl w hw), hTb, hSp, Nat.le_refl _, hsio, fun hi => absurd hi (by decide), Nat.le_of_ble_eq_true rfl, Nat.le_of_ble_eq_true rfl, Nat.le_of_ble_eq_true rfl, Nat.le_of_ble_eq_true rfl⟩
  have hR : q_Rt (fun k => (fD k).1, fun k => (fD k).2) ca s.heap.size sp sio p l e room_1 s m #[Value.ref b] below meth c 16000 2000 (q_h0 L xs) (fun r _ => r = some (.int 1)) (lw_Z below #[Value.ref b] s) := by
    intro c1 pc LS H locs h1 hc1 hP1 hag hS
    refine ⟨fun v ty hdg hrt hn hQ => ?_, fun v hdg hrt hQ => ?_, fun v ty hdg hrt hty hv hQ => ?_, fun hdg hrt hQ => ?_⟩
    · cases hQ
      refine va_forget hS.2.2 ?_
      refine W.widen (k := 600000) (n := 7302249) (by omega) (by omega) ?_
      exact lw_ret hx hb hr hlocks hdg
    · cases hrt
    · cases hQ
      rcases hv with h | ⟨a, h, -⟩ <;> cases h
    · cases hrt
  have hX2 := q_body hC (q_Met hsio l 99) hR hw (Nat.le_refl _) _ s.heap [] (q_LR_ent (as := [.ref 2]) (n := 4) hsio (by decide)) (by rw [hml]; rfl) hHp q_ag.rf va_S.rf
  rw [lg_entry_eq]
  have e1 : ([Value.ref 2] : List Value).map (q_rv s.heap.size sp sio) = [Value.ref b] := by
    show [q_rv s.heap.size sp sio (.ref 2)] = _
    rw [q_rv_ref (by omega)]
    unfold q_ad
    rw [if_pos (by omega), hsp2]
  rw [e1] at hX2
  simpa using hX2

