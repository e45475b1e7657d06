section QS6
variable {p : Program} {l : Launch} {e : Env} {R : Room} {s : State} {m : MethodId} {args : Array Value} {below : List Frame} {meth : Method} {cd : Code}
variable {D : va_G} {ca : Nat → ClassId} {B : Nat} {sp : Nat → Nat} {sio : Value}
variable {M d c0 : Nat} {h0 : q_H} {Q : Option Value → q_H → Prop} {Qf : State → Prop}
theorem q_outer (c : ClassId) (N a : Nat) : ∀ i : Nat, Jvm.Free.Multi.outerC c N a i = arrV c N (fun j => va_rf (if j < i then some (a + 1 + j) else none))
  | 0 => by
    show ({ cls := c, slots := Array.replicate N .null, vm := .none } : Cell) = _
    rw [arrV_new]
    refine congrArg (arrV c N) (funext fun j => ?_)
    simp [va_rf]
  | i + 1 => by
    show (Jvm.Free.Multi.outerC c N a i).setSlot i (.ref (a + 1 + i)) = _
    rw [q_outer c N a i, arrV_store]
    refine congrArg (arrV c N) (funext fun j => ?_)
    by_cases e : j = i
    · subst e
      simp [updV, va_rf]
    · by_cases h : j < i
      · simp [updV, e, h, Nat.lt_succ_of_lt h]
      · simp [updV, e, h, show ¬ j < i + 1 by omega]
theorem q_s_multianewarray (C : q_Cx D ca B sp sio p R s m args meth cd M d c0 h0) {c pc n i dm : Nat} {ls st : List Value} {h : q_H} (hdg : decode (q_b M) pc = .ok (.multianewarray i dm, n))
    (hh : q_ins (q_cll d) M (q_X D ca B sp sio p l e R s m args below meth cd c0 h0 Qf) Q c pc (.multianewarray i dm) n ls st h) : q_X D ca B sp sio p l e R s m args below meth cd c0 h0 Qf c pc ls st h := by
  intro hc LS H locs hL hlen hP hag hS
  obtain ⟨hx, hb, hml, hown, hts, hTb, hSp0, hBs, hsio, hnm, hfr, hlo, hce, hsl⟩ := C
  obtain ⟨⟨rfl, rfl⟩, hh⟩ := hh
  obtain ⟨k, r1, rfl, hh2⟩ := q_pI_e hh
  obtain ⟨N, r, rfl, ⟨hk0, hN0, hk1, hcN, hN1⟩, hh3⟩ := q_pI_e hh2
  obtain ⟨pp, he, hX⟩ := q_o_e hh3
  have hm1 : N.toNatClampNeg * k.toNatClampNeg ≤ N.toNatClampNeg * 1000 := Nat.mul_le_mul_left _ hk1
  show W p l e R s m args below meth cd H locs (c0 - c) (1200 * (c0 - c)) Qf (F0 m pc LS (.int k :: .int N :: r.map (q_rv B sp sio)))
  refine W.widen (k := c0 - c) (n := 1200 * (c0 - c)) (by omega) (by omega) ?_
  intro T hT Xs
  obtain ⟨vm₁, cA, comp, -, fA, fC, -, -, X', step⟩ := Xs.multianewarray2F (ty := .int) hx hown (hts _ (q_mt_ok he)) ((hTb.2.2.1 _ q_w_aoi rfl)) (hts _ q_ac_i) (g := F0 m pc LS (.int k :: .int N :: r.map (q_rv B sp sio))) rfl (by rw [hb]; exact hdg) rfl hN0 hk0 (by omega) (by show k.toNatClampNeg * 4 ≤ _; omega) (by omega) rfl rfl (by omega) (by omega)
  have hra : s.vm.findClass ("[" ++ (FieldType.array .int).toString) = some (ca 103) := (hTb.2.1 103 (by omega)).2
  have hri : s.vm.findClass ("[" ++ FieldType.int.toString) = some (ca 100) := (hTb.2.1 100 (by omega)).2
  have ec1 : cA = ca 103 := Option.some.inj (fA.symm.trans hra)
  have ec2 : comp = ca 100 := Option.some.inj (fC.symm.trans hri)
  subst ec1
  subst ec2
  generalize hF : Jvm.Free.Multi.fill (T.setVm vm₁) (ca 103) (ca 100) N.toNatClampNeg k.toNatClampNeg (defaultValue .int) N.toNatClampNeg = F at X' step
  have hTh : (T.setVm vm₁).heap = H := hT
  obtain ⟨f1, f2, -, -⟩ := Jvm.Free.Multi.fill_facts (T.setVm vm₁) (ca 103) (ca 100) N.toNatClampNeg k.toNatClampNeg (defaultValue .int) N.toNatClampNeg
  rw [hF, hTh] at f1 f2
  have hold : ∀ x : Nat, x < H.size → F.heap[x]? = H[x]? := fun x hx => by
    have := Jvm.Free.Multi.fill_old (T.setVm vm₁) (ca 103) (ca 100) N.toNatClampNeg k.toNatClampNeg (defaultValue .int) (a := x) (by rw [hTh]; exact hx) N.toNatClampNeg
    rw [hF, hTh] at this
    exact this
  have hrow : ∀ j : Nat, j < N.toNatClampNeg → F.heap[H.size + 1 + j]? = some (Jvm.Free.Multi.innerC (ca 100) k.toNatClampNeg (defaultValue .int)) := fun j hj => by
    have := Jvm.Free.Multi.fill_inner (T.setVm vm₁) (ca 103) (ca 100) N.toNatClampNeg k.toNatClampNeg (defaultValue .int) N.toNatClampNeg j hj
    rw [hF, hTh] at this
    exact this
  rw [q_outer] at f2
  have hsz : F.heap.size = H.size + (1 + N.toNatClampNeg) := by rw [f1]; omega
  have hn32 := hP.2.1
  have hHs := hP.1
  have hin : ∀ b, h.2.2.2.2 ≤ b → b < h.2.2.2.2 + (1 + N.toNatClampNeg) → h.2.2.2.2 ≤ b ∧ b ≤ h.2.2.2.2 + N.toNatClampNeg := fun b h1 h2 => ⟨h1, by omega⟩
  have hP1 : q_Hp D ca B sp sio F.heap (q_mal2 h N.toNatClampNeg k.toNatClampNeg) := by
    refine q_Hp_new (1 + N.toNatClampNeg) hP (by show h.2.2.2.2 + 1 + N.toNatClampNeg = _; omega) (fun b hb => ?_) (fun b hb => ?_) hsz hold (fun b h1 h2 => ?_)
    · have hne : ¬ (h.2.2.2.2 ≤ b ∧ b ≤ h.2.2.2.2 + N.toNatClampNeg) := by omega
      exact ⟨if_neg hne, if_neg hne, if_neg hne, if_neg hne⟩
    · exact if_neg (by omega)
    · have hin := hin b h1 h2
      have eK : (q_mal2 h N.toNatClampNeg k.toNatClampNeg).2.2.2.1 b = if b = h.2.2.2.2 then (103, N.toNatClampNeg) else (100, k.toNatClampNeg) := if_pos hin
      have eR : (q_mal2 h N.toNatClampNeg k.toNatClampNeg).2.2.1 b = fun j => if b = h.2.2.2.2 ∧ j < N.toNatClampNeg then some (h.2.2.2.2 + 1 + j) else none := if_pos hin
      have eI : (q_mal2 h N.toNatClampNeg k.toNatClampNeg).1 b = fun _ => 0 := if_pos hin
      by_cases e1 : b = h.2.2.2.2
      · rw [if_pos e1] at eK
        refine ⟨by rw [eK]; show q_vk 103; unfold q_vk; omega, ?_⟩
        unfold q_At
        rw [eK, if_neg (show ¬ (103 : Nat) < 9 by decide)]
        rw [e1, q_ad_n hP, f2]
        congr 2
        funext j
        unfold q_cv
        rw [← e1, eK, if_neg (show ¬ (103 : Nat) < 102 by decide), if_neg (show ¬ (103 : Nat) = 102 by decide), eR]
        dsimp only
        by_cases hj : j < N.toNatClampNeg
        · rw [if_pos hj, if_pos ⟨e1, hj⟩]
          show Value.ref (H.size + 1 + j) = q_rv B sp sio (.ref (h.2.2.2.2 + 1 + j))
          rw [q_rv_ref (by omega), q_ad_ge (by omega)]
          have e9 : H.size + 1 + j = B + (h.2.2.2.2 + 1 + j - 32) := by omega
          rw [e9]
        · rw [if_neg hj, if_neg (fun z => hj z.2)]
          rfl
      · rw [if_neg e1] at eK
        refine ⟨by rw [eK]; show q_vk 100; unfold q_vk; omega, ?_⟩
        unfold q_At
        rw [eK, if_neg (show ¬ (100 : Nat) < 9 by decide)]
        have ead : q_ad B sp b = H.size + 1 + (b - h.2.2.2.2 - 1) := by rw [q_ad_ge (by omega)]; omega
        rw [ead, hrow _ (by omega)]
        show some ({ cls := ca 100, slots := Array.replicate k.toNatClampNeg (defaultValue .int), vm := .none } : Cell) = _
        rw [arrV_new]
        congr 2
        funext j
        unfold q_cv
        rw [eK, if_pos (show (100 : Nat) < 102 by decide), eI]
        rfl
  have hX2 := hX (by omega) LS F.heap locs hL hlen hP1 (fun b hb => by
      have hne : ¬ (h.2.2.2.2 ≤ b ∧ b ≤ h.2.2.2.2 + N.toNatClampNeg) := by omega
      exact ⟨(if_neg hne : (q_mal2 h N.toNatClampNeg k.toNatClampNeg).1 b = h.1 b).trans (hag b hb).1, (if_neg hne : (q_mal2 h N.toNatClampNeg k.toNatClampNeg).2.2.2.1 b = h.2.2.2.1 b).trans (hag b hb).2⟩) (q_S_grow hS (by omega) hold)
  have e2 : q_rv B sp sio (.ref h.2.2.2.2) = .ref H.size := by rw [q_rv_ref (by omega), q_ad_n hP]
  have hX2 : W p l e R s m args below meth cd F.heap locs (c0 - (c - (1 + N.toNatClampNeg))) (1200 * (c0 - (c - (1 + N.toNatClampNeg)))) Qf (F0 m (pc + 4) LS (q_rv B sp sio (.ref h.2.2.2.2) :: r.map (q_rv B sp sio))) := hX2
  rw [e2] at hX2
  have hX3 := W.widen (cells := c0 - c + 1 + N.toNatClampNeg) (slots := 1200 * (c0 - c) + N.toNatClampNeg + N.toNatClampNeg * k.toNatClampNeg) (by omega) (by omega) hX2
  obtain ⟨t, a1, b1⟩ := hX3 F rfl X'
  exact ⟨t, step t (by rw [hT]; exact a1), b1⟩
end QS6
