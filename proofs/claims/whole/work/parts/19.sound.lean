theorem q_Met_of {l : Launch} {y : MethodName} {ws ws' : List Cond} {rm : Room} {Pc : Array Value → State → Prop} {Qc : Array Value → State → Outcome → State → Prop} {mc ms : Nat} {free : Addr → Prop} {cc : ByteArray} {maxL : Nat} {ret : Option FieldType}
    (hy : plainFor y = true) (hw : ws = Cond.code y cc maxL ret :: ws')
    (body : ∀ p e s m args below meth c s₁, BodyLoose p l y (headSpec ws rm) cc maxL ret e s m args below meth c s₁ → c.maxLocals = maxL → Pc args s →
      W p l e (headSpec ws rm).room s m args below meth c s.heap [] 0 0 (MQ below Qc args s mc ms free) (entryFrame m args maxL)) : Met l y ws rm Pc Qc mc ms free := by
  refine MetFree.of_bodySF (code := cc) (maxLocals := maxL) (ret := ret) hy ?_ ?_
  · intro args s m h hn
    obtain ⟨meth, c, h1, h2, h3, h4, h5, h6, -, -⟩ := Cond.code_spec hn (atoms_spec (ws := ws) h _ (by rw [hw]; exact List.mem_cons_self))
    exact ⟨meth, c, h1, h2, h3, h4, h5, h6⟩
  · intro p e s m args below meth c s₁ B hml hP _
    have hh0 : s₁.heap = s.heap := by rw [B.state]; rfl
    obtain ⟨t, a1, o, b1, b2, b3⟩ := body p e s m args below meth c s₁ B hml hP s₁ hh0 (Stand.of_body B)
    exact ⟨t, o, a1, b1, b2, ⟨b3.1, b3.2⟩⟩
section QS7
variable {p : Program} {l : Launch} {e : Env} {R : Room} {s : State} {m : MethodId} {args : Array Value} {below : List Frame} {meth : Method} {cd : Code}
variable {D : va_G} {ca : Nat → ClassId} {B : Nat} {sp : Nat → Nat} {sio : Value}
variable {M d c0 : Nat} {h0 : q_H} {Q : Option Value → q_H → Prop} {Qf : State → Prop}
set_option maxHeartbeats 4000000 in
theorem q_ins_snd (C : q_Cx D ca B sp sio p R s m args meth cd M d c0 h0) (hI : q_IH D ca B sp sio l d) (hR : q_Rt D ca B sp sio p l e R s m args below meth cd M c0 h0 Q Qf) {c pc n : Nat} {i : Instr} {ls st : List Value} {h : q_H} (hdg : decode (q_b M) pc = .ok (i, n))
    (hh : q_ins (q_cll d) M (q_X D ca B sp sio p l e R s m args below meth cd c0 h0 Qf) Q c pc i n ls st h) : q_X D ca B sp sio p l e R s m args below meth cd c0 h0 Qf c pc ls st h := by
  cases i
  case iconst => exact q_s_iconst C hdg hh
  case lconst => exact q_s_lconst C hdg hh
  case bipush => exact q_s_bipush C hdg hh
  case sipush => exact q_s_sipush C hdg hh
  case aconst_null => exact q_s_aconst_null C hdg hh
  case ldc => exact q_s_ldc C hdg hh
  case ldc_w => exact q_s_ldc_w C hdg hh
  case ldc2_w => exact q_s_ldc2_w C hdg hh
  case iload => exact q_s_iload C hdg hh
  case iload_n => exact q_s_iload_n C hdg hh
  case lload => exact q_s_lload C hdg hh
  case lload_n => exact q_s_lload_n C hdg hh
  case aload => exact q_s_aload C hdg hh
  case aload_n => exact q_s_aload_n C hdg hh
  case istore => exact q_s_istore C hdg hh
  case istore_n => exact q_s_istore_n C hdg hh
  case lstore => exact q_s_lstore C hdg hh
  case lstore_n => exact q_s_lstore_n C hdg hh
  case astore => exact q_s_astore C hdg hh
  case astore_n => exact q_s_astore_n C hdg hh
  case iinc => exact q_s_iinc C hdg hh
  case iadd => exact q_s_iadd C hdg hh
  case isub => exact q_s_isub C hdg hh
  case imul => exact q_s_imul C hdg hh
  case idiv => exact q_s_idiv C hdg hh
  case irem => exact q_s_irem C hdg hh
  case ineg => exact q_s_ineg C hdg hh
  case iand => exact q_s_iand C hdg hh
  case ior => exact q_s_ior C hdg hh
  case ixor => exact q_s_ixor C hdg hh
  case ishl => exact q_s_ishl C hdg hh
  case ishr => exact q_s_ishr C hdg hh
  case iushr => exact q_s_iushr C hdg hh
  case i2l => exact q_s_i2l C hdg hh
  case i2b => exact q_s_i2b C hdg hh
  case i2s => exact q_s_i2s C hdg hh
  case i2c => exact q_s_i2c C hdg hh
  case l2i => exact q_s_l2i C hdg hh
  case ladd => exact q_s_ladd C hdg hh
  case lmul => exact q_s_lmul C hdg hh
  case ldiv => exact q_s_ldiv C hdg hh
  case lrem => exact q_s_lrem C hdg hh
  case land => exact q_s_land C hdg hh
  case lor => exact q_s_lor C hdg hh
  case lshl => exact q_s_lshl C hdg hh
  case lshr => exact q_s_lshr C hdg hh
  case lushr => exact q_s_lushr C hdg hh
  case lcmp => exact q_s_lcmp C hdg hh
  case dup => exact q_s_dup C hdg hh
  case pop => exact q_s_pop C hdg hh
  case dup_x1 => exact q_s_dup_x1 C hdg hh
  case dup2 => exact q_s_dup2 C hdg hh
  case goto => exact q_s_goto C hdg hh
  case ifnull => exact q_s_ifnull C hdg hh
  case ifnonnull => exact q_s_ifnonnull C hdg hh
  case tableswitch => exact q_s_tableswitch C hdg hh
  case lookupswitch => exact q_s_lookupswitch C hdg hh
  case iaload => exact q_s_iaload C hdg hh
  case baload => exact q_s_baload C hdg hh
  case laload => exact q_s_laload C hdg hh
  case aaload => exact q_s_aaload C hdg hh
  case iastore => exact q_s_iastore C hdg hh
  case bastore => exact q_s_bastore C hdg hh
  case lastore => exact q_s_lastore C hdg hh
  case aastore => exact q_s_aastore C hdg hh
  case arraylength => exact q_s_arraylength C hdg hh
  case newarray => exact q_s_newarray C hdg hh
  case anewarray => exact q_s_anewarray C hdg hh
  case multianewarray => exact q_s_multianewarray C hdg hh
  case new => exact q_s_new C hdg hh
  case getfield => exact q_s_getfield C hdg hh
  case putfield => exact q_s_putfield C hdg hh
  case getstatic => exact q_s_getstatic C hdg hh
  case invokestatic => exact q_s_invokestatic C hI hdg hh
  case invokevirtual => exact q_s_invokevirtual C hI hdg hh
  case invokespecial => exact q_s_invokespecial C hI hdg hh
  case ifCond cond off =>
    cases cond
    case eq => exact q_s_ifCond_eq C hdg hh
    case ne => exact q_s_ifCond_ne C hdg hh
    case lt => exact q_s_ifCond_lt C hdg hh
    case ge => exact q_s_ifCond_ge C hdg hh
    case gt => exact q_s_ifCond_gt C hdg hh
    case le => exact q_s_ifCond_le C hdg hh
  case if_icmp cond off =>
    cases cond
    case eq => exact q_s_if_icmp_eq C hdg hh
    case ne => exact q_s_if_icmp_ne C hdg hh
    case lt => exact q_s_if_icmp_lt C hdg hh
    case ge => exact q_s_if_icmp_ge C hdg hh
    case gt => exact q_s_if_icmp_gt C hdg hh
    case le => exact q_s_if_icmp_le C hdg hh
  case ireturn =>
    obtain ⟨rfl, hh⟩ := hh
    obtain ⟨v, r, rfl, hh2⟩ := q_pI_e hh
    obtain ⟨ty, hrt, ⟨rfl, hn⟩, hQ⟩ := q_o_e hh2
    intro hc LS H locs hL hlen hP hag hS
    exact (hR c pc LS H locs h hc hP hag hS).1 v ty hdg hrt hn hQ
  case lreturn =>
    obtain ⟨rfl, hh⟩ := hh
    obtain ⟨v, r, rfl, ⟨rfl, hrt⟩, hQ⟩ := q_pJ_e hh
    intro hc LS H locs hL hlen hP hag hS
    exact (hR c pc LS H locs h hc hP hag hS).2.1 v hdg hrt hQ
  case areturn =>
    obtain ⟨rfl, hh⟩ := hh
    rcases q_pA_e hh with ⟨x, r, rfl, hh2⟩ | ⟨r, rfl, hh2⟩
    · obtain ⟨ty, hrt, ⟨rfl, hty, hro⟩, hQ⟩ := q_o_e hh2
      intro hc LS H locs hL hlen hP hag hS
      exact (hR c pc LS H locs h hc hP hag hS).2.2.1 (.ref x) ty hdg hrt hty (Or.inr ⟨x, rfl, hro⟩) hQ
    · obtain ⟨ty, hrt, ⟨rfl, hty, -⟩, hQ⟩ := q_o_e hh2
      intro hc LS H locs hL hlen hP hag hS
      exact (hR c pc LS H locs h hc hP hag hS).2.2.1 .null ty hdg hrt hty (Or.inl rfl) hQ
  case return_ =>
    obtain ⟨rfl, ⟨rfl, hrt⟩, hQ⟩ := hh
    intro hc LS H locs hL hlen hP hag hS
    exact (hR c pc LS H locs h hc hP hag hS).2.2.2 hdg hrt hQ
  all_goals exact False.elim hh
/-- a walk of a method's body -/
theorem q_body (C : q_Cx D ca B sp sio p R s m args meth cd M d c0 h0) (hI : q_IH D ca B sp sio l d) (hR : q_Rt D ca B sp sio p l e R s m args below meth cd M c0 h0 Q Qf) {c pc : Nat} {ls st : List Value} {h : q_H} (hw : q_wp (d + 1) c M pc ls st h Q) : q_X D ca B sp sio p l e R s m args below meth cd c0 h0 Qf c pc ls st h := by
  refine hw (q_X D ca B sp sio p l e R s m args below meth cd c0 h0 Qf) (fun c pc ls st h hs => ?_)
  unfold q_step at hs
  split at hs
  · rename_i i n hd
    exact q_ins_snd C hI hR hd hs
  · exact hs.elim
end QS7
section QS8
variable {D : va_G} {ca : Nat → ClassId} {B : Nat} {sp : Nat → Nat} {sio : Value}
theorem q_Met (hsio : sio = .null ∨ ∃ t, sio = .ref t) (l : Launch) : ∀ d, q_IH D ca B sp sio l d
  | 0 => fun _ _ _ _ _ _ _ h => h.elim
  | d + 1 => by
    have hI := q_Met hsio l d
    intro M c as h Q hmo hfit hw
    refine q_Met_of (cc := q_b M) (maxL := q_ml M) (ret := q_rt M) hmo.2.2.2.1 rfl ?_
    intro p e s m args below meth cd s₁ Bd hml hv
    obtain ⟨rfl, hTb, hSp, hP⟩ := hv
    have hts0 := atoms_spec (ws := q_W M) Bd.pre
    have hC : q_Cx D ca B sp sio p (headSpec (q_W M) (q_rm (d + 1) c)).room s m (as.map (q_rv B sp sio)).toArray meth cd M d c h := by
      refine ⟨Bd.exec, Bd.bytes, hml, ?_, fun w hw => hts0 w (List.mem_cons_of_mem _ hw), hTb, hSp, ?_, hsio, fun hi => (name_of_methodNamed Bd.named Bd.method).1.trans hi, Nat.le_refl _, Nat.le_refl _, Nat.le_refl _, Nat.le_refl _⟩
      · rw [← hmo.2.2.1]; exact findClass_of_methodNamed Bd.named
      · have := hP.1; have := hP.2.1; omega
    have hR : q_Rt D ca B sp sio p l e (headSpec (q_W M) (q_rm (d + 1) c)).room s m (as.map (q_rv B sp sio)).toArray below meth cd M c h Q (MQ below (q_Qc D ca B sp sio h Q) (as.map (q_rv B sp sio)).toArray s c (1200 * c) (q_A B)) := by
      intro c1 pc LS H locs h1 hc1 hP1 hag hS
      have hlocks := Bd.notSynchronized
      have hf : ∀ q ∈ locs, q_A B q.base := hS.2.2
      refine ⟨fun v ty hdg hrt hn hQ => ?_, fun v hdg hrt hQ => ?_, fun v ty hdg hrt hty hv hQ => ?_, fun hdg hrt hQ => ?_⟩
      · refine W.widen (k := c) (n := 1200 * c) (by omega) (by omega) ?_
        exact W.zret Bd.exec Bd.bytes (Bd.returns.trans hrt) hn (fun t ht hWt => ⟨⟨some (.int v), h1, rfl, hQ, by rw [ht]; exact hP1, hag⟩, hS.F ht⟩) hf hdg hlocks
      · refine W.widen (k := c) (n := 1200 * c) (by omega) (by omega) ?_
        exact W.lret Bd.exec Bd.bytes (Bd.returns.trans hrt) (fun t ht hWt => ⟨⟨some (.long v), h1, rfl, hQ, by rw [ht]; exact hP1, hag⟩, hS.F ht⟩) hf hdg hlocks
      · refine W.widen (k := c) (n := 1200 * c) (by omega) (by omega) ?_
        have hty2 : (∃ n, ty = .object n) ∨ ∃ t, ty = .array t := by
          cases ty <;> first | exact Or.inl ⟨_, rfl⟩ | exact Or.inr ⟨_, rfl⟩ | exact Bool.noConfusion hty
        have hv2 : q_rv B sp sio v = .null ∨ ∃ a, q_rv B sp sio v = .ref a := by
          rcases hv with rfl | ⟨a, rfl, ha⟩
          · exact Or.inl rfl
          · exact Or.inr ⟨_, q_rv_ref (fun z => absurd ha (by rw [z]; decide))⟩
        exact W.aret Bd.exec Bd.bytes (Bd.returns.trans hrt) hty2 hv2 (fun t ht hWt => ⟨⟨some v, h1, rfl, hQ, by rw [ht]; exact hP1, hag⟩, hS.F ht⟩) hf hdg hlocks
      · refine W.widen (k := c) (n := 1200 * c) (by omega) (by omega) ?_
        exact W.vret Bd.exec Bd.bytes (Bd.returns.trans hrt) (fun t ht hWt => ⟨⟨none, h1, rfl, hQ, by rw [ht]; exact hP1, hag⟩, hS.F ht⟩) hf hdg hlocks
    have hX := q_body hC hI hR hw (Nat.le_refl _) _ s.heap [] (q_LR_ent hsio hfit) (by rw [q_ent_len as _ hfit, hml]) hP q_ag.rf va_S.rf
    rw [lg_entry_eq]
    simpa using hX
end QS8
