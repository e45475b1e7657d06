/-! the start's facts: statics, String constants, words that are no table words of a callee -/
section QC
variable (D : va_G) (ca : Nat → ClassId) (B : Nat) (sp : Nat → Nat) (sio : Value)
def q_A : Nat → Prop := fun q => B ≤ q
def q_stv (j : Nat) : Value := if j = 0 then .ref 0 else if j = 1 then .ref 1 else if j = 2 then .int 1 else .ref 29
def q_isB (w : Cond) : Bool := match w with
  | .methodLinkNest _ _ _ _ => true
  | .arrayOver _ => true
  | _ => false
/-- of a state's tables alone -/
def q_Tb (U : State) : Prop := va_K D vwCl [] U ∧ q_Ar ca U ∧ (∀ w ∈ lw_tbl, q_isB w = true → w.before #[] U = true) ∧ ∀ j e, q_kS[j]? = some e → vk_R (q_cn e.1) e.2.1 e.2.2.1 (sp (3 + j)) U
/-- of a state's old cells -/
def q_Sp (U : State) (H : Heap) (h : q_H) : Prop :=
  (∀ j, j < 4 → va_Z (q_stn j).1 (q_stn j).2.1 (q_stn j).2.2 (q_rv B sp sio (q_stv j)) (q_A B) U H) ∧
  (∀ a, a < 3 → (h.2.2.2.1 a).1 = 100 ∧ va_T .int (sp a) (h.2.2.2.1 a).2 (fun j => .int (h.1 a j)) (q_A B) U H) ∧
  (∀ a, 3 ≤ a → a < 16 → (h.2.2.2.1 a).1 = 200 ∧ va_O "java/lang/String" (sp a) (q_A B) U H ∧ va_OF "java/lang/String" "coder" "B" (.int 0) (sp a) (q_A B) U H ∧ va_OF "java/lang/String" "value" "[B" (.ref (sp (a + 13))) (sp a) (q_A B) U H) ∧
  (∀ a, 16 ≤ a → a < 29 → (h.2.2.2.1 a).1 = 101 ∧ va_T .byte (sp a) (h.2.2.2.1 a).2 (fun j => .int (h.1 a j)) (q_A B) U H) ∧
  ∀ a, 29 ≤ a → a < 32 → (h.2.2.2.1 a).1 = 300
def q_ag (h0 h : q_H) : Prop := ∀ a, a < 32 → h.1 a = h0.1 a ∧ h.2.2.2.1 a = h0.2.2.2.1 a
/-- a call's start and its end -/
def q_Pc (as : List Value) (h : q_H) : Array Value → State → Prop := va_Pc (as.map (q_rv B sp sio)) fun U => q_Tb D ca sp U ∧ q_Sp B sp sio U U.heap h ∧ q_Hp D ca B sp sio U.heap h
def q_Qc (h0 : q_H) (Q : Option Value → q_H → Prop) : Array Value → State → Outcome → State → Prop := fun _ st oc t => (∃ r h', oc = .returned (r.map (q_rv B sp sio)) ∧ Q r h' ∧ q_Hp D ca B sp sio t.heap h' ∧ q_ag h0 h') ∧ va_F (q_A B) st t
end QC
def q_W (M : Nat) : List Cond := .code (q_y M) (q_b M) (q_ml M) (q_rt M) :: q_gd
def q_rm (d c : Nat) : Room := { frames := d, cells := c, slots := 1200 * c, locals := 60 * d }
section QC2
variable {D : va_G} {ca : Nat → ClassId} {B : Nat} {sp : Nat → Nat} {sio : Value}
theorem q_ag.rf {h : q_H} : q_ag h h := fun _ _ => ⟨rfl, rfl⟩
theorem q_ag.tr {h0 h1 h2 : q_H} (a : q_ag h0 h1) (b : q_ag h1 h2) : q_ag h0 h2 := fun x hx => ⟨(b x hx).1.trans (a x hx).1, (b x hx).2.trans (a x hx).2⟩
theorem q_Sp.moved {u U : State} {H H1 : Heap} {h h1 : q_H} (hvm : u.vm.Alike U.vm) (hq : ∀ a : Nat, a < H.size → ¬ q_A B a → H1[a]? = H[a]?) (hag : q_ag h h1) (hs : q_Sp B sp sio u H h) : q_Sp B sp sio U H1 h1 := by
  obtain ⟨s1, s2, s3, s4, s5⟩ := hs
  refine ⟨fun j hj => ((s1 j hj).moved hvm).kept hq, fun a ha => ?_, fun a h3 ha => ?_, fun a h3 ha => ?_, fun a h3 ha => ?_⟩
  · rw [(hag a (by omega)).1, (hag a (by omega)).2]
    exact ⟨(s2 a ha).1, ((s2 a ha).2.moved hvm).kept hq⟩
  · rw [(hag a (by omega)).2]
    obtain ⟨x1, x2, x3, x4⟩ := s3 a h3 ha
    exact ⟨x1, (x2.moved hvm).kept hq, (x3.moved hvm).kept hq, (x4.moved hvm).kept hq⟩
  · rw [(hag a (by omega)).1, (hag a (by omega)).2]
    exact ⟨(s4 a h3 ha).1, ((s4 a h3 ha).2.moved hvm).kept hq⟩
  · rw [(hag a (by omega)).2]
    exact s5 a h3 ha
theorem q_Ar.moved {u U : State} (hvm : u.vm.Alike U.vm) (h : q_Ar ca u) : q_Ar ca U := fun k hk => ⟨arrOfT_moved hvm (h k hk).1, (h k hk).2.moved hvm⟩
/-- the words of arrays over a type, moved -/
theorem q_AO_moved {t : FieldType} {u U : State} (hvm : u.vm.Alike U.vm) (h : (Cond.arrayOver t).before #[] u = true) : (Cond.arrayOver t).before #[] U = true := by
  cases t with
  | object C => exact va_AO.moved hvm h
  | array t =>
    obtain ⟨comp, c, k, h1, h2, h3, h4, h5⟩ := arrayOverA_spec h
    obtain ⟨k', hk', he⟩ := hvm.2.2 _ _ h3
    have hi : (U.vm.classes.findIdx? fun (x : Class) => match x.kind with | .array component _ => component == comp | _ => false) = some c := by
      have e1 := va_idx_bare U.vm comp
      have e2 := va_idx_bare u.vm comp
      have e3 : u.vm.bare = U.vm.bare := by first | exact hvm.bare_eq | exact hvm.bare_eq.symm
      rw [e3] at e2
      exact e1.symm.trans (e2.trans h2)
    have hkind : k'.kind = .array comp (.array t) := by rw [he]; exact h4
    have f1 : U.vm.findClass (FieldType.array t).toString = some comp := by rw [hvm.findClass]; exact h1
    have f2 : U.vm.findClass ("[" ++ (FieldType.array t).toString) = some c := by rw [hvm.findClass]; exact h5
    unfold Cond.before Cond.holds
    simp only [Cond.value]
    rw [f1, Option.bind_some]
    refine (congrArg (fun o : Option Nat => (o.bind (fun c => (U.vm.classes[c]?).map fun (k : Class) => match k.kind with | .array _ ty => decide (ty = FieldType.array t) && decide (U.vm.findClass ("[" ++ (FieldType.array t).toString) = some c) | _ => false) == some true)) hi).trans ?_
    simp [hk', hkind, f2]
  | _ => exact Bool.noConfusion h
theorem q_Tb.warm {u U : State} (hW : u.WarmedH U.vm) (h : q_Tb D ca sp u) : q_Tb D ca sp U := by
  obtain ⟨h1, h2, h3, h4⟩ := h
  refine ⟨va_K.moved hW.alike h1, h2.moved hW.alike, fun w hw hb => ?_, fun j e he => vk_R.warm hW (h4 j e he)⟩
  cases w <;> first | (exact Bool.noConfusion hb) | skip
  case methodLinkNest a i x n => exact va_Nw.warmM hW (h3 _ hw rfl)
  case arrayOver t => exact q_AO_moved hW.alike (h3 _ hw rfl)
theorem q_Tb.same {u U : State} (hv : u.vm = U.vm) (h : q_Tb D ca sp u) : q_Tb D ca sp U := by
  obtain ⟨h1, h2, h3, h4⟩ := h
  have ha : u.vm.Alike U.vm := by rw [hv]; exact Vm.Alike.refl _
  refine ⟨va_K.moved ha h1, h2.moved ha, fun w hw hb => ?_, fun j e he => vk_R.same hv.symm (h4 j e he)⟩
  cases w <;> first | (exact Bool.noConfusion hb) | skip
  case methodLinkNest a i x n => exact va_Nw.same rfl hv (h3 _ hw rfl)
  case arrayOver t => exact q_AO_moved ha (h3 _ hw rfl)
theorem q_Pc_blind {as : List Value} {h : q_H} : FrameBlind (q_Pc D ca B sp sio as h) := by
  intro a U g mk hP
  obtain ⟨h1, h2, h3, h4⟩ := hP
  exact ⟨h1, q_Tb.same (u := U) (U := U.calling g mk a) rfl h2, q_Sp.moved (u := U) (Vm.Alike.refl U.vm) (fun _ _ _ => rfl) q_ag.rf h3, h4⟩
theorem q_W_good {M : Nat} (h : q_mok M) : GoodIn q_gd (q_W M) := by
  intro w hw
  have hw : w ∈ q_gd := by
    rcases List.mem_cons.mp hw with rfl | hw
    · exact h.1
    · exact hw
  exact ⟨hw, good_of_word (q_gd_good w hw)⟩
end QC2
