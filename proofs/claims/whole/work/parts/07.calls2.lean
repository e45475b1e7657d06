set_option maxRecDepth 100000 in
theorem q_cT_split : q_cT = q_cT_0 ++ (q_cT_1 ++ (q_cT_2 ++ (q_cT_3 ++ (q_cT_4 ++ (q_cT_5))))) := rfl
theorem q_cT_ok : ∀ e ∈ q_cT, q_ccheck e = true := by rw [q_cT_split]; exact List.forall_mem_append.mpr ⟨q_cTo_0, List.forall_mem_append.mpr ⟨q_cTo_1, List.forall_mem_append.mpr ⟨q_cTo_2, List.forall_mem_append.mpr ⟨q_cTo_3, List.forall_mem_append.mpr ⟨q_cTo_4, q_cTo_5⟩⟩⟩⟩⟩
