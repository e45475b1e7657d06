/-! the constructor of the class: the first law -/
def z_by (j : Nat) : Nat := ([108, 105, 102, 116, 32, 116, 105, 108, 116, 32, 45, 32, 54, 32, 43, 32, 115, 116, 105, 99, 107, 32, 59, 32, 116, 117, 114, 110, 32, 50, 32, 43, 32, 40, 115, 112, 105, 110, 32, 60, 32, 49, 48, 41, 32, 59, 32, 115, 108, 111, 119, 32, 49, 32, 43, 32, 115, 116, 105, 99, 107, 32, 59] : List Nat).getD j 0
def z_ts : List (Nat × Nat × Nat) := [(3, 0, 0), (2, 2, 5), (45, 0, 10), (1, 6, 12), (43, 0, 14), (2, 4, 16), (59, 0, 22), (3, 1, 24), (1, 2, 29), (43, 0, 31), (40, 0, 33), (2, 1, 34), (60, 0, 39), (1, 10, 41), (41, 0, 43), (59, 0, 45), (3, 2, 47), (1, 1, 52), (43, 0, 54), (2, 4, 56), (59, 0, 62)]
def z_o1 : List Nat := [16, 4, 17, 100006, 2]
def z_o2 : List Nat := [16, 14, 100010, 1, 100002]
def z_o3 : List Nat := [16, 4, 100001]
theorem zb_byt : ∀ j : Fin 63, (q_byt.getD 0 []).getD j.1 0 = Int32.ofNat (z_by j.1) ∧ z_by j.1 < 128 := by decide +kernel
theorem z_lx : x_lx z_by 63 0 z_ts := by
  unfold z_ts
  refine ⟨by decide +kernel, by decide +kernel, ⟨by decide +kernel, by decide +kernel, ⟨by decide +kernel, by decide +kernel, ⟨by decide +kernel, by decide +kernel, ⟨by decide +kernel, by decide +kernel, ⟨by decide +kernel, by decide +kernel, ⟨by decide +kernel, by decide +kernel, ⟨by decide +kernel, by decide +kernel, ⟨by decide +kernel, by decide +kernel, ⟨by decide +kernel, by decide +kernel, ⟨by decide +kernel, by decide +kernel, ⟨by decide +kernel, by decide +kernel, ⟨by decide +kernel, by decide +kernel, ⟨by decide +kernel, by decide +kernel, ⟨by decide +kernel, by decide +kernel, ⟨by decide +kernel, by decide +kernel, ⟨by decide +kernel, by decide +kernel, ⟨by decide +kernel, by decide +kernel, ⟨by decide +kernel, by decide +kernel, ⟨by decide +kernel, by decide +kernel, ⟨by decide +kernel, by decide +kernel, ?_⟩⟩⟩⟩⟩⟩⟩⟩⟩⟩⟩⟩⟩⟩⟩⟩⟩⟩⟩⟩⟩
  show (x_tk z_by 63 _).1.1 = 0
  decide +kernel
theorem z_tx : y_tx 63 z_ts = .inr (z_o1, z_o2, z_o3) := by decide +kernel
