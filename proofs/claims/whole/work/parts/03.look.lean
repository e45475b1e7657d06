/-- links: of a class (tag) and an index -/
def q_f (t i : Nat) : Option (Nat × Nat × Nat) := (q_fT.find? (fun e => e.1 == t && e.2.1 == i)).map (fun e => e.2.2)
def q_sf (t i : Nat) : Option (Nat × Nat) := (q_sF.find? (fun e => e.1 == t && e.2.1 == i)).map (fun e => e.2.2)
def q_st (t i : Nat) : Option (Nat × Nat) := (q_sT.find? (fun e => e.1 == t && e.2.1 == i)).map (fun e => e.2.2)
def q_c (t i : Nat) : Option (Nat × Nat × Nat × Nat × Nat × Nat × Nat) := (q_cT.find? (fun e => e.1 == t && e.2.1 == i)).map (fun e => e.2.2)
def q_ki (t i : Nat) : Option (Int32 × Nat) := (q_kI.find? (fun e => e.1 == t && e.2.1 == i)).map (fun e => e.2.2)
def q_kj (t i : Nat) : Option (Int64 × Nat) := (q_kJ.find? (fun e => e.1 == t && e.2.1 == i)).map (fun e => e.2.2)
def q_ks (t i : Nat) : Option Nat := q_kS.findIdx? (fun e => e.1 == t && e.2.1 == i)
def q_nt (t i : Nat) : Option (Nat × Nat × Nat × Nat) := (q_nT.find? (fun e => e.1 == t && e.2.1 == i)).map (fun e => e.2.2)
def q_mt (t i : Nat) : Option Nat := (q_mT.find? (fun e => e.1 == t && e.2.1 == i)).map (fun e => e.2.2)
def q_tyf (ci k : Nat) : FieldType := match ci with
  | 0 => tyX0 k
  | 1 => tyX1 k
  | 2 => tyX2 k
  | 3 => tyX3 k
  | 4 => tyX4 k
  | 5 => tyX5 k
  | 6 => tyX6 k
  | 7 => tyX7 k
  | _ => tyX8 k
def q_TT (ci : Nat) : u_T := match ci with
  | 0 => TX0
  | 1 => TX1
  | 2 => TX2
  | 3 => TX3
  | 4 => TX4
  | 5 => TX5
  | 6 => TX6
  | 7 => TX7
  | _ => TX8
def q_NF (ci : Nat) : Nat := match ci with
  | 0 => 13
  | 1 => 2
  | 2 => 6
  | 3 => 9
  | 4 => 3
  | 5 => 5
  | 6 => 8
  | 7 => 19
  | _ => 65
