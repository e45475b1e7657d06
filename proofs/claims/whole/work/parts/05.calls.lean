def q_Ms_0 : List Nat := [0, 1, 2, 3, 4, 5, 6, 7, 8, 9, 10, 11, 12, 13, 14, 15, 16, 17, 18, 19, 20, 21, 22, 1000, 1001, 1002, 1003, 1004, 2000, 2001, 2002, 2003, 2004, 2005, 3000, 3001, 3002, 3003, 3004, 3005]
set_option maxRecDepth 100000 in
theorem q_Msc_0 : ∀ M ∈ q_Ms_0, q_mcheck M = true := by decide +kernel
def q_Ms_1 : List Nat := [3006, 3007, 3008, 3009, 3010, 3011, 3012, 3013, 3014, 3015, 4000, 4001, 4002, 4003, 5000, 5001, 5002, 5003, 5004, 5005, 5006, 6000, 6001, 6002, 6003, 6004, 6005, 6006, 6007, 6008, 6009, 7000, 7001, 7002, 7003, 7004, 7005, 7006, 7007, 7008]
set_option maxRecDepth 100000 in
theorem q_Msc_1 : ∀ M ∈ q_Ms_1, q_mcheck M = true := by decide +kernel
def q_Ms_2 : List Nat := [7009, 7010, 7011, 7012, 7013, 7014, 7015, 7016, 7017, 7018, 7019, 7020, 7021, 7022, 7023, 7024, 7025, 7026, 7027, 7028, 7029, 7030, 7031, 7032, 7033, 7034, 7035, 7036, 7037, 7038, 7039, 7040, 7041, 7042, 7043, 7044, 7045, 7046, 7047, 7048]
set_option maxRecDepth 100000 in
theorem q_Msc_2 : ∀ M ∈ q_Ms_2, q_mcheck M = true := by decide +kernel
def q_Ms_3 : List Nat := [7049, 7050, 7051, 7052, 7053, 7054, 7055, 7056, 7057, 7058, 7059, 7060, 7061, 7062, 7063, 7064, 7065, 7066, 7067, 7068, 7069, 8000, 8001, 8002, 8003, 8004, 8005, 8006, 8007, 8008, 8009, 8010, 8011, 8012, 8013, 8014, 8015, 8016, 8017, 8018]
set_option maxRecDepth 100000 in
theorem q_Msc_3 : ∀ M ∈ q_Ms_3, q_mcheck M = true := by decide +kernel
def q_Ms_4 : List Nat := [8019, 8020, 8021, 8022, 8023, 8024, 8025, 8026, 8027, 8028, 8029, 8030, 8031, 8032, 8033, 8034, 8035, 8036, 8037, 8038, 8039, 8040, 8041, 8042, 8043, 8044, 8045, 8046, 8047, 8048, 8049, 8050, 8051, 8052, 8053, 8054, 8055, 8056, 8057, 8058]
set_option maxRecDepth 100000 in
theorem q_Msc_4 : ∀ M ∈ q_Ms_4, q_mcheck M = true := by decide +kernel
def q_Ms_5 : List Nat := [8059, 8060, 8061, 8062, 8063, 8064, 8065, 8066, 8067, 8068, 8069, 8070, 8071, 8072, 8073, 8074, 8075, 8076, 8077, 8078, 8079, 8080, 8081, 8082, 8083, 8084, 8085, 8086, 8087, 8088, 8089, 8090, 8091, 8092, 8093, 8094, 8095, 9000, 10000, 10001]
set_option maxRecDepth 100000 in
theorem q_Msc_5 : ∀ M ∈ q_Ms_5, q_mcheck M = true := by decide +kernel
def q_Ms_6 : List Nat := [10002, 10003, 11000, 11001, 11002, 11003, 11004, 12000, 13000, 13001, 13002, 13003, 14000]
set_option maxRecDepth 100000 in
theorem q_Msc_6 : ∀ M ∈ q_Ms_6, q_mcheck M = true := by decide +kernel
set_option maxRecDepth 100000 in
theorem q_mw_X0_init : lw_tbl[164]? = some (Cond.code (q_y 0) (q_b 0) (q_ml 0) (q_rt 0)) := rfl
set_option maxRecDepth 100000 in
theorem q_mw_X0_aim : lw_tbl[611]? = some (Cond.code (q_y 1) (q_b 1) (q_ml 1) (q_rt 1)) := rfl
set_option maxRecDepth 100000 in
theorem q_mw_X0_go : lw_tbl[615]? = some (Cond.code (q_y 2) (q_b 2) (q_ml 2) (q_rt 2)) := rfl
set_option maxRecDepth 100000 in
theorem q_mw_X0_begin : lw_tbl[619]? = some (Cond.code (q_y 3) (q_b 3) (q_ml 3) (q_rt 3)) := rfl
set_option maxRecDepth 100000 in
theorem q_mw_X0_goesOn : lw_tbl[629]? = some (Cond.code (q_y 4) (q_b 4) (q_ml 4) (q_rt 4)) := rfl
set_option maxRecDepth 100000 in
theorem q_mw_X0_step : lw_tbl[637]? = some (Cond.code (q_y 5) (q_b 5) (q_ml 5) (q_rt 5)) := rfl
set_option maxRecDepth 100000 in
theorem q_mw_X0_windAt : lw_tbl[645]? = some (Cond.code (q_y 6) (q_b 6) (q_ml 6) (q_rt 6)) := rfl
set_option maxRecDepth 100000 in
theorem q_mw_X0_look : lw_tbl[641]? = some (Cond.code (q_y 7) (q_b 7) (q_ml 7) (q_rt 7)) := rfl
set_option maxRecDepth 100000 in
theorem q_mw_X0_said : lw_tbl[649]? = some (Cond.code (q_y 8) (q_b 8) (q_ml 8) (q_rt 8)) := rfl
set_option maxRecDepth 100000 in
theorem q_mw_X0_isDown : lw_tbl[633]? = some (Cond.code (q_y 9) (q_b 9) (q_ml 9) (q_rt 9)) := rfl
set_option maxRecDepth 100000 in
theorem q_mw_X0_farOff : lw_tbl[696]? = some (Cond.code (q_y 10) (q_b 10) (q_ml 10) (q_rt 10)) := rfl
set_option maxRecDepth 100000 in
theorem q_mw_X0_returns : lw_tbl[710]? = some (Cond.code (q_y 11) (q_b 11) (q_ml 11) (q_rt 11)) := rfl
set_option maxRecDepth 100000 in
theorem q_mw_X0_farthestOff : lw_tbl[701]? = some (Cond.code (q_y 12) (q_b 12) (q_ml 12) (q_rt 12)) := rfl
set_option maxRecDepth 100000 in
theorem q_mw_X0_greatest : lw_tbl[692]? = some (Cond.code (q_y 13) (q_b 13) (q_ml 13) (q_rt 13)) := rfl
set_option maxRecDepth 100000 in
theorem q_mw_X0_smallest : lw_tbl[734]? = some (Cond.code (q_y 14) (q_b 14) (q_ml 14) (q_rt 14)) := rfl
set_option maxRecDepth 100000 in
theorem q_mw_X0_firstWith : lw_tbl[718]? = some (Cond.code (q_y 15) (q_b 15) (q_ml 15) (q_rt 15)) := rfl
set_option maxRecDepth 100000 in
theorem q_mw_X0_levelTicks : lw_tbl[726]? = some (Cond.code (q_y 16) (q_b 16) (q_ml 16) (q_rt 16)) := rfl
set_option maxRecDepth 100000 in
theorem q_mw_X0_turnedInAll : lw_tbl[739]? = some (Cond.code (q_y 17) (q_b 17) (q_ml 17) (q_rt 17)) := rfl
set_option maxRecDepth 100000 in
theorem q_mw_X0_lastClimb : lw_tbl[747]? = some (Cond.code (q_y 18) (q_b 18) (q_ml 18) (q_rt 18)) := rfl
set_option maxRecDepth 100000 in
theorem q_mw_X0_deepestDrop : lw_tbl[751]? = some (Cond.code (q_y 19) (q_b 19) (q_ml 19) (q_rt 19)) := rfl
set_option maxRecDepth 100000 in
theorem q_mw_X0_firstBeyond : lw_tbl[768]? = some (Cond.code (q_y 20) (q_b 20) (q_ml 20) (q_rt 20)) := rfl
set_option maxRecDepth 100000 in
theorem q_mw_X0_apartAt : lw_tbl[938]? = some (Cond.code (q_y 21) (q_b 21) (q_ml 21) (q_rt 21)) := rfl
set_option maxRecDepth 100000 in
theorem q_mw_X0_unlikeAt : lw_tbl[867]? = some (Cond.code (q_y 22) (q_b 22) (q_ml 22) (q_rt 22)) := rfl
set_option maxRecDepth 100000 in
theorem q_mw_X1_init : lw_tbl[393]? = some (Cond.code (q_y 1000) (q_b 1000) (q_ml 1000) (q_rt 1000)) := rfl
set_option maxRecDepth 100000 in
theorem q_mw_X1_isName : lw_tbl[381]? = some (Cond.code (q_y 1001) (q_b 1001) (q_ml 1001) (q_rt 1001)) := rfl
set_option maxRecDepth 100000 in
theorem q_mw_X1_say : lw_tbl[653]? = some (Cond.code (q_y 1002) (q_b 1002) (q_ml 1002) (q_rt 1002)) := rfl
set_option maxRecDepth 100000 in
theorem q_mw_X1_altered : lw_tbl[657]? = some (Cond.code (q_y 1003) (q_b 1003) (q_ml 1003) (q_rt 1003)) := rfl
set_option maxRecDepth 100000 in
theorem q_mw_X1_joined : lw_tbl[660]? = some (Cond.code (q_y 1004) (q_b 1004) (q_ml 1004) (q_rt 1004)) := rfl
set_option maxRecDepth 100000 in
theorem q_mw_X2_init : lw_tbl[98]? = some (Cond.code (q_y 2000) (q_b 2000) (q_ml 2000) (q_rt 2000)) := rfl
set_option maxRecDepth 100000 in
theorem q_mw_X2_isPlace : lw_tbl[909]? = some (Cond.code (q_y 2001) (q_b 2001) (q_ml 2001) (q_rt 2001)) := rfl
set_option maxRecDepth 100000 in
theorem q_mw_X2_add : lw_tbl[913]? = some (Cond.code (q_y 2002) (q_b 2002) (q_ml 2002) (q_rt 2002)) := rfl
set_option maxRecDepth 100000 in
theorem q_mw_X2_firstHit : lw_tbl[925]? = some (Cond.code (q_y 2003) (q_b 2003) (q_ml 2003) (q_rt 2003)) := rfl
set_option maxRecDepth 100000 in
theorem q_mw_X2_keep : lw_tbl[967]? = some (Cond.code (q_y 2004) (q_b 2004) (q_ml 2004) (q_rt 2004)) := rfl
set_option maxRecDepth 100000 in
theorem q_mw_X2_restore : lw_tbl[980]? = some (Cond.code (q_y 2005) (q_b 2005) (q_ml 2005) (q_rt 2005)) := rfl
set_option maxRecDepth 100000 in
theorem q_mw_X3_init : lw_tbl[127]? = some (Cond.code (q_y 3000) (q_b 3000) (q_ml 3000) (q_rt 3000)) := rfl
set_option maxRecDepth 100000 in
theorem q_mw_X3_put : lw_tbl[315]? = some (Cond.code (q_y 3001) (q_b 3001) (q_ml 3001) (q_rt 3001)) := rfl
set_option maxRecDepth 100000 in
theorem q_mw_X3_toLaw : lw_tbl[319]? = some (Cond.code (q_y 3002) (q_b 3002) (q_ml 3002) (q_rt 3002)) := rfl
set_option maxRecDepth 100000 in
theorem q_mw_X3_expression : lw_tbl[366]? = some (Cond.code (q_y 3003) (q_b 3003) (q_ml 3003) (q_rt 3003)) := rfl
set_option maxRecDepth 100000 in
theorem q_mw_X3_joins : lw_tbl[385]? = some (Cond.code (q_y 3004) (q_b 3004) (q_ml 3004) (q_rt 3004)) := rfl
set_option maxRecDepth 100000 in
theorem q_mw_X3_negation : lw_tbl[370]? = some (Cond.code (q_y 3005) (q_b 3005) (q_ml 3005) (q_rt 3005)) := rfl
theorem q_Mso_0 : ∀ M ∈ q_Ms_0, ∃ i : Nat, lw_tbl[i]? = some (Cond.code (q_y M) (q_b M) (q_ml M) (q_rt M)) := List.forall_mem_cons.mpr ⟨⟨_, q_mw_X0_init⟩, List.forall_mem_cons.mpr ⟨⟨_, q_mw_X0_aim⟩, List.forall_mem_cons.mpr ⟨⟨_, q_mw_X0_go⟩, List.forall_mem_cons.mpr ⟨⟨_, q_mw_X0_begin⟩, List.forall_mem_cons.mpr ⟨⟨_, q_mw_X0_goesOn⟩, List.forall_mem_cons.mpr ⟨⟨_, q_mw_X0_step⟩, List.forall_mem_cons.mpr ⟨⟨_, q_mw_X0_windAt⟩, List.forall_mem_cons.mpr ⟨⟨_, q_mw_X0_look⟩, List.forall_mem_cons.mpr ⟨⟨_, q_mw_X0_said⟩, List.forall_mem_cons.mpr ⟨⟨_, q_mw_X0_isDown⟩, List.forall_mem_cons.mpr ⟨⟨_, q_mw_X0_farOff⟩, List.forall_mem_cons.mpr ⟨⟨_, q_mw_X0_returns⟩, List.forall_mem_cons.mpr ⟨⟨_, q_mw_X0_farthestOff⟩, List.forall_mem_cons.mpr ⟨⟨_, q_mw_X0_greatest⟩, List.forall_mem_cons.mpr ⟨⟨_, q_mw_X0_smallest⟩, List.forall_mem_cons.mpr ⟨⟨_, q_mw_X0_firstWith⟩, List.forall_mem_cons.mpr ⟨⟨_, q_mw_X0_levelTicks⟩, List.forall_mem_cons.mpr ⟨⟨_, q_mw_X0_turnedInAll⟩, List.forall_mem_cons.mpr ⟨⟨_, q_mw_X0_lastClimb⟩, List.forall_mem_cons.mpr ⟨⟨_, q_mw_X0_deepestDrop⟩, List.forall_mem_cons.mpr ⟨⟨_, q_mw_X0_firstBeyond⟩, List.forall_mem_cons.mpr ⟨⟨_, q_mw_X0_apartAt⟩, List.forall_mem_cons.mpr ⟨⟨_, q_mw_X0_unlikeAt⟩, List.forall_mem_cons.mpr ⟨⟨_, q_mw_X1_init⟩, List.forall_mem_cons.mpr ⟨⟨_, q_mw_X1_isName⟩, List.forall_mem_cons.mpr ⟨⟨_, q_mw_X1_say⟩, List.forall_mem_cons.mpr ⟨⟨_, q_mw_X1_altered⟩, List.forall_mem_cons.mpr ⟨⟨_, q_mw_X1_joined⟩, List.forall_mem_cons.mpr ⟨⟨_, q_mw_X2_init⟩, List.forall_mem_cons.mpr ⟨⟨_, q_mw_X2_isPlace⟩, List.forall_mem_cons.mpr ⟨⟨_, q_mw_X2_add⟩, List.forall_mem_cons.mpr ⟨⟨_, q_mw_X2_firstHit⟩, List.forall_mem_cons.mpr ⟨⟨_, q_mw_X2_keep⟩, List.forall_mem_cons.mpr ⟨⟨_, q_mw_X2_restore⟩, List.forall_mem_cons.mpr ⟨⟨_, q_mw_X3_init⟩, List.forall_mem_cons.mpr ⟨⟨_, q_mw_X3_put⟩, List.forall_mem_cons.mpr ⟨⟨_, q_mw_X3_toLaw⟩, List.forall_mem_cons.mpr ⟨⟨_, q_mw_X3_expression⟩, List.forall_mem_cons.mpr ⟨⟨_, q_mw_X3_joins⟩, List.forall_mem_cons.mpr ⟨⟨_, q_mw_X3_negation⟩, fun _ h => absurd h List.not_mem_nil⟩⟩⟩⟩⟩⟩⟩⟩⟩⟩⟩⟩⟩⟩⟩⟩⟩⟩⟩⟩⟩⟩⟩⟩⟩⟩⟩⟩⟩⟩⟩⟩⟩⟩⟩⟩⟩⟩⟩⟩
set_option maxRecDepth 100000 in
theorem q_mw_X3_single : lw_tbl[378]? = some (Cond.code (q_y 3006) (q_b 3006) (q_ml 3006) (q_rt 3006)) := rfl
set_option maxRecDepth 100000 in
theorem q_mw_X3_demand : lw_tbl[358]? = some (Cond.code (q_y 3007) (q_b 3007) (q_ml 3007) (q_rt 3007)) := rfl
set_option maxRecDepth 100000 in
theorem q_mw_X3_fail : lw_tbl[362]? = some (Cond.code (q_y 3008) (q_b 3008) (q_ml 3008) (q_rt 3008)) := rfl
set_option maxRecDepth 100000 in
theorem q_mw_X3_emit : lw_tbl[374]? = some (Cond.code (q_y 3009) (q_b 3009) (q_ml 3009) (q_rt 3009)) := rfl
set_option maxRecDepth 100000 in
theorem q_mw_X3_advance : lw_tbl[323]? = some (Cond.code (q_y 3010) (q_b 3010) (q_ml 3010) (q_rt 3010)) := rfl
set_option maxRecDepth 100000 in
theorem q_mw_X3_isLetter : lw_tbl[326]? = some (Cond.code (q_y 3011) (q_b 3011) (q_ml 3011) (q_rt 3011)) := rfl
set_option maxRecDepth 100000 in
theorem q_mw_X3_isDigit : lw_tbl[351]? = some (Cond.code (q_y 3012) (q_b 3012) (q_ml 3012) (q_rt 3012)) := rfl
set_option maxRecDepth 100000 in
theorem q_mw_X3_signToken : lw_tbl[354]? = some (Cond.code (q_y 3013) (q_b 3013) (q_ml 3013) (q_rt 3013)) := rfl
set_option maxRecDepth 100000 in
theorem q_mw_X3_wordToken : lw_tbl[330]? = some (Cond.code (q_y 3014) (q_b 3014) (q_ml 3014) (q_rt 3014)) := rfl
set_option maxRecDepth 100000 in
theorem q_mw_X3_spells : lw_tbl[335]? = some (Cond.code (q_y 3015) (q_b 3015) (q_ml 3015) (q_rt 3015)) := rfl
set_option maxRecDepth 100000 in
theorem q_mw_X4_init : lw_tbl[246]? = some (Cond.code (q_y 4000) (q_b 4000) (q_ml 4000) (q_rt 4000)) := rfl
set_option maxRecDepth 100000 in
theorem q_mw_X4_become : lw_tbl[876]? = some (Cond.code (q_y 4001) (q_b 4001) (q_ml 4001) (q_rt 4001)) := rfl
set_option maxRecDepth 100000 in
theorem q_mw_X4_narrowed : lw_tbl[992]? = some (Cond.code (q_y 4002) (q_b 4002) (q_ml 4002) (q_rt 4002)) := rfl
set_option maxRecDepth 100000 in
theorem q_mw_X4_holds : lw_tbl[1000]? = some (Cond.code (q_y 4003) (q_b 4003) (q_ml 4003) (q_rt 4003)) := rfl
set_option maxRecDepth 100000 in
theorem q_mw_X5_init : lw_tbl[221]? = some (Cond.code (q_y 5000) (q_b 5000) (q_ml 5000) (q_rt 5000)) := rfl
set_option maxRecDepth 100000 in
theorem q_mw_X5_has : lw_tbl[485]? = some (Cond.code (q_y 5001) (q_b 5001) (q_ml 5001) (q_rt 5001)) := rfl
set_option maxRecDepth 100000 in
theorem q_mw_X5_sum : lw_tbl[497]? = some (Cond.code (q_y 5002) (q_b 5002) (q_ml 5002) (q_rt 5002)) := rfl
set_option maxRecDepth 100000 in
theorem q_mw_X5_armsInUse : lw_tbl[501]? = some (Cond.code (q_y 5003) (q_b 5003) (q_ml 5003) (q_rt 5003)) := rfl
set_option maxRecDepth 100000 in
theorem q_mw_X5_become : lw_tbl[838]? = some (Cond.code (q_y 5004) (q_b 5004) (q_ml 5004) (q_rt 5004)) := rfl
set_option maxRecDepth 100000 in
theorem q_mw_X5_keep : lw_tbl[963]? = some (Cond.code (q_y 5005) (q_b 5005) (q_ml 5005) (q_rt 5005)) := rfl
set_option maxRecDepth 100000 in
theorem q_mw_X5_restore : lw_tbl[976]? = some (Cond.code (q_y 5006) (q_b 5006) (q_ml 5006) (q_rt 5006)) := rfl
set_option maxRecDepth 100000 in
theorem q_mw_X6_init : lw_tbl[519]? = some (Cond.code (q_y 6000) (q_b 6000) (q_ml 6000) (q_rt 6000)) := rfl
set_option maxRecDepth 100000 in
theorem q_mw_X6_isA : lw_tbl[578]? = some (Cond.code (q_y 6001) (q_b 6001) (q_ml 6001) (q_rt 6001)) := rfl
set_option maxRecDepth 100000 in
theorem q_mw_X6_isKind : lw_tbl[523]? = some (Cond.code (q_y 6002) (q_b 6002) (q_ml 6002) (q_rt 6002)) := rfl
set_option maxRecDepth 100000 in
theorem q_mw_X6_startHeight : lw_tbl[574]? = some (Cond.code (q_y 6003) (q_b 6003) (q_ml 6003) (q_rt 6003)) := rfl
set_option maxRecDepth 100000 in
theorem q_mw_X6_up : lw_tbl[664]? = some (Cond.code (q_y 6004) (q_b 6004) (q_ml 6004) (q_rt 6004)) := rfl
set_option maxRecDepth 100000 in
theorem q_mw_X6_turn : lw_tbl[675]? = some (Cond.code (q_y 6005) (q_b 6005) (q_ml 6005) (q_rt 6005)) := rfl
set_option maxRecDepth 100000 in
theorem q_mw_X6_less : lw_tbl[679]? = some (Cond.code (q_y 6006) (q_b 6006) (q_ml 6006) (q_rt 6006)) := rfl
set_option maxRecDepth 100000 in
theorem q_mw_X6_wayOff : lw_tbl[802]? = some (Cond.code (q_y 6007) (q_b 6007) (q_ml 6007) (q_rt 6007)) := rfl
set_option maxRecDepth 100000 in
theorem q_mw_X6_paceOff : lw_tbl[807]? = some (Cond.code (q_y 6008) (q_b 6008) (q_ml 6008) (q_rt 6008)) := rfl
set_option maxRecDepth 100000 in
theorem q_mw_X6_bound : lw_tbl[667]? = some (Cond.code (q_y 6009) (q_b 6009) (q_ml 6009) (q_rt 6009)) := rfl
set_option maxRecDepth 100000 in
theorem q_mw_X7_init : lw_tbl[82]? = some (Cond.code (q_y 7000) (q_b 7000) (q_ml 7000) (q_rt 7000)) := rfl
set_option maxRecDepth 100000 in
theorem q_mw_X7_stick : lw_tbl[463]? = some (Cond.code (q_y 7001) (q_b 7001) (q_ml 7001) (q_rt 7001)) := rfl
set_option maxRecDepth 100000 in
theorem q_mw_X7_piece : lw_tbl[467]? = some (Cond.code (q_y 7002) (q_b 7002) (q_ml 7002) (q_rt 7002)) := rfl
set_option maxRecDepth 100000 in
theorem q_mw_X7_file : lw_tbl[481]? = some (Cond.code (q_y 7003) (q_b 7003) (q_ml 7003) (q_rt 7003)) := rfl
set_option maxRecDepth 100000 in
theorem q_mw_X7_pieceTold : lw_tbl[489]? = some (Cond.code (q_y 7004) (q_b 7004) (q_ml 7004) (q_rt 7004)) := rfl
set_option maxRecDepth 100000 in
theorem q_mw_X7_stickTold : lw_tbl[493]? = some (Cond.code (q_y 7005) (q_b 7005) (q_ml 7005) (q_rt 7005)) := rfl
set_option maxRecDepth 100000 in
theorem q_mw_X7_wind : lw_tbl[511]? = some (Cond.code (q_y 7006) (q_b 7006) (q_ml 7006) (q_rt 7006)) := rfl
set_option maxRecDepth 100000 in
theorem q_mw_X7_toss : lw_tbl[515]? = some (Cond.code (q_y 7007) (q_b 7007) (q_ml 7007) (q_rt 7007)) := rfl
set_option maxRecDepth 100000 in
theorem q_mw_X7_tossTold : lw_tbl[566]? = some (Cond.code (q_y 7008) (q_b 7008) (q_ml 7008) (q_rt 7008)) := rfl
theorem q_Mso_1 : ∀ M ∈ q_Ms_1, ∃ i : Nat, lw_tbl[i]? = some (Cond.code (q_y M) (q_b M) (q_ml M) (q_rt M)) := List.forall_mem_cons.mpr ⟨⟨_, q_mw_X3_single⟩, List.forall_mem_cons.mpr ⟨⟨_, q_mw_X3_demand⟩, List.forall_mem_cons.mpr ⟨⟨_, q_mw_X3_fail⟩, List.forall_mem_cons.mpr ⟨⟨_, q_mw_X3_emit⟩, List.forall_mem_cons.mpr ⟨⟨_, q_mw_X3_advance⟩, List.forall_mem_cons.mpr ⟨⟨_, q_mw_X3_isLetter⟩, List.forall_mem_cons.mpr ⟨⟨_, q_mw_X3_isDigit⟩, List.forall_mem_cons.mpr ⟨⟨_, q_mw_X3_signToken⟩, List.forall_mem_cons.mpr ⟨⟨_, q_mw_X3_wordToken⟩, List.forall_mem_cons.mpr ⟨⟨_, q_mw_X3_spells⟩, List.forall_mem_cons.mpr ⟨⟨_, q_mw_X4_init⟩, List.forall_mem_cons.mpr ⟨⟨_, q_mw_X4_become⟩, List.forall_mem_cons.mpr ⟨⟨_, q_mw_X4_narrowed⟩, List.forall_mem_cons.mpr ⟨⟨_, q_mw_X4_holds⟩, List.forall_mem_cons.mpr ⟨⟨_, q_mw_X5_init⟩, List.forall_mem_cons.mpr ⟨⟨_, q_mw_X5_has⟩, List.forall_mem_cons.mpr ⟨⟨_, q_mw_X5_sum⟩, List.forall_mem_cons.mpr ⟨⟨_, q_mw_X5_armsInUse⟩, List.forall_mem_cons.mpr ⟨⟨_, q_mw_X5_become⟩, List.forall_mem_cons.mpr ⟨⟨_, q_mw_X5_keep⟩, List.forall_mem_cons.mpr ⟨⟨_, q_mw_X5_restore⟩, List.forall_mem_cons.mpr ⟨⟨_, q_mw_X6_init⟩, List.forall_mem_cons.mpr ⟨⟨_, q_mw_X6_isA⟩, List.forall_mem_cons.mpr ⟨⟨_, q_mw_X6_isKind⟩, List.forall_mem_cons.mpr ⟨⟨_, q_mw_X6_startHeight⟩, List.forall_mem_cons.mpr ⟨⟨_, q_mw_X6_up⟩, List.forall_mem_cons.mpr ⟨⟨_, q_mw_X6_turn⟩, List.forall_mem_cons.mpr ⟨⟨_, q_mw_X6_less⟩, List.forall_mem_cons.mpr ⟨⟨_, q_mw_X6_wayOff⟩, List.forall_mem_cons.mpr ⟨⟨_, q_mw_X6_paceOff⟩, List.forall_mem_cons.mpr ⟨⟨_, q_mw_X6_bound⟩, List.forall_mem_cons.mpr ⟨⟨_, q_mw_X7_init⟩, List.forall_mem_cons.mpr ⟨⟨_, q_mw_X7_stick⟩, List.forall_mem_cons.mpr ⟨⟨_, q_mw_X7_piece⟩, List.forall_mem_cons.mpr ⟨⟨_, q_mw_X7_file⟩, List.forall_mem_cons.mpr ⟨⟨_, q_mw_X7_pieceTold⟩, List.forall_mem_cons.mpr ⟨⟨_, q_mw_X7_stickTold⟩, List.forall_mem_cons.mpr ⟨⟨_, q_mw_X7_wind⟩, List.forall_mem_cons.mpr ⟨⟨_, q_mw_X7_toss⟩, List.forall_mem_cons.mpr ⟨⟨_, q_mw_X7_tossTold⟩, fun _ h => absurd h List.not_mem_nil⟩⟩⟩⟩⟩⟩⟩⟩⟩⟩⟩⟩⟩⟩⟩⟩⟩⟩⟩⟩⟩⟩⟩⟩⟩⟩⟩⟩⟩⟩⟩⟩⟩⟩⟩⟩⟩⟩⟩⟩
set_option maxRecDepth 100000 in
theorem q_mw_X7_count : lw_tbl[582]? = some (Cond.code (q_y 7009) (q_b 7009) (q_ml 7009) (q_rt 7009)) := rfl
set_option maxRecDepth 100000 in
theorem q_mw_X7_feed : lw_tbl[586]? = some (Cond.code (q_y 7010) (q_b 7010) (q_ml 7010) (q_rt 7010)) := rfl
set_option maxRecDepth 100000 in
theorem q_mw_X7_text : lw_tbl[590]? = some (Cond.code (q_y 7011) (q_b 7011) (q_ml 7011) (q_rt 7011)) := rfl
set_option maxRecDepth 100000 in
theorem q_mw_X7_force : lw_tbl[594]? = some (Cond.code (q_y 7012) (q_b 7012) (q_ml 7012) (q_rt 7012)) := rfl
set_option maxRecDepth 100000 in
theorem q_mw_X7_tick : lw_tbl[598]? = some (Cond.code (q_y 7013) (q_b 7013) (q_ml 7013) (q_rt 7013)) := rfl
set_option maxRecDepth 100000 in
theorem q_mw_X7_fly : lw_tbl[688]? = some (Cond.code (q_y 7014) (q_b 7014) (q_ml 7014) (q_rt 7014)) := rfl
set_option maxRecDepth 100000 in
theorem q_mw_X7_comes : lw_tbl[706]? = some (Cond.code (q_y 7015) (q_b 7015) (q_ml 7015) (q_rt 7015)) := rfl
set_option maxRecDepth 100000 in
theorem q_mw_X7_lies : lw_tbl[714]? = some (Cond.code (q_y 7016) (q_b 7016) (q_ml 7016) (q_rt 7016)) := rfl
set_option maxRecDepth 100000 in
theorem q_mw_X7_hovers : lw_tbl[722]? = some (Cond.code (q_y 7017) (q_b 7017) (q_ml 7017) (q_rt 7017)) := rfl
set_option maxRecDepth 100000 in
theorem q_mw_X7_circle : lw_tbl[730]? = some (Cond.code (q_y 7018) (q_b 7018) (q_ml 7018) (q_rt 7018)) := rfl
set_option maxRecDepth 100000 in
theorem q_mw_X7_down : lw_tbl[743]? = some (Cond.code (q_y 7019) (q_b 7019) (q_ml 7019) (q_rt 7019)) := rfl
set_option maxRecDepth 100000 in
theorem q_mw_X7_why : lw_tbl[755]? = some (Cond.code (q_y 7020) (q_b 7020) (q_ml 7020) (q_rt 7020)) := rfl
set_option maxRecDepth 100000 in
theorem q_mw_X7_room : lw_tbl[764]? = some (Cond.code (q_y 7021) (q_b 7021) (q_ml 7021) (q_rt 7021)) := rfl
set_option maxRecDepth 100000 in
theorem q_mw_X7_winds : lw_tbl[775]? = some (Cond.code (q_y 7022) (q_b 7022) (q_ml 7022) (q_rt 7022)) := rfl
set_option maxRecDepth 100000 in
theorem q_mw_X7_paces : lw_tbl[783]? = some (Cond.code (q_y 7023) (q_b 7023) (q_ml 7023) (q_rt 7023)) := rfl
set_option maxRecDepth 100000 in
theorem q_mw_X7_odds : lw_tbl[788]? = some (Cond.code (q_y 7024) (q_b 7024) (q_ml 7024) (q_rt 7024)) := rfl
set_option maxRecDepth 100000 in
theorem q_mw_X7_mean : lw_tbl[814]? = some (Cond.code (q_y 7025) (q_b 7025) (q_ml 7025) (q_rt 7025)) := rfl
set_option maxRecDepth 100000 in
theorem q_mw_X7_best : lw_tbl[822]? = some (Cond.code (q_y 7026) (q_b 7026) (q_ml 7026) (q_rt 7026)) := rfl
set_option maxRecDepth 100000 in
theorem q_mw_X7_least : lw_tbl[826]? = some (Cond.code (q_y 7027) (q_b 7027) (q_ml 7027) (q_rt 7027)) := rfl
set_option maxRecDepth 100000 in
theorem q_mw_X7_mend : lw_tbl[843]? = some (Cond.code (q_y 7028) (q_b 7028) (q_ml 7028) (q_rt 7028)) := rfl
set_option maxRecDepth 100000 in
theorem q_mw_X7_exchange : lw_tbl[847]? = some (Cond.code (q_y 7029) (q_b 7029) (q_ml 7029) (q_rt 7029)) := rfl
set_option maxRecDepth 100000 in
theorem q_mw_X7_form : lw_tbl[851]? = some (Cond.code (q_y 7030) (q_b 7030) (q_ml 7030) (q_rt 7030)) := rfl
set_option maxRecDepth 100000 in
theorem q_mw_X7_lead : lw_tbl[855]? = some (Cond.code (q_y 7031) (q_b 7031) (q_ml 7031) (q_rt 7031)) := rfl
set_option maxRecDepth 100000 in
theorem q_mw_X7_judge : lw_tbl[859]? = some (Cond.code (q_y 7032) (q_b 7032) (q_ml 7032) (q_rt 7032)) := rfl
set_option maxRecDepth 100000 in
theorem q_mw_X7_film : lw_tbl[871]? = some (Cond.code (q_y 7033) (q_b 7033) (q_ml 7033) (q_rt 7033)) := rfl
set_option maxRecDepth 100000 in
theorem q_mw_X7_which : lw_tbl[880]? = some (Cond.code (q_y 7034) (q_b 7034) (q_ml 7034) (q_rt 7034)) := rfl
set_option maxRecDepth 100000 in
theorem q_mw_X7_read : lw_tbl[892]? = some (Cond.code (q_y 7035) (q_b 7035) (q_ml 7035) (q_rt 7035)) := rfl
set_option maxRecDepth 100000 in
theorem q_mw_X7_apart : lw_tbl[900]? = some (Cond.code (q_y 7036) (q_b 7036) (q_ml 7036) (q_rt 7036)) := rfl
set_option maxRecDepth 100000 in
theorem q_mw_X7_person : lw_tbl[905]? = some (Cond.code (q_y 7037) (q_b 7037) (q_ml 7037) (q_rt 7037)) := rfl
set_option maxRecDepth 100000 in
theorem q_mw_X7_walks : lw_tbl[917]? = some (Cond.code (q_y 7038) (q_b 7038) (q_ml 7038) (q_rt 7038)) := rfl
set_option maxRecDepth 100000 in
theorem q_mw_X7_hit : lw_tbl[921]? = some (Cond.code (q_y 7039) (q_b 7039) (q_ml 7039) (q_rt 7039)) := rfl
set_option maxRecDepth 100000 in
theorem q_mw_X7_hitOdds : lw_tbl[930]? = some (Cond.code (q_y 7040) (q_b 7040) (q_ml 7040) (q_rt 7040)) := rfl
set_option maxRecDepth 100000 in
theorem q_mw_X7_near : lw_tbl[934]? = some (Cond.code (q_y 7041) (q_b 7041) (q_ml 7041) (q_rt 7041)) := rfl
set_option maxRecDepth 100000 in
theorem q_mw_X7_mirror : lw_tbl[942]? = some (Cond.code (q_y 7042) (q_b 7042) (q_ml 7042) (q_rt 7042)) := rfl
set_option maxRecDepth 100000 in
theorem q_mw_X7_drawn : lw_tbl[947]? = some (Cond.code (q_y 7043) (q_b 7043) (q_ml 7043) (q_rt 7043)) := rfl
set_option maxRecDepth 100000 in
theorem q_mw_X7_want : lw_tbl[955]? = some (Cond.code (q_y 7044) (q_b 7044) (q_ml 7044) (q_rt 7044)) := rfl
set_option maxRecDepth 100000 in
theorem q_mw_X7_image : lw_tbl[959]? = some (Cond.code (q_y 7045) (q_b 7045) (q_ml 7045) (q_rt 7045)) := rfl
set_option maxRecDepth 100000 in
theorem q_mw_X7_back : lw_tbl[972]? = some (Cond.code (q_y 7046) (q_b 7046) (q_ml 7046) (q_rt 7046)) := rfl
set_option maxRecDepth 100000 in
theorem q_mw_X7_sheet : lw_tbl[984]? = some (Cond.code (q_y 7047) (q_b 7047) (q_ml 7047) (q_rt 7047)) := rfl
set_option maxRecDepth 100000 in
theorem q_mw_X7_cell : lw_tbl[988]? = some (Cond.code (q_y 7048) (q_b 7048) (q_ml 7048) (q_rt 7048)) := rfl
theorem q_Mso_2 : ∀ M ∈ q_Ms_2, ∃ i : Nat, lw_tbl[i]? = some (Cond.code (q_y M) (q_b M) (q_ml M) (q_rt M)) := List.forall_mem_cons.mpr ⟨⟨_, q_mw_X7_count⟩, List.forall_mem_cons.mpr ⟨⟨_, q_mw_X7_feed⟩, List.forall_mem_cons.mpr ⟨⟨_, q_mw_X7_text⟩, List.forall_mem_cons.mpr ⟨⟨_, q_mw_X7_force⟩, List.forall_mem_cons.mpr ⟨⟨_, q_mw_X7_tick⟩, List.forall_mem_cons.mpr ⟨⟨_, q_mw_X7_fly⟩, List.forall_mem_cons.mpr ⟨⟨_, q_mw_X7_comes⟩, List.forall_mem_cons.mpr ⟨⟨_, q_mw_X7_lies⟩, List.forall_mem_cons.mpr ⟨⟨_, q_mw_X7_hovers⟩, List.forall_mem_cons.mpr ⟨⟨_, q_mw_X7_circle⟩, List.forall_mem_cons.mpr ⟨⟨_, q_mw_X7_down⟩, List.forall_mem_cons.mpr ⟨⟨_, q_mw_X7_why⟩, List.forall_mem_cons.mpr ⟨⟨_, q_mw_X7_room⟩, List.forall_mem_cons.mpr ⟨⟨_, q_mw_X7_winds⟩, List.forall_mem_cons.mpr ⟨⟨_, q_mw_X7_paces⟩, List.forall_mem_cons.mpr ⟨⟨_, q_mw_X7_odds⟩, List.forall_mem_cons.mpr ⟨⟨_, q_mw_X7_mean⟩, List.forall_mem_cons.mpr ⟨⟨_, q_mw_X7_best⟩, List.forall_mem_cons.mpr ⟨⟨_, q_mw_X7_least⟩, List.forall_mem_cons.mpr ⟨⟨_, q_mw_X7_mend⟩, List.forall_mem_cons.mpr ⟨⟨_, q_mw_X7_exchange⟩, List.forall_mem_cons.mpr ⟨⟨_, q_mw_X7_form⟩, List.forall_mem_cons.mpr ⟨⟨_, q_mw_X7_lead⟩, List.forall_mem_cons.mpr ⟨⟨_, q_mw_X7_judge⟩, List.forall_mem_cons.mpr ⟨⟨_, q_mw_X7_film⟩, List.forall_mem_cons.mpr ⟨⟨_, q_mw_X7_which⟩, List.forall_mem_cons.mpr ⟨⟨_, q_mw_X7_read⟩, List.forall_mem_cons.mpr ⟨⟨_, q_mw_X7_apart⟩, List.forall_mem_cons.mpr ⟨⟨_, q_mw_X7_person⟩, List.forall_mem_cons.mpr ⟨⟨_, q_mw_X7_walks⟩, List.forall_mem_cons.mpr ⟨⟨_, q_mw_X7_hit⟩, List.forall_mem_cons.mpr ⟨⟨_, q_mw_X7_hitOdds⟩, List.forall_mem_cons.mpr ⟨⟨_, q_mw_X7_near⟩, List.forall_mem_cons.mpr ⟨⟨_, q_mw_X7_mirror⟩, List.forall_mem_cons.mpr ⟨⟨_, q_mw_X7_drawn⟩, List.forall_mem_cons.mpr ⟨⟨_, q_mw_X7_want⟩, List.forall_mem_cons.mpr ⟨⟨_, q_mw_X7_image⟩, List.forall_mem_cons.mpr ⟨⟨_, q_mw_X7_back⟩, List.forall_mem_cons.mpr ⟨⟨_, q_mw_X7_sheet⟩, List.forall_mem_cons.mpr ⟨⟨_, q_mw_X7_cell⟩, fun _ h => absurd h List.not_mem_nil⟩⟩⟩⟩⟩⟩⟩⟩⟩⟩⟩⟩⟩⟩⟩⟩⟩⟩⟩⟩⟩⟩⟩⟩⟩⟩⟩⟩⟩⟩⟩⟩⟩⟩⟩⟩⟩⟩⟩⟩
set_option maxRecDepth 100000 in
theorem q_mw_X7_copy : lw_tbl[996]? = some (Cond.code (q_y 7049) (q_b 7049) (q_ml 7049) (q_rt 7049)) := rfl
set_option maxRecDepth 100000 in
theorem q_mw_X7_peopleBy : lw_tbl[1005]? = some (Cond.code (q_y 7050) (q_b 7050) (q_ml 7050) (q_rt 7050)) := rfl
set_option maxRecDepth 100000 in
theorem q_mw_X7_taken : lw_tbl[1010]? = some (Cond.code (q_y 7051) (q_b 7051) (q_ml 7051) (q_rt 7051)) := rfl
set_option maxRecDepth 100000 in
theorem q_mw_X7_within : lw_tbl[474]? = some (Cond.code (q_y 7052) (q_b 7052) (q_ml 7052) (q_rt 7052)) := rfl
set_option maxRecDepth 100000 in
theorem q_mw_X7_filedWell : lw_tbl[477]? = some (Cond.code (q_y 7053) (q_b 7053) (q_ml 7053) (q_rt 7053)) := rfl
set_option maxRecDepth 100000 in
theorem q_mw_X7_stickAt : lw_tbl[471]? = some (Cond.code (q_y 7054) (q_b 7054) (q_ml 7054) (q_rt 7054)) := rfl
set_option maxRecDepth 100000 in
theorem q_mw_X7_tossAt : lw_tbl[570]? = some (Cond.code (q_y 7055) (q_b 7055) (q_ml 7055) (q_rt 7055)) := rfl
set_option maxRecDepth 100000 in
theorem q_mw_X7_aim : lw_tbl[607]? = some (Cond.code (q_y 7056) (q_b 7056) (q_ml 7056) (q_rt 7056)) := rfl
set_option maxRecDepth 100000 in
theorem q_mw_X7_aimTrial : lw_tbl[834]? = some (Cond.code (q_y 7057) (q_b 7057) (q_ml 7057) (q_rt 7057)) := rfl
set_option maxRecDepth 100000 in
theorem q_mw_X7_flown : lw_tbl[603]? = some (Cond.code (q_y 7058) (q_b 7058) (q_ml 7058) (q_rt 7058)) := rfl
set_option maxRecDepth 100000 in
theorem q_mw_X7_returnsAsAimed : lw_tbl[779]? = some (Cond.code (q_y 7059) (q_b 7059) (q_ml 7059) (q_rt 7059)) := rfl
set_option maxRecDepth 100000 in
theorem q_mw_X7_endAsAimed : lw_tbl[818]? = some (Cond.code (q_y 7060) (q_b 7060) (q_ml 7060) (q_rt 7060)) := rfl
set_option maxRecDepth 100000 in
theorem q_mw_X7_isHand : lw_tbl[791]? = some (Cond.code (q_y 7061) (q_b 7061) (q_ml 7061) (q_rt 7061)) := rfl
set_option maxRecDepth 100000 in
theorem q_mw_X7_handSize : lw_tbl[794]? = some (Cond.code (q_y 7062) (q_b 7062) (q_ml 7062) (q_rt 7062)) := rfl
set_option maxRecDepth 100000 in
theorem q_mw_X7_wander : lw_tbl[798]? = some (Cond.code (q_y 7063) (q_b 7063) (q_ml 7063) (q_rt 7063)) := rfl
set_option maxRecDepth 100000 in
theorem q_mw_X7_lowestTerm : lw_tbl[810]? = some (Cond.code (q_y 7064) (q_b 7064) (q_ml 7064) (q_rt 7064)) := rfl
set_option maxRecDepth 100000 in
theorem q_mw_X7_leastFiling : lw_tbl[830]? = some (Cond.code (q_y 7065) (q_b 7065) (q_ml 7065) (q_rt 7065)) := rfl
set_option maxRecDepth 100000 in
theorem q_mw_X7_filmRefused : lw_tbl[863]? = some (Cond.code (q_y 7066) (q_b 7066) (q_ml 7066) (q_rt 7066)) := rfl
set_option maxRecDepth 100000 in
theorem q_mw_X7_tossesThatFit : lw_tbl[888]? = some (Cond.code (q_y 7067) (q_b 7067) (q_ml 7067) (q_rt 7067)) := rfl
set_option maxRecDepth 100000 in
theorem q_mw_X7_lawsThatFit : lw_tbl[884]? = some (Cond.code (q_y 7068) (q_b 7068) (q_ml 7068) (q_rt 7068)) := rfl
set_option maxRecDepth 100000 in
theorem q_mw_X7_liftsThatFit : lw_tbl[896]? = some (Cond.code (q_y 7069) (q_b 7069) (q_ml 7069) (q_rt 7069)) := rfl
set_option maxRecDepth 100000 in
theorem q_mw_X8_init : lw_tbl[1016]? = some (Cond.code (q_y 8000) (q_b 8000) (q_ml 8000) (q_rt 8000)) := rfl
set_option maxRecDepth 100000 in
theorem q_mw_X8_first : lw_tbl[1034]? = some (Cond.code (q_y 8001) (q_b 8001) (q_ml 8001) (q_rt 8001)) := rfl
set_option maxRecDepth 100000 in
theorem q_mw_X8_in : lw_tbl[1249]? = some (Cond.code (q_y 8002) (q_b 8002) (q_ml 8002) (q_rt 8002)) := rfl
set_option maxRecDepth 100000 in
theorem q_mw_X8_isStick : lw_tbl[1246]? = some (Cond.code (q_y 8003) (q_b 8003) (q_ml 8003) (q_rt 8003)) := rfl
set_option maxRecDepth 100000 in
theorem q_mw_X8_isPiece : lw_tbl[1257]? = some (Cond.code (q_y 8004) (q_b 8004) (q_ml 8004) (q_rt 8004)) := rfl
set_option maxRecDepth 100000 in
theorem q_mw_X8_isThrow : lw_tbl[1285]? = some (Cond.code (q_y 8005) (q_b 8005) (q_ml 8005) (q_rt 8005)) := rfl
set_option maxRecDepth 100000 in
theorem q_mw_X8_stick : lw_tbl[1238]? = some (Cond.code (q_y 8006) (q_b 8006) (q_ml 8006) (q_rt 8006)) := rfl
set_option maxRecDepth 100000 in
theorem q_mw_X8_piece : lw_tbl[1242]? = some (Cond.code (q_y 8007) (q_b 8007) (q_ml 8007) (q_rt 8007)) := rfl
set_option maxRecDepth 100000 in
theorem q_mw_X8_file : lw_tbl[1253]? = some (Cond.code (q_y 8008) (q_b 8008) (q_ml 8008) (q_rt 8008)) := rfl
set_option maxRecDepth 100000 in
theorem q_mw_X8_pieceTold : lw_tbl[1261]? = some (Cond.code (q_y 8009) (q_b 8009) (q_ml 8009) (q_rt 8009)) := rfl
set_option maxRecDepth 100000 in
theorem q_mw_X8_sumOf : lw_tbl[1269]? = some (Cond.code (q_y 8010) (q_b 8010) (q_ml 8010) (q_rt 8010)) := rfl
set_option maxRecDepth 100000 in
theorem q_mw_X8_stickTold : lw_tbl[1265]? = some (Cond.code (q_y 8011) (q_b 8011) (q_ml 8011) (q_rt 8011)) := rfl
set_option maxRecDepth 100000 in
theorem q_mw_X8_wind : lw_tbl[1273]? = some (Cond.code (q_y 8012) (q_b 8012) (q_ml 8012) (q_rt 8012)) := rfl
set_option maxRecDepth 100000 in
theorem q_mw_X8_toss : lw_tbl[1277]? = some (Cond.code (q_y 8013) (q_b 8013) (q_ml 8013) (q_rt 8013)) := rfl
set_option maxRecDepth 100000 in
theorem q_mw_X8_highOf : lw_tbl[1289]? = some (Cond.code (q_y 8014) (q_b 8014) (q_ml 8014) (q_rt 8014)) := rfl
set_option maxRecDepth 100000 in
theorem q_mw_X8_tossTold : lw_tbl[1281]? = some (Cond.code (q_y 8015) (q_b 8015) (q_ml 8015) (q_rt 8015)) := rfl
set_option maxRecDepth 100000 in
theorem q_mw_X8_count : lw_tbl[1293]? = some (Cond.code (q_y 8016) (q_b 8016) (q_ml 8016) (q_rt 8016)) := rfl
set_option maxRecDepth 100000 in
theorem q_mw_X8_feed : lw_tbl[1297]? = some (Cond.code (q_y 8017) (q_b 8017) (q_ml 8017) (q_rt 8017)) := rfl
set_option maxRecDepth 100000 in
theorem q_mw_X8_letters : lw_tbl[1310]? = some (Cond.code (q_y 8018) (q_b 8018) (q_ml 8018) (q_rt 8018)) := rfl
theorem q_Mso_3 : ∀ M ∈ q_Ms_3, ∃ i : Nat, lw_tbl[i]? = some (Cond.code (q_y M) (q_b M) (q_ml M) (q_rt M)) := List.forall_mem_cons.mpr ⟨⟨_, q_mw_X7_copy⟩, List.forall_mem_cons.mpr ⟨⟨_, q_mw_X7_peopleBy⟩, List.forall_mem_cons.mpr ⟨⟨_, q_mw_X7_taken⟩, List.forall_mem_cons.mpr ⟨⟨_, q_mw_X7_within⟩, List.forall_mem_cons.mpr ⟨⟨_, q_mw_X7_filedWell⟩, List.forall_mem_cons.mpr ⟨⟨_, q_mw_X7_stickAt⟩, List.forall_mem_cons.mpr ⟨⟨_, q_mw_X7_tossAt⟩, List.forall_mem_cons.mpr ⟨⟨_, q_mw_X7_aim⟩, List.forall_mem_cons.mpr ⟨⟨_, q_mw_X7_aimTrial⟩, List.forall_mem_cons.mpr ⟨⟨_, q_mw_X7_flown⟩, List.forall_mem_cons.mpr ⟨⟨_, q_mw_X7_returnsAsAimed⟩, List.forall_mem_cons.mpr ⟨⟨_, q_mw_X7_endAsAimed⟩, List.forall_mem_cons.mpr ⟨⟨_, q_mw_X7_isHand⟩, List.forall_mem_cons.mpr ⟨⟨_, q_mw_X7_handSize⟩, List.forall_mem_cons.mpr ⟨⟨_, q_mw_X7_wander⟩, List.forall_mem_cons.mpr ⟨⟨_, q_mw_X7_lowestTerm⟩, List.forall_mem_cons.mpr ⟨⟨_, q_mw_X7_leastFiling⟩, List.forall_mem_cons.mpr ⟨⟨_, q_mw_X7_filmRefused⟩, List.forall_mem_cons.mpr ⟨⟨_, q_mw_X7_tossesThatFit⟩, List.forall_mem_cons.mpr ⟨⟨_, q_mw_X7_lawsThatFit⟩, List.forall_mem_cons.mpr ⟨⟨_, q_mw_X7_liftsThatFit⟩, List.forall_mem_cons.mpr ⟨⟨_, q_mw_X8_init⟩, List.forall_mem_cons.mpr ⟨⟨_, q_mw_X8_first⟩, List.forall_mem_cons.mpr ⟨⟨_, q_mw_X8_in⟩, List.forall_mem_cons.mpr ⟨⟨_, q_mw_X8_isStick⟩, List.forall_mem_cons.mpr ⟨⟨_, q_mw_X8_isPiece⟩, List.forall_mem_cons.mpr ⟨⟨_, q_mw_X8_isThrow⟩, List.forall_mem_cons.mpr ⟨⟨_, q_mw_X8_stick⟩, List.forall_mem_cons.mpr ⟨⟨_, q_mw_X8_piece⟩, List.forall_mem_cons.mpr ⟨⟨_, q_mw_X8_file⟩, List.forall_mem_cons.mpr ⟨⟨_, q_mw_X8_pieceTold⟩, List.forall_mem_cons.mpr ⟨⟨_, q_mw_X8_sumOf⟩, List.forall_mem_cons.mpr ⟨⟨_, q_mw_X8_stickTold⟩, List.forall_mem_cons.mpr ⟨⟨_, q_mw_X8_wind⟩, List.forall_mem_cons.mpr ⟨⟨_, q_mw_X8_toss⟩, List.forall_mem_cons.mpr ⟨⟨_, q_mw_X8_highOf⟩, List.forall_mem_cons.mpr ⟨⟨_, q_mw_X8_tossTold⟩, List.forall_mem_cons.mpr ⟨⟨_, q_mw_X8_count⟩, List.forall_mem_cons.mpr ⟨⟨_, q_mw_X8_feed⟩, List.forall_mem_cons.mpr ⟨⟨_, q_mw_X8_letters⟩, fun _ h => absurd h List.not_mem_nil⟩⟩⟩⟩⟩⟩⟩⟩⟩⟩⟩⟩⟩⟩⟩⟩⟩⟩⟩⟩⟩⟩⟩⟩⟩⟩⟩⟩⟩⟩⟩⟩⟩⟩⟩⟩⟩⟩⟩⟩
set_option maxRecDepth 100000 in
theorem q_mw_X8_next : lw_tbl[1306]? = some (Cond.code (q_y 8019) (q_b 8019) (q_ml 8019) (q_rt 8019)) := rfl
set_option maxRecDepth 100000 in
theorem q_mw_X8_rank : lw_tbl[1326]? = some (Cond.code (q_y 8020) (q_b 8020) (q_ml 8020) (q_rt 8020)) := rfl
set_option maxRecDepth 100000 in
theorem q_mw_X8_puts : lw_tbl[1319]? = some (Cond.code (q_y 8021) (q_b 8021) (q_ml 8021) (q_rt 8021)) := rfl
set_option maxRecDepth 100000 in
theorem q_mw_X8_unwinds : lw_tbl[1323]? = some (Cond.code (q_y 8022) (q_b 8022) (q_ml 8022) (q_rt 8022)) := rfl
set_option maxRecDepth 100000 in
theorem q_mw_X8_holds : lw_tbl[1334]? = some (Cond.code (q_y 8023) (q_b 8023) (q_ml 8023) (q_rt 8023)) := rfl
set_option maxRecDepth 100000 in
theorem q_mw_X8_opensOne : lw_tbl[1330]? = some (Cond.code (q_y 8024) (q_b 8024) (q_ml 8024) (q_rt 8024)) := rfl
set_option maxRecDepth 100000 in
theorem q_mw_X8_between : lw_tbl[1342]? = some (Cond.code (q_y 8025) (q_b 8025) (q_ml 8025) (q_rt 8025)) := rfl
set_option maxRecDepth 100000 in
theorem q_mw_X8_signOf : lw_tbl[1338]? = some (Cond.code (q_y 8026) (q_b 8026) (q_ml 8026) (q_rt 8026)) := rfl
set_option maxRecDepth 100000 in
theorem q_mw_X8_eRead : lw_tbl[1314]? = some (Cond.code (q_y 8027) (q_b 8027) (q_ml 8027) (q_rt 8027)) := rfl
set_option maxRecDepth 100000 in
theorem q_mw_X8_text : lw_tbl[1302]? = some (Cond.code (q_y 8028) (q_b 8028) (q_ml 8028) (q_rt 8028)) := rfl
set_option maxRecDepth 100000 in
theorem q_mw_X8_two : lw_tbl[1378]? = some (Cond.code (q_y 8029) (q_b 8029) (q_ml 8029) (q_rt 8029)) := rfl
set_option maxRecDepth 100000 in
theorem q_mw_X8_worth : lw_tbl[1375]? = some (Cond.code (q_y 8030) (q_b 8030) (q_ml 8030) (q_rt 8030)) := rfl
set_option maxRecDepth 100000 in
theorem q_mw_X8_force : lw_tbl[1346]? = some (Cond.code (q_y 8031) (q_b 8031) (q_ml 8031) (q_rt 8031)) := rfl
set_option maxRecDepth 100000 in
theorem q_mw_X8_windAt : lw_tbl[1371]? = some (Cond.code (q_y 8032) (q_b 8032) (q_ml 8032) (q_rt 8032)) := rfl
set_option maxRecDepth 100000 in
theorem q_mw_X8_says : lw_tbl[1367]? = some (Cond.code (q_y 8033) (q_b 8033) (q_ml 8033) (q_rt 8033)) := rfl
set_option maxRecDepth 100000 in
theorem q_mw_X8_within : lw_tbl[1381]? = some (Cond.code (q_y 8034) (q_b 8034) (q_ml 8034) (q_rt 8034)) := rfl
set_option maxRecDepth 100000 in
theorem q_mw_X8_upAt : lw_tbl[1385]? = some (Cond.code (q_y 8035) (q_b 8035) (q_ml 8035) (q_rt 8035)) := rfl
set_option maxRecDepth 100000 in
theorem q_mw_X8_turnAt : lw_tbl[1363]? = some (Cond.code (q_y 8036) (q_b 8036) (q_ml 8036) (q_rt 8036)) := rfl
set_option maxRecDepth 100000 in
theorem q_mw_X8_lessAt : lw_tbl[1389]? = some (Cond.code (q_y 8037) (q_b 8037) (q_ml 8037) (q_rt 8037)) := rfl
set_option maxRecDepth 100000 in
theorem q_mw_X8_goes : lw_tbl[1359]? = some (Cond.code (q_y 8038) (q_b 8038) (q_ml 8038) (q_rt 8038)) := rfl
set_option maxRecDepth 100000 in
theorem q_mw_X8_fliesAs : lw_tbl[1355]? = some (Cond.code (q_y 8039) (q_b 8039) (q_ml 8039) (q_rt 8039)) := rfl
set_option maxRecDepth 100000 in
theorem q_mw_X8_offAt : lw_tbl[1397]? = some (Cond.code (q_y 8040) (q_b 8040) (q_ml 8040) (q_rt 8040)) := rfl
set_option maxRecDepth 100000 in
theorem q_mw_X8_isBack : lw_tbl[1412]? = some (Cond.code (q_y 8041) (q_b 8041) (q_ml 8041) (q_rt 8041)) := rfl
set_option maxRecDepth 100000 in
theorem q_mw_X8_tick : lw_tbl[1350]? = some (Cond.code (q_y 8042) (q_b 8042) (q_ml 8042) (q_rt 8042)) := rfl
set_option maxRecDepth 100000 in
theorem q_mw_X8_highest : lw_tbl[1401]? = some (Cond.code (q_y 8043) (q_b 8043) (q_ml 8043) (q_rt 8043)) := rfl
set_option maxRecDepth 100000 in
theorem q_mw_X8_fly : lw_tbl[1393]? = some (Cond.code (q_y 8044) (q_b 8044) (q_ml 8044) (q_rt 8044)) := rfl
set_option maxRecDepth 100000 in
theorem q_mw_X8_isNear : lw_tbl[1408]? = some (Cond.code (q_y 8045) (q_b 8045) (q_ml 8045) (q_rt 8045)) := rfl
set_option maxRecDepth 100000 in
theorem q_mw_X8_comes : lw_tbl[1405]? = some (Cond.code (q_y 8046) (q_b 8046) (q_ml 8046) (q_rt 8046)) := rfl
set_option maxRecDepth 100000 in
theorem q_mw_X8_lies : lw_tbl[1416]? = some (Cond.code (q_y 8047) (q_b 8047) (q_ml 8047) (q_rt 8047)) := rfl
set_option maxRecDepth 100000 in
theorem q_mw_X8_hovers : lw_tbl[1420]? = some (Cond.code (q_y 8048) (q_b 8048) (q_ml 8048) (q_rt 8048)) := rfl
set_option maxRecDepth 100000 in
theorem q_mw_X8_circle : lw_tbl[1424]? = some (Cond.code (q_y 8049) (q_b 8049) (q_ml 8049) (q_rt 8049)) := rfl
set_option maxRecDepth 100000 in
theorem q_mw_X8_down : lw_tbl[1428]? = some (Cond.code (q_y 8050) (q_b 8050) (q_ml 8050) (q_rt 8050)) := rfl
set_option maxRecDepth 100000 in
theorem q_mw_X8_why : lw_tbl[1432]? = some (Cond.code (q_y 8051) (q_b 8051) (q_ml 8051) (q_rt 8051)) := rfl
set_option maxRecDepth 100000 in
theorem q_mw_X8_size : lw_tbl[1439]? = some (Cond.code (q_y 8052) (q_b 8052) (q_ml 8052) (q_rt 8052)) := rfl
set_option maxRecDepth 100000 in
theorem q_mw_X8_room : lw_tbl[1436]? = some (Cond.code (q_y 8053) (q_b 8053) (q_ml 8053) (q_rt 8053)) := rfl
set_option maxRecDepth 100000 in
theorem q_mw_X8_winds : lw_tbl[1443]? = some (Cond.code (q_y 8054) (q_b 8054) (q_ml 8054) (q_rt 8054)) := rfl
set_option maxRecDepth 100000 in
theorem q_mw_X8_paces : lw_tbl[1447]? = some (Cond.code (q_y 8055) (q_b 8055) (q_ml 8055) (q_rt 8055)) := rfl
set_option maxRecDepth 100000 in
theorem q_mw_X8_lowest : lw_tbl[1463]? = some (Cond.code (q_y 8056) (q_b 8056) (q_ml 8056) (q_rt 8056)) := rfl
set_option maxRecDepth 100000 in
theorem q_mw_X8_byHand : lw_tbl[1459]? = some (Cond.code (q_y 8057) (q_b 8057) (q_ml 8057) (q_rt 8057)) := rfl
set_option maxRecDepth 100000 in
theorem q_mw_X8_isHand : lw_tbl[1455]? = some (Cond.code (q_y 8058) (q_b 8058) (q_ml 8058) (q_rt 8058)) := rfl
theorem q_Mso_4 : ∀ M ∈ q_Ms_4, ∃ i : Nat, lw_tbl[i]? = some (Cond.code (q_y M) (q_b M) (q_ml M) (q_rt M)) := List.forall_mem_cons.mpr ⟨⟨_, q_mw_X8_next⟩, List.forall_mem_cons.mpr ⟨⟨_, q_mw_X8_rank⟩, List.forall_mem_cons.mpr ⟨⟨_, q_mw_X8_puts⟩, List.forall_mem_cons.mpr ⟨⟨_, q_mw_X8_unwinds⟩, List.forall_mem_cons.mpr ⟨⟨_, q_mw_X8_holds⟩, List.forall_mem_cons.mpr ⟨⟨_, q_mw_X8_opensOne⟩, List.forall_mem_cons.mpr ⟨⟨_, q_mw_X8_between⟩, List.forall_mem_cons.mpr ⟨⟨_, q_mw_X8_signOf⟩, List.forall_mem_cons.mpr ⟨⟨_, q_mw_X8_eRead⟩, List.forall_mem_cons.mpr ⟨⟨_, q_mw_X8_text⟩, List.forall_mem_cons.mpr ⟨⟨_, q_mw_X8_two⟩, List.forall_mem_cons.mpr ⟨⟨_, q_mw_X8_worth⟩, List.forall_mem_cons.mpr ⟨⟨_, q_mw_X8_force⟩, List.forall_mem_cons.mpr ⟨⟨_, q_mw_X8_windAt⟩, List.forall_mem_cons.mpr ⟨⟨_, q_mw_X8_says⟩, List.forall_mem_cons.mpr ⟨⟨_, q_mw_X8_within⟩, List.forall_mem_cons.mpr ⟨⟨_, q_mw_X8_upAt⟩, List.forall_mem_cons.mpr ⟨⟨_, q_mw_X8_turnAt⟩, List.forall_mem_cons.mpr ⟨⟨_, q_mw_X8_lessAt⟩, List.forall_mem_cons.mpr ⟨⟨_, q_mw_X8_goes⟩, List.forall_mem_cons.mpr ⟨⟨_, q_mw_X8_fliesAs⟩, List.forall_mem_cons.mpr ⟨⟨_, q_mw_X8_offAt⟩, List.forall_mem_cons.mpr ⟨⟨_, q_mw_X8_isBack⟩, List.forall_mem_cons.mpr ⟨⟨_, q_mw_X8_tick⟩, List.forall_mem_cons.mpr ⟨⟨_, q_mw_X8_highest⟩, List.forall_mem_cons.mpr ⟨⟨_, q_mw_X8_fly⟩, List.forall_mem_cons.mpr ⟨⟨_, q_mw_X8_isNear⟩, List.forall_mem_cons.mpr ⟨⟨_, q_mw_X8_comes⟩, List.forall_mem_cons.mpr ⟨⟨_, q_mw_X8_lies⟩, List.forall_mem_cons.mpr ⟨⟨_, q_mw_X8_hovers⟩, List.forall_mem_cons.mpr ⟨⟨_, q_mw_X8_circle⟩, List.forall_mem_cons.mpr ⟨⟨_, q_mw_X8_down⟩, List.forall_mem_cons.mpr ⟨⟨_, q_mw_X8_why⟩, List.forall_mem_cons.mpr ⟨⟨_, q_mw_X8_size⟩, List.forall_mem_cons.mpr ⟨⟨_, q_mw_X8_room⟩, List.forall_mem_cons.mpr ⟨⟨_, q_mw_X8_winds⟩, List.forall_mem_cons.mpr ⟨⟨_, q_mw_X8_paces⟩, List.forall_mem_cons.mpr ⟨⟨_, q_mw_X8_lowest⟩, List.forall_mem_cons.mpr ⟨⟨_, q_mw_X8_byHand⟩, List.forall_mem_cons.mpr ⟨⟨_, q_mw_X8_isHand⟩, fun _ h => absurd h List.not_mem_nil⟩⟩⟩⟩⟩⟩⟩⟩⟩⟩⟩⟩⟩⟩⟩⟩⟩⟩⟩⟩⟩⟩⟩⟩⟩⟩⟩⟩⟩⟩⟩⟩⟩⟩⟩⟩⟩⟩⟩⟩
set_option maxRecDepth 100000 in
theorem q_mw_X8_odds : lw_tbl[1452]? = some (Cond.code (q_y 8059) (q_b 8059) (q_ml 8059) (q_rt 8059)) := rfl
set_option maxRecDepth 100000 in
theorem q_mw_X8_mean : lw_tbl[1467]? = some (Cond.code (q_y 8060) (q_b 8060) (q_ml 8060) (q_rt 8060)) := rfl
set_option maxRecDepth 100000 in
theorem q_mw_X8_best : lw_tbl[1471]? = some (Cond.code (q_y 8061) (q_b 8061) (q_ml 8061) (q_rt 8061)) := rfl
set_option maxRecDepth 100000 in
theorem q_mw_X8_wouldBe : lw_tbl[1483]? = some (Cond.code (q_y 8062) (q_b 8062) (q_ml 8062) (q_rt 8062)) := rfl
set_option maxRecDepth 100000 in
theorem q_mw_X8_sets : lw_tbl[1487]? = some (Cond.code (q_y 8063) (q_b 8063) (q_ml 8063) (q_rt 8063)) := rfl
set_option maxRecDepth 100000 in
theorem q_mw_X8_leastOf : lw_tbl[1479]? = some (Cond.code (q_y 8064) (q_b 8064) (q_ml 8064) (q_rt 8064)) := rfl
set_option maxRecDepth 100000 in
theorem q_mw_X8_least : lw_tbl[1475]? = some (Cond.code (q_y 8065) (q_b 8065) (q_ml 8065) (q_rt 8065)) := rfl
set_option maxRecDepth 100000 in
theorem q_mw_X8_mend : lw_tbl[1491]? = some (Cond.code (q_y 8066) (q_b 8066) (q_ml 8066) (q_rt 8066)) := rfl
set_option maxRecDepth 100000 in
theorem q_mw_X8_exchange : lw_tbl[1495]? = some (Cond.code (q_y 8067) (q_b 8067) (q_ml 8067) (q_rt 8067)) := rfl
set_option maxRecDepth 100000 in
theorem q_mw_X8_form : lw_tbl[1499]? = some (Cond.code (q_y 8068) (q_b 8068) (q_ml 8068) (q_rt 8068)) := rfl
set_option maxRecDepth 100000 in
theorem q_mw_X8_lead : lw_tbl[1503]? = some (Cond.code (q_y 8069) (q_b 8069) (q_ml 8069) (q_rt 8069)) := rfl
set_option maxRecDepth 100000 in
theorem q_mw_X8_filmWrong : lw_tbl[1511]? = some (Cond.code (q_y 8070) (q_b 8070) (q_ml 8070) (q_rt 8070)) := rfl
set_option maxRecDepth 100000 in
theorem q_mw_X8_unlike : lw_tbl[1515]? = some (Cond.code (q_y 8071) (q_b 8071) (q_ml 8071) (q_rt 8071)) := rfl
set_option maxRecDepth 100000 in
theorem q_mw_X8_judge : lw_tbl[1507]? = some (Cond.code (q_y 8072) (q_b 8072) (q_ml 8072) (q_rt 8072)) := rfl
set_option maxRecDepth 100000 in
theorem q_mw_X8_film : lw_tbl[1519]? = some (Cond.code (q_y 8073) (q_b 8073) (q_ml 8073) (q_rt 8073)) := rfl
set_option maxRecDepth 100000 in
theorem q_mw_X8_which : lw_tbl[1523]? = some (Cond.code (q_y 8074) (q_b 8074) (q_ml 8074) (q_rt 8074)) := rfl
set_option maxRecDepth 100000 in
theorem q_mw_X8_readOf : lw_tbl[1531]? = some (Cond.code (q_y 8075) (q_b 8075) (q_ml 8075) (q_rt 8075)) := rfl
set_option maxRecDepth 100000 in
theorem q_mw_X8_read : lw_tbl[1527]? = some (Cond.code (q_y 8076) (q_b 8076) (q_ml 8076) (q_rt 8076)) := rfl
set_option maxRecDepth 100000 in
theorem q_mw_X8_apart : lw_tbl[1535]? = some (Cond.code (q_y 8077) (q_b 8077) (q_ml 8077) (q_rt 8077)) := rfl
set_option maxRecDepth 100000 in
theorem q_mw_X8_isSpot : lw_tbl[1542]? = some (Cond.code (q_y 8078) (q_b 8078) (q_ml 8078) (q_rt 8078)) := rfl
set_option maxRecDepth 100000 in
theorem q_mw_X8_person : lw_tbl[1539]? = some (Cond.code (q_y 8079) (q_b 8079) (q_ml 8079) (q_rt 8079)) := rfl
set_option maxRecDepth 100000 in
theorem q_mw_X8_walks : lw_tbl[1546]? = some (Cond.code (q_y 8080) (q_b 8080) (q_ml 8080) (q_rt 8080)) := rfl
set_option maxRecDepth 100000 in
theorem q_mw_X8_hitNow : lw_tbl[1554]? = some (Cond.code (q_y 8081) (q_b 8081) (q_ml 8081) (q_rt 8081)) := rfl
set_option maxRecDepth 100000 in
theorem q_mw_X8_hit : lw_tbl[1550]? = some (Cond.code (q_y 8082) (q_b 8082) (q_ml 8082) (q_rt 8082)) := rfl
set_option maxRecDepth 100000 in
theorem q_mw_X8_hitOdds : lw_tbl[1558]? = some (Cond.code (q_y 8083) (q_b 8083) (q_ml 8083) (q_rt 8083)) := rfl
set_option maxRecDepth 100000 in
theorem q_mw_X8_near : lw_tbl[1562]? = some (Cond.code (q_y 8084) (q_b 8084) (q_ml 8084) (q_rt 8084)) := rfl
set_option maxRecDepth 100000 in
theorem q_mw_X8_mirror : lw_tbl[1566]? = some (Cond.code (q_y 8085) (q_b 8085) (q_ml 8085) (q_rt 8085)) := rfl
set_option maxRecDepth 100000 in
theorem q_mw_X8_drawn : lw_tbl[1570]? = some (Cond.code (q_y 8086) (q_b 8086) (q_ml 8086) (q_rt 8086)) := rfl
set_option maxRecDepth 100000 in
theorem q_mw_X8_want : lw_tbl[1578]? = some (Cond.code (q_y 8087) (q_b 8087) (q_ml 8087) (q_rt 8087)) := rfl
set_option maxRecDepth 100000 in
theorem q_mw_X8_image : lw_tbl[1582]? = some (Cond.code (q_y 8088) (q_b 8088) (q_ml 8088) (q_rt 8088)) := rfl
set_option maxRecDepth 100000 in
theorem q_mw_X8_back : lw_tbl[1586]? = some (Cond.code (q_y 8089) (q_b 8089) (q_ml 8089) (q_rt 8089)) := rfl
set_option maxRecDepth 100000 in
theorem q_mw_X8_sheet : lw_tbl[1590]? = some (Cond.code (q_y 8090) (q_b 8090) (q_ml 8090) (q_rt 8090)) := rfl
set_option maxRecDepth 100000 in
theorem q_mw_X8_cell : lw_tbl[1594]? = some (Cond.code (q_y 8091) (q_b 8091) (q_ml 8091) (q_rt 8091)) := rfl
set_option maxRecDepth 100000 in
theorem q_mw_X8_copy : lw_tbl[1598]? = some (Cond.code (q_y 8092) (q_b 8092) (q_ml 8092) (q_rt 8092)) := rfl
set_option maxRecDepth 100000 in
theorem q_mw_X8_peopleBy : lw_tbl[1602]? = some (Cond.code (q_y 8093) (q_b 8093) (q_ml 8093) (q_rt 8093)) := rfl
set_option maxRecDepth 100000 in
theorem q_mw_X8_isUnder : lw_tbl[1610]? = some (Cond.code (q_y 8094) (q_b 8094) (q_ml 8094) (q_rt 8094)) := rfl
set_option maxRecDepth 100000 in
theorem q_mw_X8_taken : lw_tbl[1607]? = some (Cond.code (q_y 8095) (q_b 8095) (q_ml 8095) (q_rt 8095)) := rfl
set_option maxRecDepth 100000 in
theorem q_mw_J6_bitCount_0f7a4 : lw_tbl[504]? = some (Cond.code (q_y 9000) (q_b 9000) (q_ml 9000) (q_rt 9000)) := rfl
set_option maxRecDepth 100000 in
theorem q_mw_J9_floorMod_7cf53 : lw_tbl[684]? = some (Cond.code (q_y 10000) (q_b 10000) (q_ml 10000) (q_rt 10000)) := rfl
set_option maxRecDepth 100000 in
theorem q_mw_J9_abs_0f7a4 : lw_tbl[771]? = some (Cond.code (q_y 10001) (q_b 10001) (q_ml 10001) (q_rt 10001)) := rfl
theorem q_Mso_5 : ∀ M ∈ q_Ms_5, ∃ i : Nat, lw_tbl[i]? = some (Cond.code (q_y M) (q_b M) (q_ml M) (q_rt M)) := List.forall_mem_cons.mpr ⟨⟨_, q_mw_X8_odds⟩, List.forall_mem_cons.mpr ⟨⟨_, q_mw_X8_mean⟩, List.forall_mem_cons.mpr ⟨⟨_, q_mw_X8_best⟩, List.forall_mem_cons.mpr ⟨⟨_, q_mw_X8_wouldBe⟩, List.forall_mem_cons.mpr ⟨⟨_, q_mw_X8_sets⟩, List.forall_mem_cons.mpr ⟨⟨_, q_mw_X8_leastOf⟩, List.forall_mem_cons.mpr ⟨⟨_, q_mw_X8_least⟩, List.forall_mem_cons.mpr ⟨⟨_, q_mw_X8_mend⟩, List.forall_mem_cons.mpr ⟨⟨_, q_mw_X8_exchange⟩, List.forall_mem_cons.mpr ⟨⟨_, q_mw_X8_form⟩, List.forall_mem_cons.mpr ⟨⟨_, q_mw_X8_lead⟩, List.forall_mem_cons.mpr ⟨⟨_, q_mw_X8_filmWrong⟩, List.forall_mem_cons.mpr ⟨⟨_, q_mw_X8_unlike⟩, List.forall_mem_cons.mpr ⟨⟨_, q_mw_X8_judge⟩, List.forall_mem_cons.mpr ⟨⟨_, q_mw_X8_film⟩, List.forall_mem_cons.mpr ⟨⟨_, q_mw_X8_which⟩, List.forall_mem_cons.mpr ⟨⟨_, q_mw_X8_readOf⟩, List.forall_mem_cons.mpr ⟨⟨_, q_mw_X8_read⟩, List.forall_mem_cons.mpr ⟨⟨_, q_mw_X8_apart⟩, List.forall_mem_cons.mpr ⟨⟨_, q_mw_X8_isSpot⟩, List.forall_mem_cons.mpr ⟨⟨_, q_mw_X8_person⟩, List.forall_mem_cons.mpr ⟨⟨_, q_mw_X8_walks⟩, List.forall_mem_cons.mpr ⟨⟨_, q_mw_X8_hitNow⟩, List.forall_mem_cons.mpr ⟨⟨_, q_mw_X8_hit⟩, List.forall_mem_cons.mpr ⟨⟨_, q_mw_X8_hitOdds⟩, List.forall_mem_cons.mpr ⟨⟨_, q_mw_X8_near⟩, List.forall_mem_cons.mpr ⟨⟨_, q_mw_X8_mirror⟩, List.forall_mem_cons.mpr ⟨⟨_, q_mw_X8_drawn⟩, List.forall_mem_cons.mpr ⟨⟨_, q_mw_X8_want⟩, List.forall_mem_cons.mpr ⟨⟨_, q_mw_X8_image⟩, List.forall_mem_cons.mpr ⟨⟨_, q_mw_X8_back⟩, List.forall_mem_cons.mpr ⟨⟨_, q_mw_X8_sheet⟩, List.forall_mem_cons.mpr ⟨⟨_, q_mw_X8_cell⟩, List.forall_mem_cons.mpr ⟨⟨_, q_mw_X8_copy⟩, List.forall_mem_cons.mpr ⟨⟨_, q_mw_X8_peopleBy⟩, List.forall_mem_cons.mpr ⟨⟨_, q_mw_X8_isUnder⟩, List.forall_mem_cons.mpr ⟨⟨_, q_mw_X8_taken⟩, List.forall_mem_cons.mpr ⟨⟨_, q_mw_J6_bitCount_0f7a4⟩, List.forall_mem_cons.mpr ⟨⟨_, q_mw_J9_floorMod_7cf53⟩, List.forall_mem_cons.mpr ⟨⟨_, q_mw_J9_abs_0f7a4⟩, fun _ h => absurd h List.not_mem_nil⟩⟩⟩⟩⟩⟩⟩⟩⟩⟩⟩⟩⟩⟩⟩⟩⟩⟩⟩⟩⟩⟩⟩⟩⟩⟩⟩⟩⟩⟩⟩⟩⟩⟩⟩⟩⟩⟩⟩⟩
set_option maxRecDepth 100000 in
theorem q_mw_J9_max_7cf53 : lw_tbl[624]? = some (Cond.code (q_y 10002) (q_b 10002) (q_ml 10002) (q_rt 10002)) := rfl
set_option maxRecDepth 100000 in
theorem q_mw_J9_min_7cf53 : lw_tbl[670]? = some (Cond.code (q_y 10003) (q_b 10003) (q_ml 10003) (q_rt 10003)) := rfl
set_option maxRecDepth 100000 in
theorem q_mw_J0_length_8abf5 : lw_tbl[267]? = some (Cond.code (q_y 11000) (q_b 11000) (q_ml 11000) (q_rt 11000)) := rfl
set_option maxRecDepth 100000 in
theorem q_mw_J0_charAt_5068e : lw_tbl[277]? = some (Cond.code (q_y 11001) (q_b 11001) (q_ml 11001) (q_rt 11001)) := rfl
set_option maxRecDepth 100000 in
theorem q_mw_J0_coder_7d493 : lw_tbl[271]? = some (Cond.code (q_y 11002) (q_b 11002) (q_ml 11002) (q_rt 11002)) := rfl
set_option maxRecDepth 100000 in
theorem q_mw_J0_isLatin1_aae02 : lw_tbl[281]? = some (Cond.code (q_y 11003) (q_b 11003) (q_ml 11003) (q_rt 11003)) := rfl
set_option maxRecDepth 100000 in
theorem q_mw_J0_checkIndex_df160 : lw_tbl[287]? = some (Cond.code (q_y 11004) (q_b 11004) (q_ml 11004) (q_rt 11004)) := rfl
set_option maxRecDepth 100000 in
theorem q_mw_J1_charAt_3b067 : lw_tbl[284]? = some (Cond.code (q_y 12000) (q_b 12000) (q_ml 12000) (q_rt 12000)) := rfl
set_option maxRecDepth 100000 in
theorem q_mw_J2_getChar_3b067 : lw_tbl[305]? = some (Cond.code (q_y 13000) (q_b 13000) (q_ml 13000) (q_rt 13000)) := rfl
set_option maxRecDepth 100000 in
theorem q_mw_J2_length_9d52b : lw_tbl[301]? = some (Cond.code (q_y 13001) (q_b 13001) (q_ml 13001) (q_rt 13001)) := rfl
set_option maxRecDepth 100000 in
theorem q_mw_J2_charAt_3b067 : lw_tbl[295]? = some (Cond.code (q_y 13002) (q_b 13002) (q_ml 13002) (q_rt 13002)) := rfl
set_option maxRecDepth 100000 in
theorem q_mw_J2_checkIndex_2214a : lw_tbl[298]? = some (Cond.code (q_y 13003) (q_b 13003) (q_ml 13003) (q_rt 13003)) := rfl
set_option maxRecDepth 100000 in
theorem q_mw_J3_checkIndex_8e157 : lw_tbl[292]? = some (Cond.code (q_y 14000) (q_b 14000) (q_ml 14000) (q_rt 14000)) := rfl
theorem q_Mso_6 : ∀ M ∈ q_Ms_6, ∃ i : Nat, lw_tbl[i]? = some (Cond.code (q_y M) (q_b M) (q_ml M) (q_rt M)) := List.forall_mem_cons.mpr ⟨⟨_, q_mw_J9_max_7cf53⟩, List.forall_mem_cons.mpr ⟨⟨_, q_mw_J9_min_7cf53⟩, List.forall_mem_cons.mpr ⟨⟨_, q_mw_J0_length_8abf5⟩, List.forall_mem_cons.mpr ⟨⟨_, q_mw_J0_charAt_5068e⟩, List.forall_mem_cons.mpr ⟨⟨_, q_mw_J0_coder_7d493⟩, List.forall_mem_cons.mpr ⟨⟨_, q_mw_J0_isLatin1_aae02⟩, List.forall_mem_cons.mpr ⟨⟨_, q_mw_J0_checkIndex_df160⟩, List.forall_mem_cons.mpr ⟨⟨_, q_mw_J1_charAt_3b067⟩, List.forall_mem_cons.mpr ⟨⟨_, q_mw_J2_getChar_3b067⟩, List.forall_mem_cons.mpr ⟨⟨_, q_mw_J2_length_9d52b⟩, List.forall_mem_cons.mpr ⟨⟨_, q_mw_J2_charAt_3b067⟩, List.forall_mem_cons.mpr ⟨⟨_, q_mw_J2_checkIndex_2214a⟩, List.forall_mem_cons.mpr ⟨⟨_, q_mw_J3_checkIndex_8e157⟩, fun _ h => absurd h List.not_mem_nil⟩⟩⟩⟩⟩⟩⟩⟩⟩⟩⟩⟩⟩
def q_Ms : List Nat := q_Ms_0 ++ (q_Ms_1 ++ (q_Ms_2 ++ (q_Ms_3 ++ (q_Ms_4 ++ (q_Ms_5 ++ (q_Ms_6))))))
theorem q_Ms_ok : ∀ M ∈ q_Ms, q_mok M := List.forall_mem_append.mpr ⟨(fun M h => (q_Mso_0 M h).elim fun _ hw => q_mok_of hw (q_Msc_0 M h)), List.forall_mem_append.mpr ⟨(fun M h => (q_Mso_1 M h).elim fun _ hw => q_mok_of hw (q_Msc_1 M h)), List.forall_mem_append.mpr ⟨(fun M h => (q_Mso_2 M h).elim fun _ hw => q_mok_of hw (q_Msc_2 M h)), List.forall_mem_append.mpr ⟨(fun M h => (q_Mso_3 M h).elim fun _ hw => q_mok_of hw (q_Msc_3 M h)), List.forall_mem_append.mpr ⟨(fun M h => (q_Mso_4 M h).elim fun _ hw => q_mok_of hw (q_Msc_4 M h)), List.forall_mem_append.mpr ⟨(fun M h => (q_Mso_5 M h).elim fun _ hw => q_mok_of hw (q_Msc_5 M h)), (fun M h => (q_Mso_6 M h).elim fun _ hw => q_mok_of hw (q_Msc_6 M h))⟩⟩⟩⟩⟩⟩
