theorem q_mo_X0_init : q_mcheck 0 = true := by decide +kernel
theorem q_mo_X0_aim : q_mcheck 1 = true := by decide +kernel
theorem q_mo_X0_go : q_mcheck 2 = true := by decide +kernel
theorem q_mo_X0_begin : q_mcheck 3 = true := by decide +kernel
theorem q_mo_X0_goesOn : q_mcheck 4 = true := by decide +kernel
theorem q_mo_X0_step : q_mcheck 5 = true := by decide +kernel
theorem q_mo_X0_windAt : q_mcheck 6 = true := by decide +kernel
theorem q_mo_X0_look : q_mcheck 7 = true := by decide +kernel
theorem q_mo_X0_said : q_mcheck 8 = true := by decide +kernel
theorem q_mo_X0_isDown : q_mcheck 9 = true := by decide +kernel
theorem q_mo_X0_farOff : q_mcheck 10 = true := by decide +kernel
theorem q_mo_X0_returns : q_mcheck 11 = true := by decide +kernel
theorem q_mo_X0_farthestOff : q_mcheck 12 = true := by decide +kernel
theorem q_mo_X0_greatest : q_mcheck 13 = true := by decide +kernel
theorem q_mo_X0_smallest : q_mcheck 14 = true := by decide +kernel
theorem q_mo_X0_firstWith : q_mcheck 15 = true := by decide +kernel
theorem q_mo_X0_levelTicks : q_mcheck 16 = true := by decide +kernel
theorem q_mo_X0_turnedInAll : q_mcheck 17 = true := by decide +kernel
theorem q_mo_X0_lastClimb : q_mcheck 18 = true := by decide +kernel
theorem q_mo_X0_deepestDrop : q_mcheck 19 = true := by decide +kernel
theorem q_mo_X0_firstBeyond : q_mcheck 20 = true := by decide +kernel
theorem q_mo_X0_apartAt : q_mcheck 21 = true := by decide +kernel
theorem q_mo_X0_unlikeAt : q_mcheck 22 = true := by decide +kernel
theorem q_mo_X1_init : q_mcheck 1000 = true := by decide +kernel
theorem q_mo_X1_isName : q_mcheck 1001 = true := by decide +kernel
theorem q_mo_X1_say : q_mcheck 1002 = true := by decide +kernel
theorem q_mo_X1_altered : q_mcheck 1003 = true := by decide +kernel
theorem q_mo_X1_joined : q_mcheck 1004 = true := by decide +kernel
theorem q_mo_X2_init : q_mcheck 2000 = true := by decide +kernel
theorem q_mo_X2_isPlace : q_mcheck 2001 = true := by decide +kernel
theorem q_mo_X2_add : q_mcheck 2002 = true := by decide +kernel
theorem q_mo_X2_firstHit : q_mcheck 2003 = true := by decide +kernel
theorem q_mo_X2_keep : q_mcheck 2004 = true := by decide +kernel
theorem q_mo_X2_restore : q_mcheck 2005 = true := by decide +kernel
theorem q_mo_X3_init : q_mcheck 3000 = true := by decide +kernel
theorem q_mo_X3_put : q_mcheck 3001 = true := by decide +kernel
theorem q_mo_X3_toLaw : q_mcheck 3002 = true := by decide +kernel
theorem q_mo_X3_expression : q_mcheck 3003 = true := by decide +kernel
theorem q_mo_X3_joins : q_mcheck 3004 = true := by decide +kernel
theorem q_mo_X3_negation : q_mcheck 3005 = true := by decide +kernel
theorem q_mo_X3_single : q_mcheck 3006 = true := by decide +kernel
theorem q_mo_X3_demand : q_mcheck 3007 = true := by decide +kernel
theorem q_mo_X3_fail : q_mcheck 3008 = true := by decide +kernel
theorem q_mo_X3_emit : q_mcheck 3009 = true := by decide +kernel
theorem q_mo_X3_advance : q_mcheck 3010 = true := by decide +kernel
theorem q_mo_X3_isLetter : q_mcheck 3011 = true := by decide +kernel
theorem q_mo_X3_isDigit : q_mcheck 3012 = true := by decide +kernel
theorem q_mo_X3_signToken : q_mcheck 3013 = true := by decide +kernel
theorem q_mo_X3_wordToken : q_mcheck 3014 = true := by decide +kernel
theorem q_mo_X3_spells : q_mcheck 3015 = true := by decide +kernel
theorem q_mo_X4_init : q_mcheck 4000 = true := by decide +kernel
theorem q_mo_X4_become : q_mcheck 4001 = true := by decide +kernel
theorem q_mo_X4_narrowed : q_mcheck 4002 = true := by decide +kernel
theorem q_mo_X4_holds : q_mcheck 4003 = true := by decide +kernel
theorem q_mo_X5_init : q_mcheck 5000 = true := by decide +kernel
theorem q_mo_X5_has : q_mcheck 5001 = true := by decide +kernel
theorem q_mo_X5_sum : q_mcheck 5002 = true := by decide +kernel
theorem q_mo_X5_armsInUse : q_mcheck 5003 = true := by decide +kernel
theorem q_mo_X5_become : q_mcheck 5004 = true := by decide +kernel
theorem q_mo_X5_keep : q_mcheck 5005 = true := by decide +kernel
theorem q_mo_X5_restore : q_mcheck 5006 = true := by decide +kernel
theorem q_mo_X6_init : q_mcheck 6000 = true := by decide +kernel
theorem q_mo_X6_isA : q_mcheck 6001 = true := by decide +kernel
theorem q_mo_X6_isKind : q_mcheck 6002 = true := by decide +kernel
theorem q_mo_X6_startHeight : q_mcheck 6003 = true := by decide +kernel
theorem q_mo_X6_up : q_mcheck 6004 = true := by decide +kernel
theorem q_mo_X6_turn : q_mcheck 6005 = true := by decide +kernel
theorem q_mo_X6_less : q_mcheck 6006 = true := by decide +kernel
theorem q_mo_X6_wayOff : q_mcheck 6007 = true := by decide +kernel
theorem q_mo_X6_paceOff : q_mcheck 6008 = true := by decide +kernel
theorem q_mo_X6_bound : q_mcheck 6009 = true := by decide +kernel
theorem q_mo_X7_init : q_mcheck 7000 = true := by decide +kernel
theorem q_mo_X7_stick : q_mcheck 7001 = true := by decide +kernel
theorem q_mo_X7_piece : q_mcheck 7002 = true := by decide +kernel
theorem q_mo_X7_file : q_mcheck 7003 = true := by decide +kernel
theorem q_mo_X7_pieceTold : q_mcheck 7004 = true := by decide +kernel
theorem q_mo_X7_stickTold : q_mcheck 7005 = true := by decide +kernel
theorem q_mo_X7_wind : q_mcheck 7006 = true := by decide +kernel
theorem q_mo_X7_toss : q_mcheck 7007 = true := by decide +kernel
theorem q_mo_X7_tossTold : q_mcheck 7008 = true := by decide +kernel
theorem q_mo_X7_count : q_mcheck 7009 = true := by decide +kernel
theorem q_mo_X7_feed : q_mcheck 7010 = true := by decide +kernel
theorem q_mo_X7_text : q_mcheck 7011 = true := by decide +kernel
theorem q_mo_X7_force : q_mcheck 7012 = true := by decide +kernel
theorem q_mo_X7_tick : q_mcheck 7013 = true := by decide +kernel
theorem q_mo_X7_fly : q_mcheck 7014 = true := by decide +kernel
theorem q_mo_X7_comes : q_mcheck 7015 = true := by decide +kernel
theorem q_mo_X7_lies : q_mcheck 7016 = true := by decide +kernel
theorem q_mo_X7_hovers : q_mcheck 7017 = true := by decide +kernel
theorem q_mo_X7_circle : q_mcheck 7018 = true := by decide +kernel
theorem q_mo_X7_down : q_mcheck 7019 = true := by decide +kernel
theorem q_mo_X7_why : q_mcheck 7020 = true := by decide +kernel
theorem q_mo_X7_room : q_mcheck 7021 = true := by decide +kernel
theorem q_mo_X7_winds : q_mcheck 7022 = true := by decide +kernel
theorem q_mo_X7_paces : q_mcheck 7023 = true := by decide +kernel
theorem q_mo_X7_odds : q_mcheck 7024 = true := by decide +kernel
theorem q_mo_X7_mean : q_mcheck 7025 = true := by decide +kernel
theorem q_mo_X7_best : q_mcheck 7026 = true := by decide +kernel
theorem q_mo_X7_least : q_mcheck 7027 = true := by decide +kernel
theorem q_mo_X7_mend : q_mcheck 7028 = true := by decide +kernel
theorem q_mo_X7_exchange : q_mcheck 7029 = true := by decide +kernel
theorem q_mo_X7_form : q_mcheck 7030 = true := by decide +kernel
theorem q_mo_X7_lead : q_mcheck 7031 = true := by decide +kernel
theorem q_mo_X7_judge : q_mcheck 7032 = true := by decide +kernel
theorem q_mo_X7_film : q_mcheck 7033 = true := by decide +kernel
theorem q_mo_X7_which : q_mcheck 7034 = true := by decide +kernel
theorem q_mo_X7_read : q_mcheck 7035 = true := by decide +kernel
theorem q_mo_X7_apart : q_mcheck 7036 = true := by decide +kernel
theorem q_mo_X7_person : q_mcheck 7037 = true := by decide +kernel
theorem q_mo_X7_walks : q_mcheck 7038 = true := by decide +kernel
theorem q_mo_X7_hit : q_mcheck 7039 = true := by decide +kernel
theorem q_mo_X7_hitOdds : q_mcheck 7040 = true := by decide +kernel
theorem q_mo_X7_near : q_mcheck 7041 = true := by decide +kernel
theorem q_mo_X7_mirror : q_mcheck 7042 = true := by decide +kernel
theorem q_mo_X7_drawn : q_mcheck 7043 = true := by decide +kernel
theorem q_mo_X7_want : q_mcheck 7044 = true := by decide +kernel
theorem q_mo_X7_image : q_mcheck 7045 = true := by decide +kernel
theorem q_mo_X7_back : q_mcheck 7046 = true := by decide +kernel
theorem q_mo_X7_sheet : q_mcheck 7047 = true := by decide +kernel
theorem q_mo_X7_cell : q_mcheck 7048 = true := by decide +kernel
theorem q_mo_X7_copy : q_mcheck 7049 = true := by decide +kernel
theorem q_mo_X7_peopleBy : q_mcheck 7050 = true := by decide +kernel
theorem q_mo_X7_taken : q_mcheck 7051 = true := by decide +kernel
theorem q_mo_X7_within : q_mcheck 7052 = true := by decide +kernel
theorem q_mo_X7_filedWell : q_mcheck 7053 = true := by decide +kernel
theorem q_mo_X7_stickAt : q_mcheck 7054 = true := by decide +kernel
theorem q_mo_X7_tossAt : q_mcheck 7055 = true := by decide +kernel
theorem q_mo_X7_aim : q_mcheck 7056 = true := by decide +kernel
theorem q_mo_X7_aimTrial : q_mcheck 7057 = true := by decide +kernel
theorem q_mo_X7_flown : q_mcheck 7058 = true := by decide +kernel
theorem q_mo_X7_returnsAsAimed : q_mcheck 7059 = true := by decide +kernel
theorem q_mo_X7_endAsAimed : q_mcheck 7060 = true := by decide +kernel
theorem q_mo_X7_isHand : q_mcheck 7061 = true := by decide +kernel
theorem q_mo_X7_handSize : q_mcheck 7062 = true := by decide +kernel
theorem q_mo_X7_wander : q_mcheck 7063 = true := by decide +kernel
theorem q_mo_X7_lowestTerm : q_mcheck 7064 = true := by decide +kernel
theorem q_mo_X7_leastFiling : q_mcheck 7065 = true := by decide +kernel
theorem q_mo_X7_filmRefused : q_mcheck 7066 = true := by decide +kernel
theorem q_mo_X7_tossesThatFit : q_mcheck 7067 = true := by decide +kernel
theorem q_mo_X7_lawsThatFit : q_mcheck 7068 = true := by decide +kernel
theorem q_mo_X7_liftsThatFit : q_mcheck 7069 = true := by decide +kernel
theorem q_mo_X8_init : q_mcheck 8000 = true := by decide +kernel
theorem q_mo_X8_first : q_mcheck 8001 = true := by decide +kernel
theorem q_mo_X8_in : q_mcheck 8002 = true := by decide +kernel
theorem q_mo_X8_isStick : q_mcheck 8003 = true := by decide +kernel
theorem q_mo_X8_isPiece : q_mcheck 8004 = true := by decide +kernel
theorem q_mo_X8_isThrow : q_mcheck 8005 = true := by decide +kernel
theorem q_mo_X8_stick : q_mcheck 8006 = true := by decide +kernel
theorem q_mo_X8_piece : q_mcheck 8007 = true := by decide +kernel
theorem q_mo_X8_file : q_mcheck 8008 = true := by decide +kernel
theorem q_mo_X8_pieceTold : q_mcheck 8009 = true := by decide +kernel
theorem q_mo_X8_sumOf : q_mcheck 8010 = true := by decide +kernel
theorem q_mo_X8_stickTold : q_mcheck 8011 = true := by decide +kernel
theorem q_mo_X8_wind : q_mcheck 8012 = true := by decide +kernel
theorem q_mo_X8_toss : q_mcheck 8013 = true := by decide +kernel
theorem q_mo_X8_highOf : q_mcheck 8014 = true := by decide +kernel
theorem q_mo_X8_tossTold : q_mcheck 8015 = true := by decide +kernel
theorem q_mo_X8_count : q_mcheck 8016 = true := by decide +kernel
theorem q_mo_X8_feed : q_mcheck 8017 = true := by decide +kernel
theorem q_mo_X8_letters : q_mcheck 8018 = true := by decide +kernel
theorem q_mo_X8_next : q_mcheck 8019 = true := by decide +kernel
theorem q_mo_X8_rank : q_mcheck 8020 = true := by decide +kernel
theorem q_mo_X8_puts : q_mcheck 8021 = true := by decide +kernel
theorem q_mo_X8_unwinds : q_mcheck 8022 = true := by decide +kernel
theorem q_mo_X8_holds : q_mcheck 8023 = true := by decide +kernel
theorem q_mo_X8_opensOne : q_mcheck 8024 = true := by decide +kernel
theorem q_mo_X8_between : q_mcheck 8025 = true := by decide +kernel
theorem q_mo_X8_signOf : q_mcheck 8026 = true := by decide +kernel
theorem q_mo_X8_eRead : q_mcheck 8027 = true := by decide +kernel
theorem q_mo_X8_text : q_mcheck 8028 = true := by decide +kernel
theorem q_mo_X8_two : q_mcheck 8029 = true := by decide +kernel
theorem q_mo_X8_worth : q_mcheck 8030 = true := by decide +kernel
theorem q_mo_X8_force : q_mcheck 8031 = true := by decide +kernel
theorem q_mo_X8_windAt : q_mcheck 8032 = true := by decide +kernel
theorem q_mo_X8_says : q_mcheck 8033 = true := by decide +kernel
theorem q_mo_X8_within : q_mcheck 8034 = true := by decide +kernel
theorem q_mo_X8_upAt : q_mcheck 8035 = true := by decide +kernel
theorem q_mo_X8_turnAt : q_mcheck 8036 = true := by decide +kernel
theorem q_mo_X8_lessAt : q_mcheck 8037 = true := by decide +kernel
theorem q_mo_X8_goes : q_mcheck 8038 = true := by decide +kernel
theorem q_mo_X8_fliesAs : q_mcheck 8039 = true := by decide +kernel
theorem q_mo_X8_offAt : q_mcheck 8040 = true := by decide +kernel
theorem q_mo_X8_isBack : q_mcheck 8041 = true := by decide +kernel
theorem q_mo_X8_tick : q_mcheck 8042 = true := by decide +kernel
theorem q_mo_X8_highest : q_mcheck 8043 = true := by decide +kernel
theorem q_mo_X8_fly : q_mcheck 8044 = true := by decide +kernel
theorem q_mo_X8_isNear : q_mcheck 8045 = true := by decide +kernel
theorem q_mo_X8_comes : q_mcheck 8046 = true := by decide +kernel
theorem q_mo_X8_lies : q_mcheck 8047 = true := by decide +kernel
theorem q_mo_X8_hovers : q_mcheck 8048 = true := by decide +kernel
theorem q_mo_X8_circle : q_mcheck 8049 = true := by decide +kernel
theorem q_mo_X8_down : q_mcheck 8050 = true := by decide +kernel
theorem q_mo_X8_why : q_mcheck 8051 = true := by decide +kernel
theorem q_mo_X8_size : q_mcheck 8052 = true := by decide +kernel
theorem q_mo_X8_room : q_mcheck 8053 = true := by decide +kernel
theorem q_mo_X8_winds : q_mcheck 8054 = true := by decide +kernel
theorem q_mo_X8_paces : q_mcheck 8055 = true := by decide +kernel
theorem q_mo_X8_lowest : q_mcheck 8056 = true := by decide +kernel
theorem q_mo_X8_byHand : q_mcheck 8057 = true := by decide +kernel
theorem q_mo_X8_isHand : q_mcheck 8058 = true := by decide +kernel
theorem q_mo_X8_odds : q_mcheck 8059 = true := by decide +kernel
theorem q_mo_X8_mean : q_mcheck 8060 = true := by decide +kernel
theorem q_mo_X8_best : q_mcheck 8061 = true := by decide +kernel
theorem q_mo_X8_wouldBe : q_mcheck 8062 = true := by decide +kernel
theorem q_mo_X8_sets : q_mcheck 8063 = true := by decide +kernel
theorem q_mo_X8_leastOf : q_mcheck 8064 = true := by decide +kernel
theorem q_mo_X8_least : q_mcheck 8065 = true := by decide +kernel
theorem q_mo_X8_mend : q_mcheck 8066 = true := by decide +kernel
theorem q_mo_X8_exchange : q_mcheck 8067 = true := by decide +kernel
theorem q_mo_X8_form : q_mcheck 8068 = true := by decide +kernel
theorem q_mo_X8_lead : q_mcheck 8069 = true := by decide +kernel
theorem q_mo_X8_filmWrong : q_mcheck 8070 = true := by decide +kernel
theorem q_mo_X8_unlike : q_mcheck 8071 = true := by decide +kernel
theorem q_mo_X8_judge : q_mcheck 8072 = true := by decide +kernel
theorem q_mo_X8_film : q_mcheck 8073 = true := by decide +kernel
theorem q_mo_X8_which : q_mcheck 8074 = true := by decide +kernel
theorem q_mo_X8_readOf : q_mcheck 8075 = true := by decide +kernel
theorem q_mo_X8_read : q_mcheck 8076 = true := by decide +kernel
theorem q_mo_X8_apart : q_mcheck 8077 = true := by decide +kernel
theorem q_mo_X8_isSpot : q_mcheck 8078 = true := by decide +kernel
theorem q_mo_X8_person : q_mcheck 8079 = true := by decide +kernel
theorem q_mo_X8_walks : q_mcheck 8080 = true := by decide +kernel
theorem q_mo_X8_hitNow : q_mcheck 8081 = true := by decide +kernel
theorem q_mo_X8_hit : q_mcheck 8082 = true := by decide +kernel
theorem q_mo_X8_hitOdds : q_mcheck 8083 = true := by decide +kernel
theorem q_mo_X8_near : q_mcheck 8084 = true := by decide +kernel
theorem q_mo_X8_mirror : q_mcheck 8085 = true := by decide +kernel
theorem q_mo_X8_drawn : q_mcheck 8086 = true := by decide +kernel
theorem q_mo_X8_want : q_mcheck 8087 = true := by decide +kernel
theorem q_mo_X8_image : q_mcheck 8088 = true := by decide +kernel
theorem q_mo_X8_back : q_mcheck 8089 = true := by decide +kernel
theorem q_mo_X8_sheet : q_mcheck 8090 = true := by decide +kernel
theorem q_mo_X8_cell : q_mcheck 8091 = true := by decide +kernel
theorem q_mo_X8_copy : q_mcheck 8092 = true := by decide +kernel
theorem q_mo_X8_peopleBy : q_mcheck 8093 = true := by decide +kernel
theorem q_mo_X8_isUnder : q_mcheck 8094 = true := by decide +kernel
theorem q_mo_X8_taken : q_mcheck 8095 = true := by decide +kernel
theorem q_mo_J6_bitCount_0f7a4 : q_mcheck 9000 = true := by decide +kernel
theorem q_mo_J9_floorMod_7cf53 : q_mcheck 10000 = true := by decide +kernel
theorem q_mo_J9_abs_0f7a4 : q_mcheck 10001 = true := by decide +kernel
theorem q_mo_J9_max_7cf53 : q_mcheck 10002 = true := by decide +kernel
theorem q_mo_J9_min_7cf53 : q_mcheck 10003 = true := by decide +kernel
theorem q_mo_J0_length_8abf5 : q_mcheck 11000 = true := by decide +kernel
theorem q_mo_J0_charAt_5068e : q_mcheck 11001 = true := by decide +kernel
theorem q_mo_J0_coder_7d493 : q_mcheck 11002 = true := by decide +kernel
theorem q_mo_J0_isLatin1_aae02 : q_mcheck 11003 = true := by decide +kernel
theorem q_mo_J0_checkIndex_df160 : q_mcheck 11004 = true := by decide +kernel
theorem q_mo_J1_charAt_3b067 : q_mcheck 12000 = true := by decide +kernel
theorem q_mo_J2_getChar_3b067 : q_mcheck 13000 = true := by decide +kernel
theorem q_mo_J2_length_9d52b : q_mcheck 13001 = true := by decide +kernel
theorem q_mo_J2_charAt_3b067 : q_mcheck 13002 = true := by decide +kernel
theorem q_mo_J2_checkIndex_2214a : q_mcheck 13003 = true := by decide +kernel
theorem q_mo_J3_checkIndex_8e157 : q_mcheck 14000 = true := by decide +kernel
def q_Ms_0 : List Nat := [0, 1, 2, 3, 4, 5, 6, 7, 8, 9, 10, 11, 12, 13, 14, 15, 16, 17, 18, 19, 20, 21, 22, 1000, 1001, 1002, 1003, 1004, 2000, 2001, 2002, 2003, 2004, 2005, 3000, 3001, 3002, 3003, 3004, 3005]
theorem q_Mso_0 : ∀ M ∈ q_Ms_0, q_mcheck M = true := List.forall_mem_cons.mpr ⟨q_mo_X0_init, List.forall_mem_cons.mpr ⟨q_mo_X0_aim, List.forall_mem_cons.mpr ⟨q_mo_X0_go, List.forall_mem_cons.mpr ⟨q_mo_X0_begin, List.forall_mem_cons.mpr ⟨q_mo_X0_goesOn, List.forall_mem_cons.mpr ⟨q_mo_X0_step, List.forall_mem_cons.mpr ⟨q_mo_X0_windAt, List.forall_mem_cons.mpr ⟨q_mo_X0_look, List.forall_mem_cons.mpr ⟨q_mo_X0_said, List.forall_mem_cons.mpr ⟨q_mo_X0_isDown, List.forall_mem_cons.mpr ⟨q_mo_X0_farOff, List.forall_mem_cons.mpr ⟨q_mo_X0_returns, List.forall_mem_cons.mpr ⟨q_mo_X0_farthestOff, List.forall_mem_cons.mpr ⟨q_mo_X0_greatest, List.forall_mem_cons.mpr ⟨q_mo_X0_smallest, List.forall_mem_cons.mpr ⟨q_mo_X0_firstWith, List.forall_mem_cons.mpr ⟨q_mo_X0_levelTicks, List.forall_mem_cons.mpr ⟨q_mo_X0_turnedInAll, List.forall_mem_cons.mpr ⟨q_mo_X0_lastClimb, List.forall_mem_cons.mpr ⟨q_mo_X0_deepestDrop, List.forall_mem_cons.mpr ⟨q_mo_X0_firstBeyond, List.forall_mem_cons.mpr ⟨q_mo_X0_apartAt, List.forall_mem_cons.mpr ⟨q_mo_X0_unlikeAt, List.forall_mem_cons.mpr ⟨q_mo_X1_init, List.forall_mem_cons.mpr ⟨q_mo_X1_isName, List.forall_mem_cons.mpr ⟨q_mo_X1_say, List.forall_mem_cons.mpr ⟨q_mo_X1_altered, List.forall_mem_cons.mpr ⟨q_mo_X1_joined, List.forall_mem_cons.mpr ⟨q_mo_X2_init, List.forall_mem_cons.mpr ⟨q_mo_X2_isPlace, List.forall_mem_cons.mpr ⟨q_mo_X2_add, List.forall_mem_cons.mpr ⟨q_mo_X2_firstHit, List.forall_mem_cons.mpr ⟨q_mo_X2_keep, List.forall_mem_cons.mpr ⟨q_mo_X2_restore, List.forall_mem_cons.mpr ⟨q_mo_X3_init, List.forall_mem_cons.mpr ⟨q_mo_X3_put, List.forall_mem_cons.mpr ⟨q_mo_X3_toLaw, List.forall_mem_cons.mpr ⟨q_mo_X3_expression, List.forall_mem_cons.mpr ⟨q_mo_X3_joins, List.forall_mem_cons.mpr ⟨q_mo_X3_negation, fun _ h => absurd h List.not_mem_nil⟩⟩⟩⟩⟩⟩⟩⟩⟩⟩⟩⟩⟩⟩⟩⟩⟩⟩⟩⟩⟩⟩⟩⟩⟩⟩⟩⟩⟩⟩⟩⟩⟩⟩⟩⟩⟩⟩⟩⟩
def q_Ms_1 : List Nat := [3006, 3007, 3008, 3009, 3010, 3011, 3012, 3013, 3014, 3015, 4000, 4001, 4002, 4003, 5000, 5001, 5002, 5003, 5004, 5005, 5006, 6000, 6001, 6002, 6003, 6004, 6005, 6006, 6007, 6008, 6009, 7000, 7001, 7002, 7003, 7004, 7005, 7006, 7007, 7008]
theorem q_Mso_1 : ∀ M ∈ q_Ms_1, q_mcheck M = true := List.forall_mem_cons.mpr ⟨q_mo_X3_single, List.forall_mem_cons.mpr ⟨q_mo_X3_demand, List.forall_mem_cons.mpr ⟨q_mo_X3_fail, List.forall_mem_cons.mpr ⟨q_mo_X3_emit, List.forall_mem_cons.mpr ⟨q_mo_X3_advance, List.forall_mem_cons.mpr ⟨q_mo_X3_isLetter, List.forall_mem_cons.mpr ⟨q_mo_X3_isDigit, List.forall_mem_cons.mpr ⟨q_mo_X3_signToken, List.forall_mem_cons.mpr ⟨q_mo_X3_wordToken, List.forall_mem_cons.mpr ⟨q_mo_X3_spells, List.forall_mem_cons.mpr ⟨q_mo_X4_init, List.forall_mem_cons.mpr ⟨q_mo_X4_become, List.forall_mem_cons.mpr ⟨q_mo_X4_narrowed, List.forall_mem_cons.mpr ⟨q_mo_X4_holds, List.forall_mem_cons.mpr ⟨q_mo_X5_init, List.forall_mem_cons.mpr ⟨q_mo_X5_has, List.forall_mem_cons.mpr ⟨q_mo_X5_sum, List.forall_mem_cons.mpr ⟨q_mo_X5_armsInUse, List.forall_mem_cons.mpr ⟨q_mo_X5_become, List.forall_mem_cons.mpr ⟨q_mo_X5_keep, List.forall_mem_cons.mpr ⟨q_mo_X5_restore, List.forall_mem_cons.mpr ⟨q_mo_X6_init, List.forall_mem_cons.mpr ⟨q_mo_X6_isA, List.forall_mem_cons.mpr ⟨q_mo_X6_isKind, List.forall_mem_cons.mpr ⟨q_mo_X6_startHeight, List.forall_mem_cons.mpr ⟨q_mo_X6_up, List.forall_mem_cons.mpr ⟨q_mo_X6_turn, List.forall_mem_cons.mpr ⟨q_mo_X6_less, List.forall_mem_cons.mpr ⟨q_mo_X6_wayOff, List.forall_mem_cons.mpr ⟨q_mo_X6_paceOff, List.forall_mem_cons.mpr ⟨q_mo_X6_bound, List.forall_mem_cons.mpr ⟨q_mo_X7_init, List.forall_mem_cons.mpr ⟨q_mo_X7_stick, List.forall_mem_cons.mpr ⟨q_mo_X7_piece, List.forall_mem_cons.mpr ⟨q_mo_X7_file, List.forall_mem_cons.mpr ⟨q_mo_X7_pieceTold, List.forall_mem_cons.mpr ⟨q_mo_X7_stickTold, List.forall_mem_cons.mpr ⟨q_mo_X7_wind, List.forall_mem_cons.mpr ⟨q_mo_X7_toss, List.forall_mem_cons.mpr ⟨q_mo_X7_tossTold, fun _ h => absurd h List.not_mem_nil⟩⟩⟩⟩⟩⟩⟩⟩⟩⟩⟩⟩⟩⟩⟩⟩⟩⟩⟩⟩⟩⟩⟩⟩⟩⟩⟩⟩⟩⟩⟩⟩⟩⟩⟩⟩⟩⟩⟩⟩
def q_Ms_2 : List Nat := [7009, 7010, 7011, 7012, 7013, 7014, 7015, 7016, 7017, 7018, 7019, 7020, 7021, 7022, 7023, 7024, 7025, 7026, 7027, 7028, 7029, 7030, 7031, 7032, 7033, 7034, 7035, 7036, 7037, 7038, 7039, 7040, 7041, 7042, 7043, 7044, 7045, 7046, 7047, 7048]
theorem q_Mso_2 : ∀ M ∈ q_Ms_2, q_mcheck M = true := List.forall_mem_cons.mpr ⟨q_mo_X7_count, List.forall_mem_cons.mpr ⟨q_mo_X7_feed, List.forall_mem_cons.mpr ⟨q_mo_X7_text, List.forall_mem_cons.mpr ⟨q_mo_X7_force, List.forall_mem_cons.mpr ⟨q_mo_X7_tick, List.forall_mem_cons.mpr ⟨q_mo_X7_fly, List.forall_mem_cons.mpr ⟨q_mo_X7_comes, List.forall_mem_cons.mpr ⟨q_mo_X7_lies, List.forall_mem_cons.mpr ⟨q_mo_X7_hovers, List.forall_mem_cons.mpr ⟨q_mo_X7_circle, List.forall_mem_cons.mpr ⟨q_mo_X7_down, List.forall_mem_cons.mpr ⟨q_mo_X7_why, List.forall_mem_cons.mpr ⟨q_mo_X7_room, List.forall_mem_cons.mpr ⟨q_mo_X7_winds, List.forall_mem_cons.mpr ⟨q_mo_X7_paces, List.forall_mem_cons.mpr ⟨q_mo_X7_odds, List.forall_mem_cons.mpr ⟨q_mo_X7_mean, List.forall_mem_cons.mpr ⟨q_mo_X7_best, List.forall_mem_cons.mpr ⟨q_mo_X7_least, List.forall_mem_cons.mpr ⟨q_mo_X7_mend, List.forall_mem_cons.mpr ⟨q_mo_X7_exchange, List.forall_mem_cons.mpr ⟨q_mo_X7_form, List.forall_mem_cons.mpr ⟨q_mo_X7_lead, List.forall_mem_cons.mpr ⟨q_mo_X7_judge, List.forall_mem_cons.mpr ⟨q_mo_X7_film, List.forall_mem_cons.mpr ⟨q_mo_X7_which, List.forall_mem_cons.mpr ⟨q_mo_X7_read, List.forall_mem_cons.mpr ⟨q_mo_X7_apart, List.forall_mem_cons.mpr ⟨q_mo_X7_person, List.forall_mem_cons.mpr ⟨q_mo_X7_walks, List.forall_mem_cons.mpr ⟨q_mo_X7_hit, List.forall_mem_cons.mpr ⟨q_mo_X7_hitOdds, List.forall_mem_cons.mpr ⟨q_mo_X7_near, List.forall_mem_cons.mpr ⟨q_mo_X7_mirror, List.forall_mem_cons.mpr ⟨q_mo_X7_drawn, List.forall_mem_cons.mpr ⟨q_mo_X7_want, List.forall_mem_cons.mpr ⟨q_mo_X7_image, List.forall_mem_cons.mpr ⟨q_mo_X7_back, List.forall_mem_cons.mpr ⟨q_mo_X7_sheet, List.forall_mem_cons.mpr ⟨q_mo_X7_cell, fun _ h => absurd h List.not_mem_nil⟩⟩⟩⟩⟩⟩⟩⟩⟩⟩⟩⟩⟩⟩⟩⟩⟩⟩⟩⟩⟩⟩⟩⟩⟩⟩⟩⟩⟩⟩⟩⟩⟩⟩⟩⟩⟩⟩⟩⟩
def q_Ms_3 : List Nat := [7049, 7050, 7051, 7052, 7053, 7054, 7055, 7056, 7057, 7058, 7059, 7060, 7061, 7062, 7063, 7064, 7065, 7066, 7067, 7068, 7069, 8000, 8001, 8002, 8003, 8004, 8005, 8006, 8007, 8008, 8009, 8010, 8011, 8012, 8013, 8014, 8015, 8016, 8017, 8018]
theorem q_Mso_3 : ∀ M ∈ q_Ms_3, q_mcheck M = true := List.forall_mem_cons.mpr ⟨q_mo_X7_copy, List.forall_mem_cons.mpr ⟨q_mo_X7_peopleBy, List.forall_mem_cons.mpr ⟨q_mo_X7_taken, List.forall_mem_cons.mpr ⟨q_mo_X7_within, List.forall_mem_cons.mpr ⟨q_mo_X7_filedWell, List.forall_mem_cons.mpr ⟨q_mo_X7_stickAt, List.forall_mem_cons.mpr ⟨q_mo_X7_tossAt, List.forall_mem_cons.mpr ⟨q_mo_X7_aim, List.forall_mem_cons.mpr ⟨q_mo_X7_aimTrial, List.forall_mem_cons.mpr ⟨q_mo_X7_flown, List.forall_mem_cons.mpr ⟨q_mo_X7_returnsAsAimed, List.forall_mem_cons.mpr ⟨q_mo_X7_endAsAimed, List.forall_mem_cons.mpr ⟨q_mo_X7_isHand, List.forall_mem_cons.mpr ⟨q_mo_X7_handSize, List.forall_mem_cons.mpr ⟨q_mo_X7_wander, List.forall_mem_cons.mpr ⟨q_mo_X7_lowestTerm, List.forall_mem_cons.mpr ⟨q_mo_X7_leastFiling, List.forall_mem_cons.mpr ⟨q_mo_X7_filmRefused, List.forall_mem_cons.mpr ⟨q_mo_X7_tossesThatFit, List.forall_mem_cons.mpr ⟨q_mo_X7_lawsThatFit, List.forall_mem_cons.mpr ⟨q_mo_X7_liftsThatFit, List.forall_mem_cons.mpr ⟨q_mo_X8_init, List.forall_mem_cons.mpr ⟨q_mo_X8_first, List.forall_mem_cons.mpr ⟨q_mo_X8_in, List.forall_mem_cons.mpr ⟨q_mo_X8_isStick, List.forall_mem_cons.mpr ⟨q_mo_X8_isPiece, List.forall_mem_cons.mpr ⟨q_mo_X8_isThrow, List.forall_mem_cons.mpr ⟨q_mo_X8_stick, List.forall_mem_cons.mpr ⟨q_mo_X8_piece, List.forall_mem_cons.mpr ⟨q_mo_X8_file, List.forall_mem_cons.mpr ⟨q_mo_X8_pieceTold, List.forall_mem_cons.mpr ⟨q_mo_X8_sumOf, List.forall_mem_cons.mpr ⟨q_mo_X8_stickTold, List.forall_mem_cons.mpr ⟨q_mo_X8_wind, List.forall_mem_cons.mpr ⟨q_mo_X8_toss, List.forall_mem_cons.mpr ⟨q_mo_X8_highOf, List.forall_mem_cons.mpr ⟨q_mo_X8_tossTold, List.forall_mem_cons.mpr ⟨q_mo_X8_count, List.forall_mem_cons.mpr ⟨q_mo_X8_feed, List.forall_mem_cons.mpr ⟨q_mo_X8_letters, fun _ h => absurd h List.not_mem_nil⟩⟩⟩⟩⟩⟩⟩⟩⟩⟩⟩⟩⟩⟩⟩⟩⟩⟩⟩⟩⟩⟩⟩⟩⟩⟩⟩⟩⟩⟩⟩⟩⟩⟩⟩⟩⟩⟩⟩⟩
def q_Ms_4 : List Nat := [8019, 8020, 8021, 8022, 8023, 8024, 8025, 8026, 8027, 8028, 8029, 8030, 8031, 8032, 8033, 8034, 8035, 8036, 8037, 8038, 8039, 8040, 8041, 8042, 8043, 8044, 8045, 8046, 8047, 8048, 8049, 8050, 8051, 8052, 8053, 8054, 8055, 8056, 8057, 8058]
theorem q_Mso_4 : ∀ M ∈ q_Ms_4, q_mcheck M = true := List.forall_mem_cons.mpr ⟨q_mo_X8_next, List.forall_mem_cons.mpr ⟨q_mo_X8_rank, List.forall_mem_cons.mpr ⟨q_mo_X8_puts, List.forall_mem_cons.mpr ⟨q_mo_X8_unwinds, List.forall_mem_cons.mpr ⟨q_mo_X8_holds, List.forall_mem_cons.mpr ⟨q_mo_X8_opensOne, List.forall_mem_cons.mpr ⟨q_mo_X8_between, List.forall_mem_cons.mpr ⟨q_mo_X8_signOf, List.forall_mem_cons.mpr ⟨q_mo_X8_eRead, List.forall_mem_cons.mpr ⟨q_mo_X8_text, List.forall_mem_cons.mpr ⟨q_mo_X8_two, List.forall_mem_cons.mpr ⟨q_mo_X8_worth, List.forall_mem_cons.mpr ⟨q_mo_X8_force, List.forall_mem_cons.mpr ⟨q_mo_X8_windAt, List.forall_mem_cons.mpr ⟨q_mo_X8_says, List.forall_mem_cons.mpr ⟨q_mo_X8_within, List.forall_mem_cons.mpr ⟨q_mo_X8_upAt, List.forall_mem_cons.mpr ⟨q_mo_X8_turnAt, List.forall_mem_cons.mpr ⟨q_mo_X8_lessAt, List.forall_mem_cons.mpr ⟨q_mo_X8_goes, List.forall_mem_cons.mpr ⟨q_mo_X8_fliesAs, List.forall_mem_cons.mpr ⟨q_mo_X8_offAt, List.forall_mem_cons.mpr ⟨q_mo_X8_isBack, List.forall_mem_cons.mpr ⟨q_mo_X8_tick, List.forall_mem_cons.mpr ⟨q_mo_X8_highest, List.forall_mem_cons.mpr ⟨q_mo_X8_fly, List.forall_mem_cons.mpr ⟨q_mo_X8_isNear, List.forall_mem_cons.mpr ⟨q_mo_X8_comes, List.forall_mem_cons.mpr ⟨q_mo_X8_lies, List.forall_mem_cons.mpr ⟨q_mo_X8_hovers, List.forall_mem_cons.mpr ⟨q_mo_X8_circle, List.forall_mem_cons.mpr ⟨q_mo_X8_down, List.forall_mem_cons.mpr ⟨q_mo_X8_why, List.forall_mem_cons.mpr ⟨q_mo_X8_size, List.forall_mem_cons.mpr ⟨q_mo_X8_room, List.forall_mem_cons.mpr ⟨q_mo_X8_winds, List.forall_mem_cons.mpr ⟨q_mo_X8_paces, List.forall_mem_cons.mpr ⟨q_mo_X8_lowest, List.forall_mem_cons.mpr ⟨q_mo_X8_byHand, List.forall_mem_cons.mpr ⟨q_mo_X8_isHand, fun _ h => absurd h List.not_mem_nil⟩⟩⟩⟩⟩⟩⟩⟩⟩⟩⟩⟩⟩⟩⟩⟩⟩⟩⟩⟩⟩⟩⟩⟩⟩⟩⟩⟩⟩⟩⟩⟩⟩⟩⟩⟩⟩⟩⟩⟩
def q_Ms_5 : List Nat := [8059, 8060, 8061, 8062, 8063, 8064, 8065, 8066, 8067, 8068, 8069, 8070, 8071, 8072, 8073, 8074, 8075, 8076, 8077, 8078, 8079, 8080, 8081, 8082, 8083, 8084, 8085, 8086, 8087, 8088, 8089, 8090, 8091, 8092, 8093, 8094, 8095, 9000, 10000, 10001]
theorem q_Mso_5 : ∀ M ∈ q_Ms_5, q_mcheck M = true := List.forall_mem_cons.mpr ⟨q_mo_X8_odds, List.forall_mem_cons.mpr ⟨q_mo_X8_mean, List.forall_mem_cons.mpr ⟨q_mo_X8_best, List.forall_mem_cons.mpr ⟨q_mo_X8_wouldBe, List.forall_mem_cons.mpr ⟨q_mo_X8_sets, List.forall_mem_cons.mpr ⟨q_mo_X8_leastOf, List.forall_mem_cons.mpr ⟨q_mo_X8_least, List.forall_mem_cons.mpr ⟨q_mo_X8_mend, List.forall_mem_cons.mpr ⟨q_mo_X8_exchange, List.forall_mem_cons.mpr ⟨q_mo_X8_form, List.forall_mem_cons.mpr ⟨q_mo_X8_lead, List.forall_mem_cons.mpr ⟨q_mo_X8_filmWrong, List.forall_mem_cons.mpr ⟨q_mo_X8_unlike, List.forall_mem_cons.mpr ⟨q_mo_X8_judge, List.forall_mem_cons.mpr ⟨q_mo_X8_film, List.forall_mem_cons.mpr ⟨q_mo_X8_which, List.forall_mem_cons.mpr ⟨q_mo_X8_readOf, List.forall_mem_cons.mpr ⟨q_mo_X8_read, List.forall_mem_cons.mpr ⟨q_mo_X8_apart, List.forall_mem_cons.mpr ⟨q_mo_X8_isSpot, List.forall_mem_cons.mpr ⟨q_mo_X8_person, List.forall_mem_cons.mpr ⟨q_mo_X8_walks, List.forall_mem_cons.mpr ⟨q_mo_X8_hitNow, List.forall_mem_cons.mpr ⟨q_mo_X8_hit, List.forall_mem_cons.mpr ⟨q_mo_X8_hitOdds, List.forall_mem_cons.mpr ⟨q_mo_X8_near, List.forall_mem_cons.mpr ⟨q_mo_X8_mirror, List.forall_mem_cons.mpr ⟨q_mo_X8_drawn, List.forall_mem_cons.mpr ⟨q_mo_X8_want, List.forall_mem_cons.mpr ⟨q_mo_X8_image, List.forall_mem_cons.mpr ⟨q_mo_X8_back, List.forall_mem_cons.mpr ⟨q_mo_X8_sheet, List.forall_mem_cons.mpr ⟨q_mo_X8_cell, List.forall_mem_cons.mpr ⟨q_mo_X8_copy, List.forall_mem_cons.mpr ⟨q_mo_X8_peopleBy, List.forall_mem_cons.mpr ⟨q_mo_X8_isUnder, List.forall_mem_cons.mpr ⟨q_mo_X8_taken, List.forall_mem_cons.mpr ⟨q_mo_J6_bitCount_0f7a4, List.forall_mem_cons.mpr ⟨q_mo_J9_floorMod_7cf53, List.forall_mem_cons.mpr ⟨q_mo_J9_abs_0f7a4, fun _ h => absurd h List.not_mem_nil⟩⟩⟩⟩⟩⟩⟩⟩⟩⟩⟩⟩⟩⟩⟩⟩⟩⟩⟩⟩⟩⟩⟩⟩⟩⟩⟩⟩⟩⟩⟩⟩⟩⟩⟩⟩⟩⟩⟩⟩
def q_Ms_6 : List Nat := [10002, 10003, 11000, 11001, 11002, 11003, 11004, 12000, 13000, 13001, 13002, 13003, 14000]
theorem q_Mso_6 : ∀ M ∈ q_Ms_6, q_mcheck M = true := List.forall_mem_cons.mpr ⟨q_mo_J9_max_7cf53, List.forall_mem_cons.mpr ⟨q_mo_J9_min_7cf53, List.forall_mem_cons.mpr ⟨q_mo_J0_length_8abf5, List.forall_mem_cons.mpr ⟨q_mo_J0_charAt_5068e, List.forall_mem_cons.mpr ⟨q_mo_J0_coder_7d493, List.forall_mem_cons.mpr ⟨q_mo_J0_isLatin1_aae02, List.forall_mem_cons.mpr ⟨q_mo_J0_checkIndex_df160, List.forall_mem_cons.mpr ⟨q_mo_J1_charAt_3b067, List.forall_mem_cons.mpr ⟨q_mo_J2_getChar_3b067, List.forall_mem_cons.mpr ⟨q_mo_J2_length_9d52b, List.forall_mem_cons.mpr ⟨q_mo_J2_charAt_3b067, List.forall_mem_cons.mpr ⟨q_mo_J2_checkIndex_2214a, List.forall_mem_cons.mpr ⟨q_mo_J3_checkIndex_8e157, fun _ h => absurd h List.not_mem_nil⟩⟩⟩⟩⟩⟩⟩⟩⟩⟩⟩⟩⟩
def q_Ms : List Nat := q_Ms_0 ++ (q_Ms_1 ++ (q_Ms_2 ++ (q_Ms_3 ++ (q_Ms_4 ++ (q_Ms_5 ++ (q_Ms_6))))))
theorem q_Ms_ok : ∀ M ∈ q_Ms, q_mcheck M = true := List.forall_mem_append.mpr ⟨q_Mso_0, List.forall_mem_append.mpr ⟨q_Mso_1, List.forall_mem_append.mpr ⟨q_Mso_2, List.forall_mem_append.mpr ⟨q_Mso_3, List.forall_mem_append.mpr ⟨q_Mso_4, List.forall_mem_append.mpr ⟨q_Mso_5, q_Mso_6⟩⟩⟩⟩⟩⟩
set_option maxRecDepth 100000 in
theorem q_cT_ms : ∀ e ∈ q_cT, e.2.2.1 < 4 → e.2.2.2.1 ∈ q_Ms := by decide +kernel
def q_cT_0 : List (Nat × Nat × Nat × Nat × Nat × Nat × Nat × Nat × Nat) := [(16, 9, 2, 7000, 0, 80, 81, 62, 0), (7, 1, 4, 0, 0, 83, 0, 0, 0), (7, 35, 3, 2000, 0, 96, 97, 63, 0), (2, 3, 4, 0, 0, 99, 0, 0, 0), (7, 42, 3, 3000, 0, 125, 126, 64, 0), (3, 1, 4, 0, 0, 128, 0, 0, 0), (7, 49, 3, 0, 0, 162, 163, 65, 0), (0, 3, 4, 0, 0, 165, 0, 0, 0), (7, 57, 2, 5000, 1, 219, 220, 66, 0), (5, 1, 4, 0, 0, 222, 0, 0, 0), (7, 64, 3, 4000, 0, 244, 245, 67, 0), (4, 1, 4, 0, 0, 247, 0, 0, 0), (7, 67, 1, 11000, 0, 264, 265, 68, 266), (11, 335, 1, 11002, 0, 268, 269, 68, 270), (7, 73, 1, 11001, 1, 274, 275, 68, 276), (11, 492, 1, 11003, 0, 278, 279, 68, 280), (11, 495, 0, 12000, 2, 282, 283, 69, 0), (12, 9, 0, 11004, 2, 285, 286, 68, 0), (11, 1059, 0, 14000, 3, 290, 291, 70, 0), (11, 498, 0, 13002, 2, 293, 294, 71, 0), (13, 67, 0, 13003, 2, 296, 297, 71, 0), (13, 48, 0, 13001, 1, 299, 300, 71, 0), (13, 414, 0, 11004, 2, 302, 286, 68, 0), (13, 71, 0, 13000, 2, 303, 304, 71, 0), (7, 77, 1, 3001, 1, 312, 313, 64, 314), (7, 81, 1, 3002, 0, 316, 317, 64, 318), (3, 32, 1, 3010, 0, 320, 322, 64, 0), (3, 80, 0, 3011, 1, 324, 325, 64, 0), (3, 84, 1, 3014, 0, 327, 329, 64, 1), (3, 97, 1, 3015, 1, 332, 334, 64, 2), (3, 123, 1, 11000, 0, 336, 265, 68, 266), (3, 128, 1, 11001, 1, 337, 275, 68, 276), (3, 88, 0, 3012, 1, 349, 350, 64, 0), (3, 91, 0, 3013, 1, 352, 353, 64, 0), (3, 35, 1, 3007, 1, 355, 357, 64, 3), (3, 68, 1, 3008, 0, 359, 361, 64, 4), (3, 39, 1, 3003, 2, 363, 365, 64, 5), (3, 52, 1, 3005, 1, 367, 369, 64, 6), (3, 65, 1, 3009, 1, 371, 373, 64, 7), (3, 55, 1, 3006, 1, 375, 377, 64, 8), (3, 71, 0, 1001, 1, 379, 380, 72, 0), (3, 58, 1, 3004, 1, 382, 384, 64, 9), (3, 43, 5, 0, 5, 386, 0, 0, 0), (3, 49, 2, 1000, 2, 391, 392, 72, 0), (1, 1, 4, 0, 0, 394, 0, 0, 0), (16, 13, 1, 7001, 0, 460, 461, 62, 462), (16, 18, 1, 7002, 5, 464, 465, 62, 466), (7, 95, 1, 7054, 1, 468, 470, 62, 10), (7, 99, 0, 7052, 3, 472, 473, 62, 0), (7, 103, 0, 7053, 2, 475, 476, 62, 0)]
set_option maxRecDepth 100000 in
theorem q_cTo_0 : ∀ e ∈ q_cT_0, q_ccheck e = true := by decide +kernel
def q_cT_1 : List (Nat × Nat × Nat × Nat × Nat × Nat × Nat × Nat × Nat) := [(16, 23, 1, 7003, 4, 478, 479, 62, 480), (7, 112, 1, 5001, 1, 482, 483, 66, 484), (16, 28, 1, 7004, 3, 486, 487, 62, 488), (16, 33, 1, 7005, 2, 490, 491, 62, 492), (7, 116, 1, 5002, 2, 494, 495, 66, 496), (7, 120, 1, 5003, 0, 498, 499, 66, 500), (5, 24, 0, 9000, 1, 502, 503, 75, 0), (16, 38, 1, 7006, 2, 508, 509, 62, 510), (16, 42, 1, 7007, 5, 512, 513, 62, 514), (7, 132, 2, 6000, 7, 517, 518, 76, 0), (6, 1, 4, 0, 0, 520, 0, 0, 0), (6, 32, 0, 6002, 2, 521, 522, 76, 0), (16, 46, 1, 7008, 2, 563, 564, 62, 565), (7, 135, 1, 7055, 1, 567, 569, 62, 11), (7, 161, 1, 6003, 0, 571, 572, 76, 573), (6, 44, 1, 6001, 1, 575, 576, 76, 577), (16, 50, 1, 7009, 1, 579, 580, 62, 581), (16, 57, 1, 7010, 2, 583, 584, 62, 585), (16, 62, 1, 7011, 0, 587, 588, 62, 589), (16, 66, 1, 7012, 1, 591, 592, 62, 593), (16, 70, 1, 7013, 3, 595, 596, 62, 597), (7, 172, 1, 7058, 1, 600, 602, 62, 12), (7, 235, 1, 7056, 2, 604, 606, 62, 13), (7, 397, 1, 1, 4, 608, 609, 65, 610), (7, 332, 1, 2, 0, 612, 613, 65, 614), (0, 68, 1, 3, 0, 616, 618, 65, 14), (0, 81, 1, 6003, 0, 620, 572, 76, 573), (0, 93, 1, 5002, 2, 621, 495, 66, 496), (0, 97, 0, 10002, 2, 622, 623, 77, 0), (0, 102, 1, 5003, 0, 625, 499, 66, 500), (0, 71, 1, 4, 0, 626, 628, 65, 15), (0, 105, 1, 9, 0, 630, 631, 65, 632), (0, 75, 1, 5, 0, 634, 636, 65, 16), (0, 108, 1, 7, 1, 638, 639, 65, 640), (0, 128, 1, 6, 1, 642, 644, 65, 17), (0, 112, 1, 8, 1, 646, 647, 65, 648), (0, 134, 1, 1002, 3, 650, 651, 72, 652), (1, 16, 0, 1001, 1, 654, 380, 72, 0), (1, 20, 0, 1003, 2, 655, 656, 72, 0), (1, 24, 0, 1004, 3, 658, 659, 72, 0), (0, 116, 1, 6004, 2, 661, 662, 76, 663), (6, 48, 0, 6009, 3, 665, 666, 76, 0), (6, 61, 0, 10003, 2, 668, 669, 77, 0), (6, 52, 0, 10002, 2, 671, 623, 77, 0), (0, 119, 1, 6005, 1, 672, 673, 76, 674), (0, 122, 1, 6006, 2, 676, 677, 76, 678), (0, 131, 0, 10000, 2, 682, 683, 77, 0), (16, 74, 1, 7014, 2, 685, 686, 62, 687), (7, 182, 1, 13, 1, 689, 690, 65, 691), (7, 186, 1, 10, 1, 693, 694, 65, 695)]
set_option maxRecDepth 100000 in
theorem q_cTo_1 : ∀ e ∈ q_cT_1, q_ccheck e = true := by decide +kernel
def q_cT_2 : List (Nat × Nat × Nat × Nat × Nat × Nat × Nat × Nat × Nat) := [(7, 189, 1, 9, 0, 697, 631, 65, 632), (7, 193, 1, 12, 0, 698, 699, 65, 700), (0, 138, 1, 10, 1, 702, 694, 65, 695), (16, 78, 1, 7015, 2, 703, 704, 62, 705), (7, 196, 1, 11, 1, 707, 708, 65, 709), (16, 82, 1, 7016, 1, 711, 712, 62, 713), (7, 199, 1, 15, 2, 715, 716, 65, 717), (16, 86, 1, 7017, 1, 719, 720, 62, 721), (7, 202, 1, 16, 0, 723, 724, 65, 725), (16, 90, 1, 7018, 2, 727, 728, 62, 729), (7, 205, 1, 14, 1, 731, 732, 65, 733), (0, 141, 0, 10003, 2, 735, 669, 77, 0), (7, 208, 1, 17, 0, 736, 737, 65, 738), (16, 94, 1, 7019, 2, 740, 741, 62, 742), (7, 211, 1, 18, 0, 744, 745, 65, 746), (7, 214, 1, 19, 0, 748, 749, 65, 750), (16, 98, 1, 7020, 3, 752, 753, 62, 754), (7, 217, 1, 7, 1, 756, 639, 65, 640), (7, 220, 1, 8, 1, 757, 647, 65, 648), (7, 223, 1, 6004, 2, 758, 662, 76, 663), (7, 226, 1, 6005, 1, 759, 673, 76, 674), (7, 229, 1, 6006, 2, 760, 677, 76, 678), (16, 102, 1, 7021, 3, 761, 762, 62, 763), (7, 232, 1, 20, 2, 765, 766, 65, 767), (0, 144, 0, 10001, 1, 769, 770, 77, 0), (16, 106, 1, 7022, 2, 772, 773, 62, 774), (7, 240, 1, 7059, 1, 776, 778, 62, 18), (16, 110, 1, 7023, 2, 780, 781, 62, 782), (16, 115, 1, 7024, 5, 785, 786, 62, 787), (7, 248, 0, 7061, 2, 789, 790, 62, 0), (7, 251, 0, 7062, 2, 792, 793, 62, 0), (7, 254, 1, 7063, 4, 795, 797, 62, 19), (7, 353, 1, 6007, 1, 799, 800, 76, 801), (6, 58, 0, 10000, 2, 803, 683, 77, 0), (7, 271, 1, 6008, 1, 804, 805, 76, 806), (7, 258, 0, 7064, 3, 808, 809, 62, 0), (16, 120, 1, 7025, 4, 811, 812, 62, 813), (7, 262, 1, 7060, 0, 815, 817, 62, 20), (16, 125, 1, 7026, 2, 819, 820, 62, 821), (16, 129, 1, 7027, 2, 824, 825, 62, 826), (7, 274, 1, 7065, 2, 828, 830, 62, 21), (7, 278, 1, 7057, 1, 832, 834, 62, 22), (7, 400, 1, 5004, 1, 836, 837, 66, 838), (5, 30, 5, 0, 5, 840, 0, 0, 0), (16, 133, 1, 7028, 2, 841, 842, 62, 843), (16, 137, 1, 7029, 2, 845, 846, 62, 847), (16, 141, 1, 7030, 2, 849, 850, 62, 851), (16, 145, 1, 7031, 2, 853, 854, 62, 855), (16, 149, 1, 7032, 2, 857, 858, 62, 859), (7, 282, 1, 7066, 1, 861, 863, 62, 23)]
set_option maxRecDepth 100000 in
theorem q_cTo_2 : ∀ e ∈ q_cT_2, q_ccheck e = true := by decide +kernel
def q_cT_3 : List (Nat × Nat × Nat × Nat × Nat × Nat × Nat × Nat × Nat) := [(7, 285, 1, 22, 1, 865, 866, 65, 867), (16, 153, 1, 7033, 2, 869, 870, 62, 871), (7, 289, 0, 10003, 2, 873, 669, 77, 0), (7, 294, 1, 4001, 2, 874, 875, 67, 876), (16, 157, 1, 7034, 3, 878, 879, 62, 880), (7, 302, 1, 7068, 2, 882, 884, 62, 24), (7, 306, 1, 7067, 1, 886, 888, 62, 25), (16, 161, 1, 7035, 3, 890, 891, 62, 892), (7, 309, 1, 7069, 3, 894, 896, 62, 26), (16, 165, 1, 7036, 3, 898, 899, 62, 900), (7, 313, 0, 9000, 1, 902, 503, 75, 0), (16, 170, 1, 7037, 2, 903, 904, 62, 905), (7, 316, 1, 2001, 2, 907, 908, 63, 909), (7, 319, 1, 2002, 2, 911, 912, 63, 913), (16, 174, 1, 7038, 3, 915, 916, 62, 917), (16, 178, 1, 7039, 1, 919, 920, 62, 921), (7, 328, 1, 2003, 1, 923, 924, 63, 925), (2, 37, 0, 10001, 1, 927, 770, 77, 0), (16, 182, 1, 7040, 4, 928, 929, 62, 930), (16, 186, 1, 7041, 3, 932, 933, 62, 934), (7, 335, 1, 21, 2, 936, 937, 65, 938), (16, 190, 1, 7042, 2, 940, 941, 62, 942), (7, 339, 0, 10000, 2, 944, 683, 77, 0), (16, 194, 1, 7043, 4, 945, 946, 62, 947), (16, 198, 1, 7044, 2, 953, 954, 62, 955), (16, 202, 1, 7045, 0, 957, 958, 62, 959), (7, 356, 1, 5005, 0, 961, 962, 66, 963), (7, 359, 1, 2004, 0, 965, 966, 63, 967), (2, 46, 5, 0, 5, 969, 0, 0, 0), (16, 206, 1, 7046, 0, 970, 971, 62, 972), (7, 372, 1, 5006, 0, 974, 975, 66, 976), (7, 375, 1, 2005, 0, 978, 979, 63, 980), (16, 210, 1, 7047, 3, 982, 983, 62, 984), (16, 214, 1, 7048, 3, 986, 987, 62, 988), (7, 380, 1, 4002, 1, 990, 991, 67, 992), (16, 218, 1, 7049, 5, 994, 995, 62, 996), (7, 383, 1, 4003, 2, 998, 999, 67, 1000), (7, 386, 5, 0, 5, 1002, 0, 0, 0), (16, 222, 1, 7050, 4, 1003, 1004, 62, 1005), (16, 226, 1, 7051, 2, 1008, 1009, 62, 1010), (7, 394, 1, 6001, 1, 1012, 576, 76, 577), (16, 12, 2, 8000, 0, 1015, 1016, 74, 0), (8, 1, 4, 0, 0, 1018, 0, 0, 0), (8, 169, 1, 8001, 5, 1032, 1034, 74, 27), (16, 17, 1, 8006, 0, 1236, 1237, 74, 1238), (16, 22, 1, 8007, 5, 1240, 1241, 74, 1242), (8, 183, 1, 8003, 1, 1244, 1246, 74, 28), (8, 179, 0, 8002, 3, 1248, 1249, 74, 0), (16, 27, 1, 8008, 4, 1251, 1252, 74, 1253), (8, 190, 1, 8004, 2, 1255, 1257, 74, 29)]
set_option maxRecDepth 100000 in
theorem q_cTo_3 : ∀ e ∈ q_cT_3, q_ccheck e = true := by decide +kernel
def q_cT_4 : List (Nat × Nat × Nat × Nat × Nat × Nat × Nat × Nat × Nat) := [(16, 32, 1, 8009, 3, 1259, 1260, 74, 1261), (16, 37, 1, 8011, 2, 1263, 1264, 74, 1265), (8, 194, 1, 8010, 2, 1267, 1269, 74, 30), (16, 41, 1, 8012, 2, 1271, 1272, 74, 1273), (16, 45, 1, 8013, 5, 1275, 1276, 74, 1277), (16, 49, 1, 8015, 2, 1279, 1280, 74, 1281), (8, 204, 1, 8005, 1, 1283, 1285, 74, 31), (8, 207, 1, 8014, 1, 1287, 1289, 74, 32), (16, 54, 1, 8016, 1, 1291, 1292, 74, 1293), (16, 61, 1, 8017, 2, 1295, 1296, 74, 1297), (16, 65, 1, 8028, 0, 1300, 1301, 74, 1302), (8, 260, 1, 8019, 0, 1304, 1306, 74, 33), (8, 234, 1, 8018, 0, 1308, 1310, 74, 34), (8, 274, 1, 8027, 0, 1312, 1314, 74, 35), (8, 250, 1, 8021, 1, 1317, 1319, 74, 36), (8, 257, 1, 8022, 1, 1321, 1323, 74, 37), (8, 244, 0, 8020, 1, 1325, 1326, 74, 0), (8, 264, 1, 8024, 1, 1328, 1330, 74, 38), (8, 254, 1, 8023, 1, 1332, 1334, 74, 39), (8, 267, 1, 8026, 0, 1336, 1338, 74, 40), (8, 271, 1, 8025, 1, 1340, 1342, 74, 41), (16, 69, 1, 8031, 1, 1344, 1345, 74, 1346), (16, 73, 1, 8042, 3, 1348, 1349, 74, 1350), (8, 314, 1, 8039, 1, 1353, 1355, 74, 42), (8, 306, 1, 8038, 4, 1357, 1359, 74, 43), (8, 297, 1, 8036, 2, 1361, 1363, 74, 44), (8, 288, 1, 8033, 3, 1365, 1367, 74, 45), (8, 282, 1, 8032, 1, 1369, 1371, 74, 46), (8, 285, 1, 8030, 1, 1373, 1375, 74, 47), (8, 278, 0, 8029, 3, 1377, 1378, 74, 0), (8, 291, 0, 8034, 3, 1380, 1381, 74, 0), (8, 300, 1, 8035, 2, 1383, 1385, 74, 48), (8, 303, 1, 8037, 2, 1387, 1389, 74, 49), (16, 77, 1, 8044, 2, 1391, 1392, 74, 1393), (8, 310, 1, 8040, 1, 1395, 1397, 74, 50), (8, 317, 1, 8043, 0, 1399, 1401, 74, 51), (16, 81, 1, 8046, 2, 1403, 1404, 74, 1405), (8, 320, 0, 8045, 1, 1407, 1408, 74, 0), (8, 323, 1, 8041, 1, 1410, 1412, 74, 52), (16, 85, 1, 8047, 1, 1414, 1415, 74, 1416), (16, 89, 1, 8048, 1, 1418, 1419, 74, 1420), (16, 93, 1, 8049, 2, 1422, 1423, 74, 1424), (16, 97, 1, 8050, 2, 1426, 1427, 74, 1428), (16, 101, 1, 8051, 3, 1430, 1431, 74, 1432), (16, 105, 1, 8053, 3, 1434, 1435, 74, 1436), (8, 326, 0, 8052, 1, 1438, 1439, 74, 0), (16, 109, 1, 8054, 2, 1441, 1442, 74, 1443), (16, 114, 1, 8055, 2, 1445, 1446, 74, 1447), (16, 119, 1, 8059, 5, 1450, 1451, 74, 1452), (8, 331, 0, 8058, 2, 1454, 1455, 74, 0)]
set_option maxRecDepth 100000 in
theorem q_cTo_4 : ∀ e ∈ q_cT_4, q_ccheck e = true := by decide +kernel
def q_cT_5 : List (Nat × Nat × Nat × Nat × Nat × Nat × Nat × Nat × Nat) := [(8, 334, 1, 8057, 3, 1457, 1459, 74, 53), (8, 340, 0, 8056, 3, 1462, 1463, 74, 0), (16, 124, 1, 8060, 4, 1465, 1466, 74, 1467), (16, 128, 1, 8061, 2, 1469, 1470, 74, 1471), (16, 132, 1, 8065, 2, 1473, 1474, 74, 1475), (8, 351, 1, 8064, 2, 1477, 1479, 74, 54), (8, 347, 1, 8062, 5, 1481, 1483, 74, 55), (8, 344, 1, 8063, 3, 1485, 1487, 74, 56), (16, 136, 1, 8066, 2, 1489, 1490, 74, 1491), (16, 140, 1, 8067, 2, 1493, 1494, 74, 1495), (16, 144, 1, 8068, 2, 1497, 1498, 74, 1499), (16, 148, 1, 8069, 2, 1501, 1502, 74, 1503), (16, 152, 1, 8072, 2, 1505, 1506, 74, 1507), (8, 354, 1, 8070, 1, 1509, 1511, 74, 57), (8, 357, 1, 8071, 1, 1513, 1515, 74, 58), (16, 156, 1, 8073, 2, 1517, 1518, 74, 1519), (16, 160, 1, 8074, 3, 1521, 1522, 74, 1523), (16, 164, 1, 8076, 3, 1525, 1526, 74, 1527), (8, 360, 1, 8075, 3, 1529, 1531, 74, 59), (16, 169, 1, 8077, 3, 1533, 1534, 74, 1535), (16, 173, 1, 8079, 2, 1537, 1538, 74, 1539), (8, 363, 0, 8078, 2, 1541, 1542, 74, 0), (16, 177, 1, 8080, 3, 1544, 1545, 74, 1546), (16, 181, 1, 8082, 1, 1548, 1549, 74, 1550), (8, 366, 1, 8081, 0, 1552, 1554, 74, 60), (16, 185, 1, 8083, 4, 1556, 1557, 74, 1558), (16, 189, 1, 8084, 3, 1560, 1561, 74, 1562), (16, 193, 1, 8085, 2, 1564, 1565, 74, 1566), (16, 197, 1, 8086, 4, 1568, 1569, 74, 1570), (16, 201, 1, 8087, 2, 1576, 1577, 74, 1578), (16, 205, 1, 8088, 0, 1580, 1581, 74, 1582), (16, 209, 1, 8089, 0, 1584, 1585, 74, 1586), (16, 213, 1, 8090, 3, 1588, 1589, 74, 1590), (16, 217, 1, 8091, 3, 1592, 1593, 74, 1594), (16, 221, 1, 8092, 5, 1596, 1597, 74, 1598), (16, 225, 1, 8093, 4, 1600, 1601, 74, 1602), (8, 395, 1, 8079, 2, 1604, 1538, 74, 1539), (16, 229, 1, 8095, 2, 1605, 1606, 74, 1607), (8, 398, 0, 8094, 2, 1609, 1610, 74, 0)]
set_option maxRecDepth 100000 in
theorem q_cTo_5 : ∀ e ∈ q_cT_5, q_ccheck e = true := by decide +kernel
