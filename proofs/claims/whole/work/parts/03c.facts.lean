/-! What the tables say of each method, each link and each constant. Laid by wip/whole/mkfacts.py. -/
theorem mm_ins (ws : List Cond) (ps : List Nat) (hp : ws = ps.filterMap (fun i => lw_tbl[i]?)) (hg : ws.all goodWord = true) : ∀ w ∈ ws, w ∈ mm_T0 := by
  intro w hw
  have h1 := List.all_eq_true.mp hg w hw
  rw [hp] at hw
  obtain ⟨i, -, hi⟩ := List.mem_filterMap.mp hw
  exact mm_in i hi h1
theorem inT0 : ∀ w ∈ u_ws RX0 TX0 15, w ∈ mm_T0 := mm_ins _ [412, 414, 416, 418, 420, 422, 424, 426, 428, 430, 432, 434, 436, 438, 440] (by decide +kernel) (by decide +kernel)
theorem inT1 : ∀ w ∈ u_ws RX1 TX1 14, w ∈ mm_T0 := mm_ins _ [366, 368, 370, 372, 374, 376, 378, 380, 382, 384, 386, 388, 390, 392] (by decide +kernel) (by decide +kernel)
theorem inT2 : ∀ w ∈ u_ws RX2 TX2 7, w ∈ mm_T0 := mm_ins _ [487, 489, 491, 493, 495, 497, 499] (by decide +kernel) (by decide +kernel)
theorem inT3 : ∀ w ∈ u_ws RX3 TX3 7, w ∈ mm_T0 := mm_ins _ [258, 260, 262, 264, 266, 268, 270] (by decide +kernel) (by decide +kernel)
theorem inT4 : ∀ w ∈ u_ws RX4 TX4 3, w ∈ mm_T0 := mm_ins _ [276, 278, 280] (by decide +kernel) (by decide +kernel)
theorem inT5 : ∀ w ∈ u_ws RX5 TX5 12, w ∈ mm_T0 := mm_ins _ [199, 201, 203, 205, 207, 209, 211, 213, 215, 217, 219, 221] (by decide +kernel) (by decide +kernel)
theorem inT6 : ∀ w ∈ u_ws RX6 TX6 4, w ∈ mm_T0 := mm_ins _ [229, 231, 233, 235] (by decide +kernel) (by decide +kernel)
theorem inT7 : ∀ w ∈ u_ws RX7 TX7 8, w ∈ mm_T0 := mm_ins _ [313, 315, 317, 319, 321, 323, 325, 327] (by decide +kernel) (by decide +kernel)
theorem inT8 : ∀ w ∈ u_ws RX8 TX8 6, w ∈ mm_T0 := mm_ins _ [133, 135, 137, 139, 141, 143] (by decide +kernel) (by decide +kernel)
theorem inT9 : ∀ w ∈ u_ws RX9 TX9 7, w ∈ mm_T0 := mm_ins _ [458, 460, 462, 464, 466, 468, 470] (by decide +kernel) (by decide +kernel)
theorem inT10 : ∀ w ∈ u_ws RX10 TX10 13, w ∈ mm_T0 := mm_ins _ [515, 517, 519, 521, 523, 525, 527, 529, 531, 533, 535, 537, 539] (by decide +kernel) (by decide +kernel)
theorem inT11 : ∀ w ∈ u_ws RX11 TX11 68, w ∈ mm_T0 := mm_ins _ [1230, 1232, 1234, 1236, 1238, 1240, 1242, 1244, 1246, 1248, 1250, 1252, 1254, 1256, 1258, 1260, 1262, 1264, 1266, 1268, 1270, 1272, 1274, 1276, 1278, 1280, 1282, 1284, 1286, 1288, 1290, 1292, 1294, 1296, 1298, 1300, 1302, 1304, 1306, 1308, 1310, 1312, 1314, 1316, 1318, 1320, 1322, 1324, 1326, 1328, 1330, 1332, 1334, 1336, 1338, 1340, 1342, 1344, 1346, 1348, 1350, 1352, 1354, 1356, 1358, 1360, 1362, 1364] (by decide +kernel) (by decide +kernel)
theorem ini_L : Cond.initialized RL ∈ mm_T0 := mm_in 91 (by decide +kernel) rfl
theorem ini_X10 : Cond.initialized RX10 ∈ mm_T0 := mm_in 92 (by decide +kernel) rfl
theorem ini_X8 : Cond.initialized RX8 ∈ mm_T0 := mm_in 93 (by decide +kernel) rfl
theorem ini_X6 : Cond.initialized RX6 ∈ mm_T0 := mm_in 94 (by decide +kernel) rfl
theorem ini_X5 : Cond.initialized RX5 ∈ mm_T0 := mm_in 95 (by decide +kernel) rfl
theorem ini_X4 : Cond.initialized RX4 ∈ mm_T0 := mm_in 96 (by decide +kernel) rfl
theorem ini_X3 : Cond.initialized RX3 ∈ mm_T0 := mm_in 97 (by decide +kernel) rfl
theorem ini_X7 : Cond.initialized RX7 ∈ mm_T0 := mm_in 98 (by decide +kernel) rfl
theorem ini_X0 : Cond.initialized RX0 ∈ mm_T0 := mm_in 99 (by decide +kernel) rfl
theorem ini_X1 : Cond.initialized RX1 ∈ mm_T0 := mm_in 100 (by decide +kernel) rfl
theorem ini_X9 : Cond.initialized RX9 ∈ mm_T0 := mm_in 101 (by decide +kernel) rfl
theorem ini_X2 : Cond.initialized RX2 ∈ mm_T0 := mm_in 102 (by decide +kernel) rfl
theorem ini_X11 : Cond.initialized RX11 ∈ mm_T0 := mm_in 103 (by decide +kernel) rfl
theorem ini_J9 : Cond.initialized RJ9 ∈ mm_T0 := mm_in 104 (by decide +kernel) rfl
theorem ini_J0 : Cond.initialized RJ0 ∈ mm_T0 := mm_in 105 (by decide +kernel) rfl
theorem ini_J1 : Cond.initialized RJ1 ∈ mm_T0 := mm_in 106 (by decide +kernel) rfl
theorem ini_J3 : Cond.initialized RJ3 ∈ mm_T0 := mm_in 107 (by decide +kernel) rfl
theorem ini_J2 : Cond.initialized RJ2 ∈ mm_T0 := mm_in 108 (by decide +kernel) rfl
theorem ini_J10 : Cond.initialized RJ10 ∈ mm_T0 := mm_in 109 (by decide +kernel) rfl
theorem ini_J6 : Cond.initialized RJ6 ∈ mm_T0 := mm_in 110 (by decide +kernel) rfl
abbrev YX10_init : mm_Y := (yX10_init, cX10_init, 2, none)
abbrev YX8_init : mm_Y := (yX8_init, cX8_init, 1, none)
abbrev YX6_init : mm_Y := (yX6_init, cX6_init, 2, none)
abbrev YX5_init : mm_Y := (yX5_init, cX5_init, 1, none)
abbrev YX4_init : mm_Y := (yX4_init, cX4_init, 2, none)
abbrev YX3_init : mm_Y := (yX3_init, cX3_init, 1, none)
abbrev YX7_init : mm_Y := (yX7_init, cX7_init, 1, none)
abbrev YX0_init : mm_Y := (yX0_init, cX0_init, 3, none)
abbrev YX1_init : mm_Y := (yX1_init, cX1_init, 3, none)
abbrev YX9_init : mm_Y := (yX9_init, cX9_init, 3, none)
abbrev YX2_init : mm_Y := (yX2_init, cX2_init, 3, none)
abbrev YX10_feed : mm_Y := (yX10_feed, cX10_feed, 6, (some .int))
abbrev YX10_appendBytes : mm_Y := (yX10_appendBytes, cX10_appendBytes, 3, none)
abbrev YX10_end : mm_Y := (yX10_end, cX10_end, 2, (some .int))
abbrev YX10_mint : mm_Y := (yX10_mint, cX10_mint, 2, (some .int))
abbrev YX8_split : mm_Y := (yX8_split, cX8_split, 5, none)
abbrev YX8_pieceEnd : mm_Y := (yX8_pieceEnd, cX8_pieceEnd, 7, (some .int))
abbrev YX8_isLetter : mm_Y := (yX8_isLetter, cX8_isLetter, 1, (some .boolean))
abbrev YX8_isDigit : mm_Y := (yX8_isDigit, cX8_isDigit, 1, (some .boolean))
abbrev YJ9_max_7cf53 : mm_Y := (yJ9_max_7cf53, cJ9_max_7cf53, 2, (some .int))
abbrev YX8_addPiece : mm_Y := (yX8_addPiece, cX8_addPiece, 4, none)
abbrev YX8_numberAt : mm_Y := (yX8_numberAt, cX8_numberAt, 5, (some .int))
abbrev YX8_append : mm_Y := (yX8_append, cX8_append, 4, none)
abbrev YX8_wordAt : mm_Y := (yX8_wordAt, cX8_wordAt, 6, (some .int))
abbrev YJ0_length_8abf5 : mm_Y := (yJ0_length_8abf5, cJ0_length_8abf5, 1, (some .int))
abbrev YJ0_coder_7d493 : mm_Y := (yJ0_coder_7d493, cJ0_coder_7d493, 1, (some .byte))
abbrev YJ0_charAt_5068e : mm_Y := (yJ0_charAt_5068e, cJ0_charAt_5068e, 2, (some .char))
abbrev YJ0_isLatin1_aae02 : mm_Y := (yJ0_isLatin1_aae02, cJ0_isLatin1_aae02, 1, (some .boolean))
abbrev YJ1_charAt_3b067 : mm_Y := (yJ1_charAt_3b067, cJ1_charAt_3b067, 2, (some .char))
abbrev YJ0_checkIndex_df160 : mm_Y := (yJ0_checkIndex_df160, cJ0_checkIndex_df160, 2, none)
abbrev YJ3_checkIndex_8e157 : mm_Y := (yJ3_checkIndex_8e157, cJ3_checkIndex_8e157, 3, (some .int))
abbrev YJ2_charAt_3b067 : mm_Y := (yJ2_charAt_3b067, cJ2_charAt_3b067, 2, (some .char))
abbrev YJ2_checkIndex_2214a : mm_Y := (yJ2_checkIndex_2214a, cJ2_checkIndex_2214a, 2, none)
abbrev YJ2_length_9d52b : mm_Y := (yJ2_length_9d52b, cJ2_length_9d52b, 1, (some .int))
abbrev YJ2_getChar_3b067 : mm_Y := (yJ2_getChar_3b067, cJ2_getChar_3b067, 2, (some .char))
abbrev YX8_isWord : mm_Y := (yX8_isWord, cX8_isWord, 5, (some .boolean))
abbrev YX8_signOf : mm_Y := (yX8_signOf, cX8_signOf, 2, (some .int))
abbrev YX6_read : mm_Y := (yX6_read, cX6_read, 2, (some .int))
abbrev YX5_clear : mm_Y := (yX5_clear, cX5_clear, 1, none)
abbrev YX6_readClause : mm_Y := (yX6_readClause, cX6_readClause, 2, none)
abbrev YX8_kind : mm_Y := (yX8_kind, cX8_kind, 1, (some .int))
abbrev YX8_fail : mm_Y := (yX8_fail, cX8_fail, 2, none)
abbrev YX6_isTooMany : mm_Y := (yX6_isTooMany, cX6_isTooMany, 2, (some .boolean))
abbrev YX8_step : mm_Y := (yX8_step, cX8_step, 1, none)
abbrev YX6_readNumbers : mm_Y := (yX6_readNumbers, cX6_readNumbers, 5, none)
abbrev YX6_readNumber : mm_Y := (yX6_readNumber, cX6_readNumber, 4, (some .int))
abbrev YX8_number : mm_Y := (yX8_number, cX8_number, 1, (some .int))
abbrev YX5_addCoin : mm_Y := (yX5_addCoin, cX5_addCoin, 5, none)
abbrev YX5_addCounter : mm_Y := (yX5_addCounter, cX5_addCounter, 3, none)
abbrev YX7_takeMint : mm_Y := (yX7_takeMint, cX7_takeMint, 2, none)
abbrev YX5_copyFrom : mm_Y := (yX5_copyFrom, cX5_copyFrom, 2, none)
abbrev YX0_forget : mm_Y := (yX0_forget, cX0_forget, 1, none)
abbrev YX10_law : mm_Y := (yX10_law, cX10_law, 2, (some .int))
abbrev YX4_read : mm_Y := (yX4_read, cX4_read, 3, (some .int))
abbrev YX3_clear : mm_Y := (yX3_clear, cX3_clear, 1, none)
abbrev YX4_readClause : mm_Y := (yX4_readClause, cX4_readClause, 4, none)
abbrev YX3_isFull : mm_Y := (yX3_isFull, cX3_isFull, 1, (some .boolean))
abbrev YX4_readSum : mm_Y := (yX4_readSum, cX4_readSum, 4, none)
abbrev YX4_readValue : mm_Y := (yX4_readValue, cX4_readValue, 3, none)
abbrev YX3_addNumber : mm_Y := (yX3_addNumber, cX3_addNumber, 2, none)
abbrev YX3_addSign : mm_Y := (yX3_addSign, cX3_addSign, 2, none)
abbrev YX4_readTest : mm_Y := (yX4_readTest, cX4_readTest, 5, none)
abbrev YX4_readFact : mm_Y := (yX4_readFact, cX4_readFact, 4, none)
abbrev YX4_takeSign : mm_Y := (yX4_takeSign, cX4_takeSign, 2, (some .int))
abbrev YX3_addClause : mm_Y := (yX3_addClause, cX3_addClause, 4, none)
abbrev YX10_coin : mm_Y := (yX10_coin, cX10_coin, 4, (some .int))
abbrev YX10_isCoin : mm_Y := (yX10_isCoin, cX10_isCoin, 2, (some .boolean))
abbrev YX5_cracks : mm_Y := (yX5_cracks, cX5_cracks, 2, (some .int))
abbrev YX10_counter : mm_Y := (yX10_counter, cX10_counter, 3, (some .int))
abbrev YX10_isCounter : mm_Y := (yX10_isCounter, cX10_isCounter, 2, (some .boolean))
abbrev YX10_give : mm_Y := (yX10_give, cX10_give, 4, (some .int))
abbrev YX10_isPerson : mm_Y := (yX10_isPerson, cX10_isPerson, 1, (some .boolean))
abbrev YX10_retune : mm_Y := (yX10_retune, cX10_retune, 4, (some .int))
abbrev YX10_fall : mm_Y := (yX10_fall, cX10_fall, 2, (some .int))
abbrev YX10_isSet : mm_Y := (yX10_isSet, cX10_isSet, 2, (some .boolean))
abbrev YX5_canDrop : mm_Y := (yX5_canDrop, cX5_canDrop, 3, (some .boolean))
abbrev YX5_drop : mm_Y := (yX5_drop, cX5_drop, 3, none)
abbrev YJ6_bitCount_0f7a4 : mm_Y := (yJ6_bitCount_0f7a4, cJ6_bitCount_0f7a4, 1, (some .int))
abbrev YX10_sounds : mm_Y := (yX10_sounds, cX10_sounds, 7, (some .int))
abbrev YX10_isHearable : mm_Y := (yX10_isHearable, cX10_isHearable, 4, (some .boolean))
abbrev YX10_isLaw : mm_Y := (yX10_isLaw, cX10_isLaw, 2, (some .boolean))
abbrev YX0_aim : mm_Y := (yX0_aim, cX0_aim, 4, none)
abbrev YX1_aim : mm_Y := (yX1_aim, cX1_aim, 5, none)
abbrev YX1_listen : mm_Y := (yX1_listen, cX1_listen, 6, none)
abbrev YX1_loudestOf : mm_Y := (yX1_loudestOf, cX1_loudestOf, 5, (some .int))
abbrev YX1_tellWords : mm_Y := (yX1_tellWords, cX1_tellWords, 4, none)
abbrev YX3_told : mm_Y := (yX3_told, cX3_told, 8, (some .long))
abbrev YX3_valueOf : mm_Y := (yX3_valueOf, cX3_valueOf, 8, (some .long))
abbrev YX3_put : mm_Y := (yX3_put, cX3_put, 4, (some .int))
abbrev YX3_joined : mm_Y := (yX3_joined, cX3_joined, 5, (some .long))
abbrev YX1_heldNote : mm_Y := (yX1_heldNote, cX1_heldNote, 2, (some .int))
abbrev YJ9_min_f86c9 : mm_Y := (yJ9_min_f86c9, cJ9_min_f86c9, 4, (some .long))
abbrev YJ9_max_f86c9 : mm_Y := (yJ9_max_f86c9, cJ9_max_f86c9, 4, (some .long))
abbrev YX1_heldStrength : mm_Y := (yX1_heldStrength, cX1_heldStrength, 2, (some .int))
abbrev YX1_putInOrder : mm_Y := (yX1_putInOrder, cX1_putInOrder, 3, none)
abbrev YX1_noteOf : mm_Y := (yX1_noteOf, cX1_noteOf, 2, (some .int))
abbrev YX1_strengthOf : mm_Y := (yX1_strengthOf, cX1_strengthOf, 2, (some .int))
abbrev YX10_tone : mm_Y := (yX10_tone, cX10_tone, 7, (some .int))
abbrev YX1_gatherTones : mm_Y := (yX1_gatherTones, cX1_gatherTones, 4, none)
abbrev YX1_isWithin : mm_Y := (yX1_isWithin, cX1_isWithin, 2, (some .boolean))
abbrev YJ9_min_7cf53 : mm_Y := (yJ9_min_7cf53, cJ9_min_7cf53, 2, (some .int))
abbrev YX10_tones : mm_Y := (yX10_tones, cX10_tones, 4, (some .int))
abbrev YX10_alike : mm_Y := (yX10_alike, cX10_alike, 5, (some .int))
abbrev YX0_learn : mm_Y := (yX0_learn, cX0_learn, 2, none)
abbrev YX5_worthOf : mm_Y := (yX5_worthOf, cX5_worthOf, 4, (some .int))
abbrev YX0_numberOfTones : mm_Y := (yX0_numberOfTones, cX0_numberOfTones, 5, (some .int))
abbrev YX0_isSame : mm_Y := (yX0_isSame, cX0_isSame, 6, (some .boolean))
abbrev YX0_addChord : mm_Y := (yX0_addChord, cX0_addChord, 3, none)
abbrev YX0_numberOf : mm_Y := (yX0_numberOf, cX0_numberOf, 2, (some .int))
abbrev YX10_hear : mm_Y := (yX10_hear, cX10_hear, 2, (some .int))
abbrev YX7_addHeard : mm_Y := (yX7_addHeard, cX7_addHeard, 4, (some .boolean))
abbrev YX10_fits : mm_Y := (yX10_fits, cX10_fits, 5, (some .int))
abbrev YX2_fitting : mm_Y := (yX2_fitting, cX2_fitting, 13, (some .int))
abbrev YX0_learnWithin : mm_Y := (yX0_learnWithin, cX0_learnWithin, 6, none)
abbrev YX10_nextWithin : mm_Y := (yX10_nextWithin, cX10_nextWithin, 2, (some .int))
abbrev YX0_worthOf : mm_Y := (yX0_worthOf, cX0_worthOf, 2, (some .int))
abbrev YX10_mistaken : mm_Y := (yX10_mistaken, cX10_mistaken, 6, (some .int))
abbrev YX2_mistakes : mm_Y := (yX2_mistakes, cX2_mistakes, 12, (some .int))
abbrev YX0_beginGroups : mm_Y := (yX0_beginGroups, cX0_beginGroups, 1, none)
abbrev YX0_leaderOf : mm_Y := (yX0_leaderOf, cX0_leaderOf, 3, (some .int))
abbrev YX10_pay : mm_Y := (yX10_pay, cX10_pay, 7, (some .int))
abbrev YX10_canDeal : mm_Y := (yX10_canDeal, cX10_canDeal, 4, (some .boolean))
abbrev YX10_isPrice : mm_Y := (yX10_isPrice, cX10_isPrice, 1, (some .boolean))
abbrev YX9_findPayment : mm_Y := (yX9_findPayment, cX9_findPayment, 10, (some .boolean))
abbrev YX5_heldBy : mm_Y := (yX5_heldBy, cX5_heldBy, 4, (some .int))
abbrev YX9_collectSafe : mm_Y := (yX9_collectSafe, cX9_collectSafe, 7, (some .int))
abbrev YX0_putInGroup : mm_Y := (yX0_putInGroup, cX0_putInGroup, 2, none)
abbrev YX0_isMixed : mm_Y := (yX0_isMixed, cX0_isMixed, 2, (some .boolean))
abbrev YX9_coinsTogether : mm_Y := (yX9_coinsTogether, cX9_coinsTogether, 1, (some .int))
abbrev YX10_done : mm_Y := (yX10_done, cX10_done, 6, (some .int))
abbrev YX5_hand : mm_Y := (yX5_hand, cX5_hand, 4, none)
abbrev YX10_prices : mm_Y := (yX10_prices, cX10_prices, 6, (some .int))
abbrev YX9_payablePrices : mm_Y := (yX9_payablePrices, cX9_payablePrices, 10, (some .int))
abbrev YX10_bestCounter : mm_Y := (yX10_bestCounter, cX10_bestCounter, 9, (some .int))
abbrev YX10_payment : mm_Y := (yX10_payment, cX10_payment, 3, (some .int))
abbrev YX10_rounds : mm_Y := (yX10_rounds, cX10_rounds, 5, (some .int))
abbrev YX2_forgetClashes : mm_Y := (yX2_forgetClashes, cX2_forgetClashes, 2, none)
abbrev YX2_findClashes : mm_Y := (yX2_findClashes, cX2_findClashes, 5, (some .int))
abbrev YX2_isClash : mm_Y := (yX2_isClash, cX2_isClash, 9, (some .boolean))
abbrev YX2_fewestRounds : mm_Y := (yX2_fewestRounds, cX2_fewestRounds, 4, (some .int))
abbrev YJ6_numberOfLeadingZeros_0f7a4 : mm_Y := (yJ6_numberOfLeadingZeros_0f7a4, cJ6_numberOfLeadingZeros_0f7a4, 2, (some .int))
abbrev YX2_fewestSplit : mm_Y := (yX2_fewestSplit, cX2_fewestSplit, 7, (some .int))
abbrev YX10_land : mm_Y := (yX10_land, cX10_land, 5, (some .int))
abbrev YX2_smallestLand : mm_Y := (yX2_smallestLand, cX2_smallestLand, 6, (some .int))
abbrev YX2_hasUnsoundPart : mm_Y := (yX2_hasUnsoundPart, cX2_hasUnsoundPart, 3, (some .boolean))
abbrev YX2_isLand : mm_Y := (yX2_isLand, cX2_isLand, 9, (some .boolean))
abbrev YX10_forger : mm_Y := (yX10_forger, cX10_forger, 5, (some .int))
abbrev YX10_seed : mm_Y := (yX10_seed, cX10_seed, 3, (some .int))
abbrev YX10_year : mm_Y := (yX10_year, cX10_year, 7, (some .int))
abbrev YX10_drawn : mm_Y := (yX10_drawn, cX10_drawn, 1, (some .int))
abbrev YX5_richest : mm_Y := (yX5_richest, cX5_richest, 3, (some .int))
abbrev YX5_worthHeld : mm_Y := (yX5_worthHeld, cX5_worthHeld, 2, (some .int))
abbrev YX5_cracksOfAll : mm_Y := (yX5_cracksOfAll, cX5_cracksOfAll, 3, (some .int))
abbrev YX10_count : mm_Y := (yX10_count, cX10_count, 2, (some .int))
abbrev YX10_image : mm_Y := (yX10_image, cX10_image, 2, (some .int))
abbrev YX7_copyFrom : mm_Y := (yX7_copyFrom, cX7_copyFrom, 2, none)
abbrev YX10_back : mm_Y := (yX10_back, cX10_back, 2, (some .int))
abbrev YX11_init : mm_Y := (yX11_init, cX11_init, 1, none)
abbrev YX11_feed : mm_Y := (yX11_feed, cX11_feed, 6, (some .int))
abbrev YX11_put : mm_Y := (yX11_put, cX11_put, 3, none)
abbrev YX11_end : mm_Y := (yX11_end, cX11_end, 2, (some .int))
abbrev YX11_mint : mm_Y := (yX11_mint, cX11_mint, 4, (some .int))
abbrev YX11_starts : mm_Y := (yX11_starts, cX11_starts, 1, none)
abbrev YX11_mintClause : mm_Y := (yX11_mintClause, cX11_mintClause, 4, none)
abbrev YX11_blanks : mm_Y := (yX11_blanks, cX11_blanks, 1, none)
abbrev YX11_sign : mm_Y := (yX11_sign, cX11_sign, 1, (some .int))
abbrev YX11_mintWord : mm_Y := (yX11_mintWord, cX11_mintWord, 1, (some (.object "java/lang/String")))
abbrev YX11_stood : mm_Y := (yX11_stood, cX11_stood, 5, (some .boolean))
abbrev YX11_fails : mm_Y := (yX11_fails, cX11_fails, 3, none)
abbrev YX11_isFull : mm_Y := (yX11_isFull, cX11_isFull, 3, (some .boolean))
abbrev YX11_mintPart : mm_Y := (yX11_mintPart, cX11_mintPart, 3, none)
abbrev YX11_amount : mm_Y := (yX11_amount, cX11_amount, 5, (some .int))
abbrev YX11_digits : mm_Y := (yX11_digits, cX11_digits, 4, (some .int))
abbrev YX11_isDigit : mm_Y := (yX11_isDigit, cX11_isDigit, 1, (some .boolean))
abbrev YX11_in : mm_Y := (yX11_in, cX11_in, 6, (some .boolean))
abbrev YX11_goesOn : mm_Y := (yX11_goesOn, cX11_goesOn, 2, (some .boolean))
abbrev YX11_lay : mm_Y := (yX11_lay, cX11_lay, 3, none)
abbrev YX11_law : mm_Y := (yX11_law, cX11_law, 3, (some .int))
abbrev YX11_lawClause : mm_Y := (yX11_lawClause, cX11_lawClause, 5, none)
abbrev YX11_sum : mm_Y := (yX11_sum, cX11_sum, 2, none)
abbrev YX11_term : mm_Y := (yX11_term, cX11_term, 2, none)
abbrev YX11_value : mm_Y := (yX11_value, cX11_value, 3, none)
abbrev YX11_isCounted : mm_Y := (yX11_isCounted, cX11_isCounted, 2, none)
abbrev YX11_entry : mm_Y := (yX11_entry, cX11_entry, 3, none)
abbrev YX11_wordOf : mm_Y := (yX11_wordOf, cX11_wordOf, 1, (some (.object "java/lang/String")))
abbrev YX11_takes : mm_Y := (yX11_takes, cX11_takes, 3, (some .boolean))
abbrev YX11_test : mm_Y := (yX11_test, cX11_test, 5, none)
abbrev YX11_fact : mm_Y := (yX11_fact, cX11_fact, 1, (some .boolean))
abbrev YX11_opens : mm_Y := (yX11_opens, cX11_opens, 2, none)
abbrev YX11_compared : mm_Y := (yX11_compared, cX11_compared, 3, none)
abbrev YX11_answers : mm_Y := (yX11_answers, cX11_answers, 2, none)
abbrev YX11_top : mm_Y := (yX11_top, cX11_top, 1, (some .int))
abbrev YX11_coin : mm_Y := (yX11_coin, cX11_coin, 3, (some .int))
abbrev YX11_isCoin : mm_Y := (yX11_isCoin, cX11_isCoin, 2, (some .boolean))
abbrev YX11_cracks : mm_Y := (yX11_cracks, cX11_cracks, 2, (some .int))
abbrev YX11_counter : mm_Y := (yX11_counter, cX11_counter, 3, (some .int))
abbrev YX11_isCounter : mm_Y := (yX11_isCounter, cX11_isCounter, 2, (some .boolean))
abbrev YX11_give : mm_Y := (yX11_give, cX11_give, 4, (some .int))
abbrev YX11_isPerson : mm_Y := (yX11_isPerson, cX11_isPerson, 1, (some .boolean))
abbrev YX11_retune : mm_Y := (yX11_retune, cX11_retune, 4, (some .int))
abbrev YX11_fall : mm_Y := (yX11_fall, cX11_fall, 2, (some .int))
abbrev YX11_isSet : mm_Y := (yX11_isSet, cX11_isSet, 2, (some .boolean))
abbrev YX11_canFall : mm_Y := (yX11_canFall, cX11_canFall, 4, (some .boolean))
abbrev YX11_has : mm_Y := (yX11_has, cX11_has, 2, (some .boolean))
abbrev YX11_fallen : mm_Y := (yX11_fallen, cX11_fallen, 3, none)
abbrev YX11_bits : mm_Y := (yX11_bits, cX11_bits, 3, (some .int))
abbrev YX11_sounds : mm_Y := (yX11_sounds, cX11_sounds, 6, (some .int))
abbrev YX11_isAsked : mm_Y := (yX11_isAsked, cX11_isAsked, 4, (some .boolean))
abbrev YX11_isLaw : mm_Y := (yX11_isLaw, cX11_isLaw, 2, (some .boolean))
abbrev YX11_asks : mm_Y := (yX11_asks, cX11_asks, 4, none)
abbrev YX11_loudest : mm_Y := (yX11_loudest, cX11_loudest, 4, (some .int))
abbrev YX11_noteNow : mm_Y := (yX11_noteNow, cX11_noteNow, 2, (some .int))
abbrev YX11_sound : mm_Y := (yX11_sound, cX11_sound, 4, (some .long))
abbrev YX11_answer : mm_Y := (yX11_answer, cX11_answer, 8, (some .long))
abbrev YX11_both : mm_Y := (yX11_both, cX11_both, 5, (some .long))
abbrev YX11_truth : mm_Y := (yX11_truth, cX11_truth, 1, (some .long))
abbrev YX11_held : mm_Y := (yX11_held, cX11_held, 6, (some .long))
abbrev YX11_strengthNow : mm_Y := (yX11_strengthNow, cX11_strengthNow, 2, (some .int))
abbrev YX11_tone : mm_Y := (yX11_tone, cX11_tone, 6, (some .int))
abbrev YX11_sings : mm_Y := (yX11_sings, cX11_sings, 7, none)
abbrev YX11_tones0 : mm_Y := (yX11_tones0, cX11_tones0, 4, none)
abbrev YX11_tones : mm_Y := (yX11_tones, cX11_tones, 4, (some .int))
abbrev YX11_alike : mm_Y := (yX11_alike, cX11_alike, 5, (some .int))
abbrev YX11_keepsChord : mm_Y := (yX11_keepsChord, cX11_keepsChord, 7, none)
abbrev YX11_areAlike : mm_Y := (yX11_areAlike, cX11_areAlike, 5, (some .boolean))
abbrev YX11_hear : mm_Y := (yX11_hear, cX11_hear, 5, (some .int))
abbrev YX11_fits : mm_Y := (yX11_fits, cX11_fits, 12, (some .int))
abbrev YX11_isHeard : mm_Y := (yX11_isHeard, cX11_isHeard, 3, (some .boolean))
abbrev YX11_worthOf : mm_Y := (yX11_worthOf, cX11_worthOf, 4, (some .int))
abbrev YX11_mistaken : mm_Y := (yX11_mistaken, cX11_mistaken, 10, (some .int))
abbrev YX11_keepsAll : mm_Y := (yX11_keepsAll, cX11_keepsAll, 6, none)
abbrev YX11_mistakenFor : mm_Y := (yX11_mistakenFor, cX11_mistakenFor, 5, (some .int))
abbrev YX11_pay : mm_Y := (yX11_pay, cX11_pay, 8, (some .int))
abbrev YX11_isPay : mm_Y := (yX11_isPay, cX11_isPay, 5, (some .boolean))
abbrev YX11_pays : mm_Y := (yX11_pays, cX11_pays, 16, (some .int))
abbrev YX11_heldBy : mm_Y := (yX11_heldBy, cX11_heldBy, 4, (some .int))
abbrev YX11_findsSafe : mm_Y := (yX11_findsSafe, cX11_findsSafe, 5, none)
abbrev YX11_done : mm_Y := (yX11_done, cX11_done, 8, (some .int))
abbrev YX11_prices : mm_Y := (yX11_prices, cX11_prices, 6, (some .int))
abbrev YX11_manyPrices : mm_Y := (yX11_manyPrices, cX11_manyPrices, 8, (some .int))
abbrev YX11_bestCounter : mm_Y := (yX11_bestCounter, cX11_bestCounter, 9, (some .int))
abbrev YX11_payment : mm_Y := (yX11_payment, cX11_payment, 4, (some .int))
abbrev YX11_rounds : mm_Y := (yX11_rounds, cX11_rounds, 9, (some .int))
abbrev YX11_isClash : mm_Y := (yX11_isClash, cX11_isClash, 7, (some .boolean))
abbrev YX11_isQuiet : mm_Y := (yX11_isQuiet, cX11_isQuiet, 4, (some .boolean))
abbrev YX11_land : mm_Y := (yX11_land, cX11_land, 8, (some .int))
abbrev YX11_findsBad : mm_Y := (yX11_findsBad, cX11_findsBad, 5, none)
abbrev YX11_hasPrices : mm_Y := (yX11_hasPrices, cX11_hasPrices, 6, (some .boolean))
abbrev YX11_forger : mm_Y := (yX11_forger, cX11_forger, 7, (some .int))
abbrev YX11_seed : mm_Y := (yX11_seed, cX11_seed, 3, (some .int))
abbrev YX11_year : mm_Y := (yX11_year, cX11_year, 8, (some .int))
abbrev YX11_draws : mm_Y := (yX11_draws, cX11_draws, 2, (some .int))
abbrev YX11_count : mm_Y := (yX11_count, cX11_count, 2, (some .int))
abbrev YX11_image : mm_Y := (yX11_image, cX11_image, 2, (some .int))
abbrev YX11_carriesAll : mm_Y := (yX11_carriesAll, cX11_carriesAll, 3, none)
abbrev YX11_carry : mm_Y := (yX11_carry, cX11_carry, 3, none)
abbrev YX11_back : mm_Y := (yX11_back, cX11_back, 2, (some .int))
set_option maxRecDepth 100000 in
theorem vX10_feed : mm_MV YX10_feed 10 5 := ⟨(mm_in 545 rfl rfl), mm_in 543 (by decide +kernel) rfl, mm_in 544 (by decide +kernel) rfl, ini_X10, ⟨_, rfl, rfl⟩, ⟨by decide, by decide, by decide +kernel⟩, by decide⟩
set_option maxRecDepth 100000 in
theorem vX10_appendBytes : mm_MV YX10_appendBytes 10 1 := ⟨(mm_in 549 rfl rfl), mm_in 548 (by decide +kernel) rfl, mm_in 0 (by decide +kernel) rfl, ini_X10, ⟨_, rfl, rfl⟩, ⟨by decide, by decide, by decide +kernel⟩, by decide⟩
set_option maxRecDepth 100000 in
theorem vX10_end : mm_MV YX10_end 10 1 := ⟨(mm_in 553 rfl rfl), mm_in 551 (by decide +kernel) rfl, mm_in 552 (by decide +kernel) rfl, ini_X10, ⟨_, rfl, rfl⟩, ⟨by decide, by decide, by decide +kernel⟩, by decide⟩
set_option maxRecDepth 100000 in
theorem vX10_mint : mm_MV YX10_mint 10 0 := ⟨(mm_in 557 rfl rfl), mm_in 555 (by decide +kernel) rfl, mm_in 556 (by decide +kernel) rfl, ini_X10, ⟨_, rfl, rfl⟩, ⟨by decide, by decide, by decide +kernel⟩, by decide⟩
set_option maxRecDepth 100000 in
theorem vX8_split : mm_MV YX8_split 8 2 := ⟨(mm_in 561 rfl rfl), mm_in 559 (by decide +kernel) rfl, mm_in 560 (by decide +kernel) rfl, ini_X8, ⟨_, rfl, rfl⟩, ⟨by decide, by decide, by decide +kernel⟩, by decide⟩
set_option maxRecDepth 100000 in
theorem sX8_pieceEnd : mm_MS YX8_pieceEnd 3 := ⟨(mm_in 564 rfl rfl), mm_in 563 (by decide +kernel) rfl, ini_X8, ⟨by decide, by decide, by decide +kernel⟩, by decide⟩
set_option maxRecDepth 100000 in
theorem sX8_isLetter : mm_MS YX8_isLetter 1 := ⟨(mm_in 567 rfl rfl), mm_in 566 (by decide +kernel) rfl, ini_X8, ⟨by decide, by decide, by decide +kernel⟩, by decide⟩
set_option maxRecDepth 100000 in
theorem sX8_isDigit : mm_MS YX8_isDigit 1 := ⟨(mm_in 570 rfl rfl), mm_in 569 (by decide +kernel) rfl, ini_X8, ⟨by decide, by decide, by decide +kernel⟩, by decide⟩
set_option maxRecDepth 100000 in
theorem sJ9_max_7cf53 : mm_MS YJ9_max_7cf53 2 := ⟨(mm_in 573 rfl rfl), mm_in 572 (by decide +kernel) rfl, ini_J9, ⟨by decide, by decide, by decide +kernel⟩, by decide⟩
set_option maxRecDepth 100000 in
theorem vX8_addPiece : mm_MV YX8_addPiece 8 3 := ⟨(mm_in 577 rfl rfl), mm_in 576 (by decide +kernel) rfl, mm_in 1 (by decide +kernel) rfl, ini_X8, ⟨_, rfl, rfl⟩, ⟨by decide, by decide, by decide +kernel⟩, by decide⟩
set_option maxRecDepth 100000 in
theorem sX8_numberAt : mm_MS YX8_numberAt 3 := ⟨(mm_in 580 rfl rfl), mm_in 579 (by decide +kernel) rfl, ini_X8, ⟨by decide, by decide, by decide +kernel⟩, by decide⟩
set_option maxRecDepth 100000 in
theorem vX8_append : mm_MV YX8_append 8 3 := ⟨(mm_in 584 rfl rfl), mm_in 583 (by decide +kernel) rfl, mm_in 2 (by decide +kernel) rfl, ini_X8, ⟨_, rfl, rfl⟩, ⟨by decide, by decide, by decide +kernel⟩, by decide⟩
set_option maxRecDepth 100000 in
theorem sX8_wordAt : mm_MS YX8_wordAt 3 := ⟨(mm_in 587 rfl rfl), mm_in 586 (by decide +kernel) rfl, ini_X8, ⟨by decide, by decide, by decide +kernel⟩, by decide⟩
set_option maxRecDepth 100000 in
theorem sJ1_charAt_3b067 : mm_MS YJ1_charAt_3b067 2 := ⟨(mm_in 609 rfl rfl), mm_in 608 (by decide +kernel) rfl, ini_J1, ⟨by decide, by decide, by decide +kernel⟩, by decide⟩
set_option maxRecDepth 100000 in
theorem sJ0_checkIndex_df160 : mm_MS YJ0_checkIndex_df160 2 := ⟨(mm_in 612 rfl rfl), mm_in 611 (by decide +kernel) rfl, ini_J0, ⟨by decide, by decide, by decide +kernel⟩, by decide⟩
set_option maxRecDepth 100000 in
theorem sJ3_checkIndex_8e157 : mm_MS YJ3_checkIndex_8e157 3 := ⟨(mm_in 617 rfl rfl), mm_in 616 (by decide +kernel) rfl, ini_J3, ⟨by decide, by decide, by decide +kernel⟩, by decide⟩
set_option maxRecDepth 100000 in
theorem sJ2_charAt_3b067 : mm_MS YJ2_charAt_3b067 2 := ⟨(mm_in 620 rfl rfl), mm_in 619 (by decide +kernel) rfl, ini_J2, ⟨by decide, by decide, by decide +kernel⟩, by decide⟩
set_option maxRecDepth 100000 in
theorem sJ2_checkIndex_2214a : mm_MS YJ2_checkIndex_2214a 2 := ⟨(mm_in 623 rfl rfl), mm_in 622 (by decide +kernel) rfl, ini_J2, ⟨by decide, by decide, by decide +kernel⟩, by decide⟩
set_option maxRecDepth 100000 in
theorem sJ2_length_9d52b : mm_MS YJ2_length_9d52b 1 := ⟨(mm_in 626 rfl rfl), mm_in 625 (by decide +kernel) rfl, ini_J2, ⟨by decide, by decide, by decide +kernel⟩, by decide⟩
set_option maxRecDepth 100000 in
theorem sJ2_getChar_3b067 : mm_MS YJ2_getChar_3b067 2 := ⟨(mm_in 630 rfl rfl), mm_in 629 (by decide +kernel) rfl, ini_J2, ⟨by decide, by decide, by decide +kernel⟩, by decide⟩
set_option maxRecDepth 100000 in
theorem sX8_isWord : mm_MS YX8_isWord 4 := ⟨(mm_in 639 rfl rfl), mm_in 638 (by decide +kernel) rfl, ini_X8, ⟨by decide, by decide, by decide +kernel⟩, by decide⟩
set_option maxRecDepth 100000 in
theorem sX8_signOf : mm_MS YX8_signOf 2 := ⟨(mm_in 642 rfl rfl), mm_in 641 (by decide +kernel) rfl, ini_X8, ⟨by decide, by decide, by decide +kernel⟩, by decide⟩
set_option maxRecDepth 100000 in
theorem vX6_read : mm_MV YX6_read 6 0 := ⟨(mm_in 646 rfl rfl), mm_in 644 (by decide +kernel) rfl, mm_in 645 (by decide +kernel) rfl, ini_X6, ⟨_, rfl, rfl⟩, ⟨by decide, by decide, by decide +kernel⟩, by decide⟩
set_option maxRecDepth 100000 in
theorem vX5_clear : mm_MV YX5_clear 5 0 := ⟨(mm_in 650 rfl rfl), mm_in 648 (by decide +kernel) rfl, mm_in 649 (by decide +kernel) rfl, ini_X5, ⟨_, rfl, rfl⟩, ⟨by decide, by decide, by decide +kernel⟩, by decide⟩
set_option maxRecDepth 100000 in
theorem vX6_readClause : mm_MV YX6_readClause 6 0 := ⟨(mm_in 654 rfl rfl), mm_in 653 (by decide +kernel) rfl, mm_in 3 (by decide +kernel) rfl, ini_X6, ⟨_, rfl, rfl⟩, ⟨by decide, by decide, by decide +kernel⟩, by decide⟩
set_option maxRecDepth 100000 in
theorem vX8_kind : mm_MV YX8_kind 8 0 := ⟨(mm_in 658 rfl rfl), mm_in 656 (by decide +kernel) rfl, mm_in 657 (by decide +kernel) rfl, ini_X8, ⟨_, rfl, rfl⟩, ⟨by decide, by decide, by decide +kernel⟩, by decide⟩
set_option maxRecDepth 100000 in
theorem vX8_fail : mm_MV YX8_fail 8 1 := ⟨(mm_in 662 rfl rfl), mm_in 660 (by decide +kernel) rfl, mm_in 661 (by decide +kernel) rfl, ini_X8, ⟨_, rfl, rfl⟩, ⟨by decide, by decide, by decide +kernel⟩, by decide⟩
set_option maxRecDepth 100000 in
theorem vX6_isTooMany : mm_MV YX6_isTooMany 6 1 := ⟨(mm_in 666 rfl rfl), mm_in 665 (by decide +kernel) rfl, mm_in 4 (by decide +kernel) rfl, ini_X6, ⟨_, rfl, rfl⟩, ⟨by decide, by decide, by decide +kernel⟩, by decide⟩
set_option maxRecDepth 100000 in
theorem vX8_step : mm_MV YX8_step 8 0 := ⟨(mm_in 670 rfl rfl), mm_in 668 (by decide +kernel) rfl, mm_in 669 (by decide +kernel) rfl, ini_X8, ⟨_, rfl, rfl⟩, ⟨by decide, by decide, by decide +kernel⟩, by decide⟩
set_option maxRecDepth 100000 in
theorem vX6_readNumbers : mm_MV YX6_readNumbers 6 1 := ⟨(mm_in 674 rfl rfl), mm_in 673 (by decide +kernel) rfl, mm_in 5 (by decide +kernel) rfl, ini_X6, ⟨_, rfl, rfl⟩, ⟨by decide, by decide, by decide +kernel⟩, by decide⟩
set_option maxRecDepth 100000 in
theorem vX6_readNumber : mm_MV YX6_readNumber 6 2 := ⟨(mm_in 678 rfl rfl), mm_in 677 (by decide +kernel) rfl, mm_in 6 (by decide +kernel) rfl, ini_X6, ⟨_, rfl, rfl⟩, ⟨by decide, by decide, by decide +kernel⟩, by decide⟩
set_option maxRecDepth 100000 in
theorem vX8_number : mm_MV YX8_number 8 0 := ⟨(mm_in 682 rfl rfl), mm_in 680 (by decide +kernel) rfl, mm_in 681 (by decide +kernel) rfl, ini_X8, ⟨_, rfl, rfl⟩, ⟨by decide, by decide, by decide +kernel⟩, by decide⟩
set_option maxRecDepth 100000 in
theorem vX5_addCoin : mm_MV YX5_addCoin 5 4 := ⟨(mm_in 686 rfl rfl), mm_in 684 (by decide +kernel) rfl, mm_in 685 (by decide +kernel) rfl, ini_X5, ⟨_, rfl, rfl⟩, ⟨by decide, by decide, by decide +kernel⟩, by decide⟩
set_option maxRecDepth 100000 in
theorem vX5_addCounter : mm_MV YX5_addCounter 5 2 := ⟨(mm_in 690 rfl rfl), mm_in 688 (by decide +kernel) rfl, mm_in 689 (by decide +kernel) rfl, ini_X5, ⟨_, rfl, rfl⟩, ⟨by decide, by decide, by decide +kernel⟩, by decide⟩
set_option maxRecDepth 100000 in
theorem vX7_takeMint : mm_MV YX7_takeMint 7 1 := ⟨(mm_in 694 rfl rfl), mm_in 692 (by decide +kernel) rfl, mm_in 693 (by decide +kernel) rfl, ini_X7, ⟨_, rfl, rfl⟩, ⟨by decide, by decide, by decide +kernel⟩, by decide⟩
set_option maxRecDepth 100000 in
theorem vX5_copyFrom : mm_MV YX5_copyFrom 5 1 := ⟨(mm_in 698 rfl rfl), mm_in 696 (by decide +kernel) rfl, mm_in 697 (by decide +kernel) rfl, ini_X5, ⟨_, rfl, rfl⟩, ⟨by decide, by decide, by decide +kernel⟩, by decide⟩
set_option maxRecDepth 100000 in
theorem vX0_forget : mm_MV YX0_forget 0 0 := ⟨(mm_in 705 rfl rfl), mm_in 703 (by decide +kernel) rfl, mm_in 704 (by decide +kernel) rfl, ini_X0, ⟨_, rfl, rfl⟩, ⟨by decide, by decide, by decide +kernel⟩, by decide⟩
set_option maxRecDepth 100000 in
theorem vX10_law : mm_MV YX10_law 10 0 := ⟨(mm_in 709 rfl rfl), mm_in 707 (by decide +kernel) rfl, mm_in 708 (by decide +kernel) rfl, ini_X10, ⟨_, rfl, rfl⟩, ⟨by decide, by decide, by decide +kernel⟩, by decide⟩
set_option maxRecDepth 100000 in
theorem vX4_read : mm_MV YX4_read 4 1 := ⟨(mm_in 713 rfl rfl), mm_in 711 (by decide +kernel) rfl, mm_in 712 (by decide +kernel) rfl, ini_X4, ⟨_, rfl, rfl⟩, ⟨by decide, by decide, by decide +kernel⟩, by decide⟩
set_option maxRecDepth 100000 in
theorem vX3_clear : mm_MV YX3_clear 3 0 := ⟨(mm_in 717 rfl rfl), mm_in 715 (by decide +kernel) rfl, mm_in 716 (by decide +kernel) rfl, ini_X3, ⟨_, rfl, rfl⟩, ⟨by decide, by decide, by decide +kernel⟩, by decide⟩
set_option maxRecDepth 100000 in
theorem vX4_readClause : mm_MV YX4_readClause 4 0 := ⟨(mm_in 721 rfl rfl), mm_in 720 (by decide +kernel) rfl, mm_in 7 (by decide +kernel) rfl, ini_X4, ⟨_, rfl, rfl⟩, ⟨by decide, by decide, by decide +kernel⟩, by decide⟩
set_option maxRecDepth 100000 in
theorem vX3_isFull : mm_MV YX3_isFull 3 0 := ⟨(mm_in 727 rfl rfl), mm_in 725 (by decide +kernel) rfl, mm_in 726 (by decide +kernel) rfl, ini_X3, ⟨_, rfl, rfl⟩, ⟨by decide, by decide, by decide +kernel⟩, by decide⟩
set_option maxRecDepth 100000 in
theorem vX4_readSum : mm_MV YX4_readSum 4 0 := ⟨(mm_in 732 rfl rfl), mm_in 731 (by decide +kernel) rfl, mm_in 8 (by decide +kernel) rfl, ini_X4, ⟨_, rfl, rfl⟩, ⟨by decide, by decide, by decide +kernel⟩, by decide⟩
set_option maxRecDepth 100000 in
theorem vX4_readValue : mm_MV YX4_readValue 4 0 := ⟨(mm_in 736 rfl rfl), mm_in 735 (by decide +kernel) rfl, mm_in 9 (by decide +kernel) rfl, ini_X4, ⟨_, rfl, rfl⟩, ⟨by decide, by decide, by decide +kernel⟩, by decide⟩
set_option maxRecDepth 100000 in
theorem vX3_addNumber : mm_MV YX3_addNumber 3 1 := ⟨(mm_in 741 rfl rfl), mm_in 739 (by decide +kernel) rfl, mm_in 740 (by decide +kernel) rfl, ini_X3, ⟨_, rfl, rfl⟩, ⟨by decide, by decide, by decide +kernel⟩, by decide⟩
set_option maxRecDepth 100000 in
theorem vX3_addSign : mm_MV YX3_addSign 3 1 := ⟨(mm_in 745 rfl rfl), mm_in 743 (by decide +kernel) rfl, mm_in 744 (by decide +kernel) rfl, ini_X3, ⟨_, rfl, rfl⟩, ⟨by decide, by decide, by decide +kernel⟩, by decide⟩
set_option maxRecDepth 100000 in
theorem vX4_readTest : mm_MV YX4_readTest 4 1 := ⟨(mm_in 749 rfl rfl), mm_in 748 (by decide +kernel) rfl, mm_in 10 (by decide +kernel) rfl, ini_X4, ⟨_, rfl, rfl⟩, ⟨by decide, by decide, by decide +kernel⟩, by decide⟩
set_option maxRecDepth 100000 in
theorem vX4_readFact : mm_MV YX4_readFact 4 1 := ⟨(mm_in 753 rfl rfl), mm_in 752 (by decide +kernel) rfl, mm_in 11 (by decide +kernel) rfl, ini_X4, ⟨_, rfl, rfl⟩, ⟨by decide, by decide, by decide +kernel⟩, by decide⟩
set_option maxRecDepth 100000 in
theorem vX4_takeSign : mm_MV YX4_takeSign 4 0 := ⟨(mm_in 757 rfl rfl), mm_in 756 (by decide +kernel) rfl, mm_in 12 (by decide +kernel) rfl, ini_X4, ⟨_, rfl, rfl⟩, ⟨by decide, by decide, by decide +kernel⟩, by decide⟩
set_option maxRecDepth 100000 in
theorem vX3_addClause : mm_MV YX3_addClause 3 3 := ⟨(mm_in 761 rfl rfl), mm_in 759 (by decide +kernel) rfl, mm_in 760 (by decide +kernel) rfl, ini_X3, ⟨_, rfl, rfl⟩, ⟨by decide, by decide, by decide +kernel⟩, by decide⟩
set_option maxRecDepth 100000 in
theorem vX10_coin : mm_MV YX10_coin 10 2 := ⟨(mm_in 765 rfl rfl), mm_in 763 (by decide +kernel) rfl, mm_in 764 (by decide +kernel) rfl, ini_X10, ⟨_, rfl, rfl⟩, ⟨by decide, by decide, by decide +kernel⟩, by decide⟩
set_option maxRecDepth 100000 in
theorem vX10_isCoin : mm_MV YX10_isCoin 10 1 := ⟨(mm_in 769 rfl rfl), mm_in 768 (by decide +kernel) rfl, mm_in 13 (by decide +kernel) rfl, ini_X10, ⟨_, rfl, rfl⟩, ⟨by decide, by decide, by decide +kernel⟩, by decide⟩
set_option maxRecDepth 100000 in
theorem vX5_cracks : mm_MV YX5_cracks 5 1 := ⟨(mm_in 773 rfl rfl), mm_in 771 (by decide +kernel) rfl, mm_in 772 (by decide +kernel) rfl, ini_X5, ⟨_, rfl, rfl⟩, ⟨by decide, by decide, by decide +kernel⟩, by decide⟩
set_option maxRecDepth 100000 in
theorem vX10_counter : mm_MV YX10_counter 10 2 := ⟨(mm_in 777 rfl rfl), mm_in 775 (by decide +kernel) rfl, mm_in 776 (by decide +kernel) rfl, ini_X10, ⟨_, rfl, rfl⟩, ⟨by decide, by decide, by decide +kernel⟩, by decide⟩
set_option maxRecDepth 100000 in
theorem vX10_isCounter : mm_MV YX10_isCounter 10 1 := ⟨(mm_in 781 rfl rfl), mm_in 780 (by decide +kernel) rfl, mm_in 14 (by decide +kernel) rfl, ini_X10, ⟨_, rfl, rfl⟩, ⟨by decide, by decide, by decide +kernel⟩, by decide⟩
set_option maxRecDepth 100000 in
theorem vX10_give : mm_MV YX10_give 10 2 := ⟨(mm_in 785 rfl rfl), mm_in 783 (by decide +kernel) rfl, mm_in 784 (by decide +kernel) rfl, ini_X10, ⟨_, rfl, rfl⟩, ⟨by decide, by decide, by decide +kernel⟩, by decide⟩
set_option maxRecDepth 100000 in
theorem sX10_isPerson : mm_MS YX10_isPerson 1 := ⟨(mm_in 788 rfl rfl), mm_in 787 (by decide +kernel) rfl, ini_X10, ⟨by decide, by decide, by decide +kernel⟩, by decide⟩
set_option maxRecDepth 100000 in
theorem vX10_retune : mm_MV YX10_retune 10 2 := ⟨(mm_in 792 rfl rfl), mm_in 790 (by decide +kernel) rfl, mm_in 791 (by decide +kernel) rfl, ini_X10, ⟨_, rfl, rfl⟩, ⟨by decide, by decide, by decide +kernel⟩, by decide⟩
set_option maxRecDepth 100000 in
theorem vX10_fall : mm_MV YX10_fall 10 1 := ⟨(mm_in 796 rfl rfl), mm_in 794 (by decide +kernel) rfl, mm_in 795 (by decide +kernel) rfl, ini_X10, ⟨_, rfl, rfl⟩, ⟨by decide, by decide, by decide +kernel⟩, by decide⟩
set_option maxRecDepth 100000 in
theorem vX10_isSet : mm_MV YX10_isSet 10 1 := ⟨(mm_in 800 rfl rfl), mm_in 799 (by decide +kernel) rfl, mm_in 15 (by decide +kernel) rfl, ini_X10, ⟨_, rfl, rfl⟩, ⟨by decide, by decide, by decide +kernel⟩, by decide⟩
set_option maxRecDepth 100000 in
theorem vX5_canDrop : mm_MV YX5_canDrop 5 1 := ⟨(mm_in 804 rfl rfl), mm_in 802 (by decide +kernel) rfl, mm_in 803 (by decide +kernel) rfl, ini_X5, ⟨_, rfl, rfl⟩, ⟨by decide, by decide, by decide +kernel⟩, by decide⟩
set_option maxRecDepth 100000 in
theorem vX5_drop : mm_MV YX5_drop 5 1 := ⟨(mm_in 808 rfl rfl), mm_in 806 (by decide +kernel) rfl, mm_in 807 (by decide +kernel) rfl, ini_X5, ⟨_, rfl, rfl⟩, ⟨by decide, by decide, by decide +kernel⟩, by decide⟩
set_option maxRecDepth 100000 in
theorem sJ6_bitCount_0f7a4 : mm_MS YJ6_bitCount_0f7a4 1 := ⟨(mm_in 811 rfl rfl), mm_in 810 (by decide +kernel) rfl, ini_J6, ⟨by decide, by decide, by decide +kernel⟩, by decide⟩
set_option maxRecDepth 100000 in
theorem vX10_sounds : mm_MV YX10_sounds 10 5 := ⟨(mm_in 818 rfl rfl), mm_in 816 (by decide +kernel) rfl, mm_in 817 (by decide +kernel) rfl, ini_X10, ⟨_, rfl, rfl⟩, ⟨by decide, by decide, by decide +kernel⟩, by decide⟩
set_option maxRecDepth 100000 in
theorem vX10_isHearable : mm_MV YX10_isHearable 10 3 := ⟨(mm_in 822 rfl rfl), mm_in 821 (by decide +kernel) rfl, mm_in 16 (by decide +kernel) rfl, ini_X10, ⟨_, rfl, rfl⟩, ⟨by decide, by decide, by decide +kernel⟩, by decide⟩
set_option maxRecDepth 100000 in
theorem vX10_isLaw : mm_MV YX10_isLaw 10 1 := ⟨(mm_in 826 rfl rfl), mm_in 825 (by decide +kernel) rfl, mm_in 17 (by decide +kernel) rfl, ini_X10, ⟨_, rfl, rfl⟩, ⟨by decide, by decide, by decide +kernel⟩, by decide⟩
set_option maxRecDepth 100000 in
theorem vX0_aim : mm_MV YX0_aim 0 2 := ⟨(mm_in 830 rfl rfl), mm_in 828 (by decide +kernel) rfl, mm_in 829 (by decide +kernel) rfl, ini_X0, ⟨_, rfl, rfl⟩, ⟨by decide, by decide, by decide +kernel⟩, by decide⟩
set_option maxRecDepth 100000 in
theorem vX1_aim : mm_MV YX1_aim 1 2 := ⟨(mm_in 834 rfl rfl), mm_in 832 (by decide +kernel) rfl, mm_in 833 (by decide +kernel) rfl, ini_X1, ⟨_, rfl, rfl⟩, ⟨by decide, by decide, by decide +kernel⟩, by decide⟩
set_option maxRecDepth 100000 in
theorem vX1_listen : mm_MV YX1_listen 1 1 := ⟨(mm_in 838 rfl rfl), mm_in 836 (by decide +kernel) rfl, mm_in 837 (by decide +kernel) rfl, ini_X1, ⟨_, rfl, rfl⟩, ⟨by decide, by decide, by decide +kernel⟩, by decide⟩
set_option maxRecDepth 100000 in
theorem vX1_loudestOf : mm_MV YX1_loudestOf 1 1 := ⟨(mm_in 842 rfl rfl), mm_in 841 (by decide +kernel) rfl, mm_in 18 (by decide +kernel) rfl, ini_X1, ⟨_, rfl, rfl⟩, ⟨by decide, by decide, by decide +kernel⟩, by decide⟩
set_option maxRecDepth 100000 in
theorem vX1_tellWords : mm_MV YX1_tellWords 1 3 := ⟨(mm_in 848 rfl rfl), mm_in 847 (by decide +kernel) rfl, mm_in 19 (by decide +kernel) rfl, ini_X1, ⟨_, rfl, rfl⟩, ⟨by decide, by decide, by decide +kernel⟩, by decide⟩
set_option maxRecDepth 100000 in
theorem vX3_told : mm_MV YX3_told 3 4 := ⟨(mm_in 853 rfl rfl), mm_in 851 (by decide +kernel) rfl, mm_in 852 (by decide +kernel) rfl, ini_X3, ⟨_, rfl, rfl⟩, ⟨by decide, by decide, by decide +kernel⟩, by decide⟩
set_option maxRecDepth 100000 in
theorem vX3_valueOf : mm_MV YX3_valueOf 3 4 := ⟨(mm_in 857 rfl rfl), mm_in 856 (by decide +kernel) rfl, mm_in 20 (by decide +kernel) rfl, ini_X3, ⟨_, rfl, rfl⟩, ⟨by decide, by decide, by decide +kernel⟩, by decide⟩
set_option maxRecDepth 100000 in
theorem sX3_put : mm_MS YX3_put 3 := ⟨(mm_in 860 rfl rfl), mm_in 859 (by decide +kernel) rfl, ini_X3, ⟨by decide, by decide, by decide +kernel⟩, by decide⟩
set_option maxRecDepth 100000 in
theorem sX3_joined : mm_MS YX3_joined 3 := ⟨(mm_in 863 rfl rfl), mm_in 862 (by decide +kernel) rfl, ini_X3, ⟨by decide, by decide, by decide +kernel⟩, by decide⟩
set_option maxRecDepth 100000 in
theorem sX1_heldNote : mm_MS YX1_heldNote 1 := ⟨(mm_in 866 rfl rfl), mm_in 865 (by decide +kernel) rfl, ini_X1, ⟨by decide, by decide, by decide +kernel⟩, by decide⟩
set_option maxRecDepth 100000 in
theorem sJ9_min_f86c9 : mm_MS YJ9_min_f86c9 2 := ⟨(mm_in 871 rfl rfl), mm_in 870 (by decide +kernel) rfl, ini_J9, ⟨by decide, by decide, by decide +kernel⟩, by decide⟩
set_option maxRecDepth 100000 in
theorem sJ9_max_f86c9 : mm_MS YJ9_max_f86c9 2 := ⟨(mm_in 874 rfl rfl), mm_in 873 (by decide +kernel) rfl, ini_J9, ⟨by decide, by decide, by decide +kernel⟩, by decide⟩
set_option maxRecDepth 100000 in
theorem sX1_heldStrength : mm_MS YX1_heldStrength 1 := ⟨(mm_in 877 rfl rfl), mm_in 876 (by decide +kernel) rfl, ini_X1, ⟨by decide, by decide, by decide +kernel⟩, by decide⟩
set_option maxRecDepth 100000 in
theorem vX1_putInOrder : mm_MV YX1_putInOrder 1 1 := ⟨(mm_in 881 rfl rfl), mm_in 880 (by decide +kernel) rfl, mm_in 21 (by decide +kernel) rfl, ini_X1, ⟨_, rfl, rfl⟩, ⟨by decide, by decide, by decide +kernel⟩, by decide⟩
set_option maxRecDepth 100000 in
theorem vX1_noteOf : mm_MV YX1_noteOf 1 1 := ⟨(mm_in 885 rfl rfl), mm_in 883 (by decide +kernel) rfl, mm_in 884 (by decide +kernel) rfl, ini_X1, ⟨_, rfl, rfl⟩, ⟨by decide, by decide, by decide +kernel⟩, by decide⟩
set_option maxRecDepth 100000 in
theorem vX1_strengthOf : mm_MV YX1_strengthOf 1 1 := ⟨(mm_in 890 rfl rfl), mm_in 888 (by decide +kernel) rfl, mm_in 889 (by decide +kernel) rfl, ini_X1, ⟨_, rfl, rfl⟩, ⟨by decide, by decide, by decide +kernel⟩, by decide⟩
set_option maxRecDepth 100000 in
theorem vX10_tone : mm_MV YX10_tone 10 5 := ⟨(mm_in 894 rfl rfl), mm_in 892 (by decide +kernel) rfl, mm_in 893 (by decide +kernel) rfl, ini_X10, ⟨_, rfl, rfl⟩, ⟨by decide, by decide, by decide +kernel⟩, by decide⟩
set_option maxRecDepth 100000 in
theorem vX1_gatherTones : mm_MV YX1_gatherTones 1 0 := ⟨(mm_in 898 rfl rfl), mm_in 896 (by decide +kernel) rfl, mm_in 897 (by decide +kernel) rfl, ini_X1, ⟨_, rfl, rfl⟩, ⟨by decide, by decide, by decide +kernel⟩, by decide⟩
set_option maxRecDepth 100000 in
theorem vX1_isWithin : mm_MV YX1_isWithin 1 1 := ⟨(mm_in 902 rfl rfl), mm_in 901 (by decide +kernel) rfl, mm_in 22 (by decide +kernel) rfl, ini_X1, ⟨_, rfl, rfl⟩, ⟨by decide, by decide, by decide +kernel⟩, by decide⟩
set_option maxRecDepth 100000 in
theorem sJ9_min_7cf53 : mm_MS YJ9_min_7cf53 2 := ⟨(mm_in 906 rfl rfl), mm_in 905 (by decide +kernel) rfl, ini_J9, ⟨by decide, by decide, by decide +kernel⟩, by decide⟩
set_option maxRecDepth 100000 in
theorem vX10_tones : mm_MV YX10_tones 10 3 := ⟨(mm_in 910 rfl rfl), mm_in 908 (by decide +kernel) rfl, mm_in 909 (by decide +kernel) rfl, ini_X10, ⟨_, rfl, rfl⟩, ⟨by decide, by decide, by decide +kernel⟩, by decide⟩
set_option maxRecDepth 100000 in
theorem vX10_alike : mm_MV YX10_alike 10 4 := ⟨(mm_in 914 rfl rfl), mm_in 912 (by decide +kernel) rfl, mm_in 913 (by decide +kernel) rfl, ini_X10, ⟨_, rfl, rfl⟩, ⟨by decide, by decide, by decide +kernel⟩, by decide⟩
set_option maxRecDepth 100000 in
theorem vX0_learn : mm_MV YX0_learn 0 1 := ⟨(mm_in 918 rfl rfl), mm_in 916 (by decide +kernel) rfl, mm_in 917 (by decide +kernel) rfl, ini_X0, ⟨_, rfl, rfl⟩, ⟨by decide, by decide, by decide +kernel⟩, by decide⟩
set_option maxRecDepth 100000 in
theorem vX5_worthOf : mm_MV YX5_worthOf 5 1 := ⟨(mm_in 924 rfl rfl), mm_in 922 (by decide +kernel) rfl, mm_in 923 (by decide +kernel) rfl, ini_X5, ⟨_, rfl, rfl⟩, ⟨by decide, by decide, by decide +kernel⟩, by decide⟩
set_option maxRecDepth 100000 in
theorem vX0_numberOfTones : mm_MV YX0_numberOfTones 0 0 := ⟨(mm_in 928 rfl rfl), mm_in 927 (by decide +kernel) rfl, mm_in 23 (by decide +kernel) rfl, ini_X0, ⟨_, rfl, rfl⟩, ⟨by decide, by decide, by decide +kernel⟩, by decide⟩
set_option maxRecDepth 100000 in
theorem vX0_isSame : mm_MV YX0_isSame 0 3 := ⟨(mm_in 932 rfl rfl), mm_in 930 (by decide +kernel) rfl, mm_in 931 (by decide +kernel) rfl, ini_X0, ⟨_, rfl, rfl⟩, ⟨by decide, by decide, by decide +kernel⟩, by decide⟩
set_option maxRecDepth 100000 in
theorem vX0_addChord : mm_MV YX0_addChord 0 0 := ⟨(mm_in 936 rfl rfl), mm_in 935 (by decide +kernel) rfl, mm_in 24 (by decide +kernel) rfl, ini_X0, ⟨_, rfl, rfl⟩, ⟨by decide, by decide, by decide +kernel⟩, by decide⟩
set_option maxRecDepth 100000 in
theorem vX0_numberOf : mm_MV YX0_numberOf 0 1 := ⟨(mm_in 940 rfl rfl), mm_in 938 (by decide +kernel) rfl, mm_in 939 (by decide +kernel) rfl, ini_X0, ⟨_, rfl, rfl⟩, ⟨by decide, by decide, by decide +kernel⟩, by decide⟩
set_option maxRecDepth 100000 in
theorem vX10_hear : mm_MV YX10_hear 10 1 := ⟨(mm_in 944 rfl rfl), mm_in 942 (by decide +kernel) rfl, mm_in 943 (by decide +kernel) rfl, ini_X10, ⟨_, rfl, rfl⟩, ⟨by decide, by decide, by decide +kernel⟩, by decide⟩
set_option maxRecDepth 100000 in
theorem vX7_addHeard : mm_MV YX7_addHeard 7 1 := ⟨(mm_in 948 rfl rfl), mm_in 946 (by decide +kernel) rfl, mm_in 947 (by decide +kernel) rfl, ini_X7, ⟨_, rfl, rfl⟩, ⟨by decide, by decide, by decide +kernel⟩, by decide⟩
set_option maxRecDepth 100000 in
theorem vX10_fits : mm_MV YX10_fits 10 4 := ⟨(mm_in 952 rfl rfl), mm_in 950 (by decide +kernel) rfl, mm_in 951 (by decide +kernel) rfl, ini_X10, ⟨_, rfl, rfl⟩, ⟨by decide, by decide, by decide +kernel⟩, by decide⟩
set_option maxRecDepth 100000 in
theorem vX2_fitting : mm_MV YX2_fitting 2 2 := ⟨(mm_in 956 rfl rfl), mm_in 954 (by decide +kernel) rfl, mm_in 955 (by decide +kernel) rfl, ini_X2, ⟨_, rfl, rfl⟩, ⟨by decide, by decide, by decide +kernel⟩, by decide⟩
set_option maxRecDepth 100000 in
theorem vX0_learnWithin : mm_MV YX0_learnWithin 0 2 := ⟨(mm_in 961 rfl rfl), mm_in 959 (by decide +kernel) rfl, mm_in 960 (by decide +kernel) rfl, ini_X0, ⟨_, rfl, rfl⟩, ⟨by decide, by decide, by decide +kernel⟩, by decide⟩
set_option maxRecDepth 100000 in
theorem sX10_nextWithin : mm_MS YX10_nextWithin 2 := ⟨(mm_in 966 rfl rfl), mm_in 965 (by decide +kernel) rfl, ini_X10, ⟨by decide, by decide, by decide +kernel⟩, by decide⟩
set_option maxRecDepth 100000 in
theorem vX0_worthOf : mm_MV YX0_worthOf 0 1 := ⟨(mm_in 972 rfl rfl), mm_in 970 (by decide +kernel) rfl, mm_in 971 (by decide +kernel) rfl, ini_X0, ⟨_, rfl, rfl⟩, ⟨by decide, by decide, by decide +kernel⟩, by decide⟩
set_option maxRecDepth 100000 in
theorem vX10_mistaken : mm_MV YX10_mistaken 10 5 := ⟨(mm_in 979 rfl rfl), mm_in 977 (by decide +kernel) rfl, mm_in 978 (by decide +kernel) rfl, ini_X10, ⟨_, rfl, rfl⟩, ⟨by decide, by decide, by decide +kernel⟩, by decide⟩
set_option maxRecDepth 100000 in
theorem vX2_mistakes : mm_MV YX2_mistakes 2 3 := ⟨(mm_in 983 rfl rfl), mm_in 981 (by decide +kernel) rfl, mm_in 982 (by decide +kernel) rfl, ini_X2, ⟨_, rfl, rfl⟩, ⟨by decide, by decide, by decide +kernel⟩, by decide⟩
set_option maxRecDepth 100000 in
theorem vX0_beginGroups : mm_MV YX0_beginGroups 0 0 := ⟨(mm_in 987 rfl rfl), mm_in 985 (by decide +kernel) rfl, mm_in 986 (by decide +kernel) rfl, ini_X0, ⟨_, rfl, rfl⟩, ⟨by decide, by decide, by decide +kernel⟩, by decide⟩
set_option maxRecDepth 100000 in
theorem vX0_leaderOf : mm_MV YX0_leaderOf 0 1 := ⟨(mm_in 991 rfl rfl), mm_in 989 (by decide +kernel) rfl, mm_in 990 (by decide +kernel) rfl, ini_X0, ⟨_, rfl, rfl⟩, ⟨by decide, by decide, by decide +kernel⟩, by decide⟩
set_option maxRecDepth 100000 in
theorem vX10_pay : mm_MV YX10_pay 10 6 := ⟨(mm_in 995 rfl rfl), mm_in 993 (by decide +kernel) rfl, mm_in 994 (by decide +kernel) rfl, ini_X10, ⟨_, rfl, rfl⟩, ⟨by decide, by decide, by decide +kernel⟩, by decide⟩
set_option maxRecDepth 100000 in
theorem vX10_canDeal : mm_MV YX10_canDeal 10 3 := ⟨(mm_in 999 rfl rfl), mm_in 998 (by decide +kernel) rfl, mm_in 25 (by decide +kernel) rfl, ini_X10, ⟨_, rfl, rfl⟩, ⟨by decide, by decide, by decide +kernel⟩, by decide⟩
set_option maxRecDepth 100000 in
theorem sX10_isPrice : mm_MS YX10_isPrice 1 := ⟨(mm_in 1002 rfl rfl), mm_in 1001 (by decide +kernel) rfl, ini_X10, ⟨by decide, by decide, by decide +kernel⟩, by decide⟩
set_option maxRecDepth 100000 in
theorem vX9_findPayment : mm_MV YX9_findPayment 9 3 := ⟨(mm_in 1006 rfl rfl), mm_in 1004 (by decide +kernel) rfl, mm_in 1005 (by decide +kernel) rfl, ini_X9, ⟨_, rfl, rfl⟩, ⟨by decide, by decide, by decide +kernel⟩, by decide⟩
set_option maxRecDepth 100000 in
theorem vX5_heldBy : mm_MV YX5_heldBy 5 1 := ⟨(mm_in 1010 rfl rfl), mm_in 1008 (by decide +kernel) rfl, mm_in 1009 (by decide +kernel) rfl, ini_X5, ⟨_, rfl, rfl⟩, ⟨by decide, by decide, by decide +kernel⟩, by decide⟩
set_option maxRecDepth 100000 in
theorem vX9_collectSafe : mm_MV YX9_collectSafe 9 2 := ⟨(mm_in 1015 rfl rfl), mm_in 1014 (by decide +kernel) rfl, mm_in 26 (by decide +kernel) rfl, ini_X9, ⟨_, rfl, rfl⟩, ⟨by decide, by decide, by decide +kernel⟩, by decide⟩
set_option maxRecDepth 100000 in
theorem vX0_putInGroup : mm_MV YX0_putInGroup 0 1 := ⟨(mm_in 1021 rfl rfl), mm_in 1019 (by decide +kernel) rfl, mm_in 1020 (by decide +kernel) rfl, ini_X0, ⟨_, rfl, rfl⟩, ⟨by decide, by decide, by decide +kernel⟩, by decide⟩
set_option maxRecDepth 100000 in
theorem vX0_isMixed : mm_MV YX0_isMixed 0 1 := ⟨(mm_in 1027 rfl rfl), mm_in 1025 (by decide +kernel) rfl, mm_in 1026 (by decide +kernel) rfl, ini_X0, ⟨_, rfl, rfl⟩, ⟨by decide, by decide, by decide +kernel⟩, by decide⟩
set_option maxRecDepth 100000 in
theorem vX9_coinsTogether : mm_MV YX9_coinsTogether 9 0 := ⟨(mm_in 1032 rfl rfl), mm_in 1030 (by decide +kernel) rfl, mm_in 1031 (by decide +kernel) rfl, ini_X9, ⟨_, rfl, rfl⟩, ⟨by decide, by decide, by decide +kernel⟩, by decide⟩
set_option maxRecDepth 100000 in
theorem vX10_done : mm_MV YX10_done 10 5 := ⟨(mm_in 1036 rfl rfl), mm_in 1034 (by decide +kernel) rfl, mm_in 1035 (by decide +kernel) rfl, ini_X10, ⟨_, rfl, rfl⟩, ⟨by decide, by decide, by decide +kernel⟩, by decide⟩
set_option maxRecDepth 100000 in
theorem vX5_hand : mm_MV YX5_hand 5 2 := ⟨(mm_in 1040 rfl rfl), mm_in 1038 (by decide +kernel) rfl, mm_in 1039 (by decide +kernel) rfl, ini_X5, ⟨_, rfl, rfl⟩, ⟨by decide, by decide, by decide +kernel⟩, by decide⟩
set_option maxRecDepth 100000 in
theorem vX10_prices : mm_MV YX10_prices 10 5 := ⟨(mm_in 1044 rfl rfl), mm_in 1042 (by decide +kernel) rfl, mm_in 1043 (by decide +kernel) rfl, ini_X10, ⟨_, rfl, rfl⟩, ⟨by decide, by decide, by decide +kernel⟩, by decide⟩
set_option maxRecDepth 100000 in
theorem vX9_payablePrices : mm_MV YX9_payablePrices 9 3 := ⟨(mm_in 1048 rfl rfl), mm_in 1046 (by decide +kernel) rfl, mm_in 1047 (by decide +kernel) rfl, ini_X9, ⟨_, rfl, rfl⟩, ⟨by decide, by decide, by decide +kernel⟩, by decide⟩
set_option maxRecDepth 100000 in
theorem vX10_bestCounter : mm_MV YX10_bestCounter 10 4 := ⟨(mm_in 1052 rfl rfl), mm_in 1050 (by decide +kernel) rfl, mm_in 1051 (by decide +kernel) rfl, ini_X10, ⟨_, rfl, rfl⟩, ⟨by decide, by decide, by decide +kernel⟩, by decide⟩
set_option maxRecDepth 100000 in
theorem vX10_payment : mm_MV YX10_payment 10 2 := ⟨(mm_in 1056 rfl rfl), mm_in 1054 (by decide +kernel) rfl, mm_in 1055 (by decide +kernel) rfl, ini_X10, ⟨_, rfl, rfl⟩, ⟨by decide, by decide, by decide +kernel⟩, by decide⟩
set_option maxRecDepth 100000 in
theorem vX10_rounds : mm_MV YX10_rounds 10 2 := ⟨(mm_in 1060 rfl rfl), mm_in 1058 (by decide +kernel) rfl, mm_in 1059 (by decide +kernel) rfl, ini_X10, ⟨_, rfl, rfl⟩, ⟨by decide, by decide, by decide +kernel⟩, by decide⟩
set_option maxRecDepth 100000 in
theorem vX2_forgetClashes : mm_MV YX2_forgetClashes 2 0 := ⟨(mm_in 1064 rfl rfl), mm_in 1062 (by decide +kernel) rfl, mm_in 1063 (by decide +kernel) rfl, ini_X2, ⟨_, rfl, rfl⟩, ⟨by decide, by decide, by decide +kernel⟩, by decide⟩
set_option maxRecDepth 100000 in
theorem vX2_findClashes : mm_MV YX2_findClashes 2 1 := ⟨(mm_in 1068 rfl rfl), mm_in 1066 (by decide +kernel) rfl, mm_in 1067 (by decide +kernel) rfl, ini_X2, ⟨_, rfl, rfl⟩, ⟨by decide, by decide, by decide +kernel⟩, by decide⟩
set_option maxRecDepth 100000 in
theorem vX2_isClash : mm_MV YX2_isClash 2 2 := ⟨(mm_in 1072 rfl rfl), mm_in 1071 (by decide +kernel) rfl, mm_in 27 (by decide +kernel) rfl, ini_X2, ⟨_, rfl, rfl⟩, ⟨by decide, by decide, by decide +kernel⟩, by decide⟩
set_option maxRecDepth 100000 in
theorem vX2_fewestRounds : mm_MV YX2_fewestRounds 2 0 := ⟨(mm_in 1076 rfl rfl), mm_in 1074 (by decide +kernel) rfl, mm_in 1075 (by decide +kernel) rfl, ini_X2, ⟨_, rfl, rfl⟩, ⟨by decide, by decide, by decide +kernel⟩, by decide⟩
set_option maxRecDepth 100000 in
theorem sJ6_numberOfLeadingZeros_0f7a4 : mm_MS YJ6_numberOfLeadingZeros_0f7a4 1 := ⟨(mm_in 1079 rfl rfl), mm_in 1078 (by decide +kernel) rfl, ini_J6, ⟨by decide, by decide, by decide +kernel⟩, by decide⟩
set_option maxRecDepth 100000 in
theorem vX2_fewestSplit : mm_MV YX2_fewestSplit 2 2 := ⟨(mm_in 1084 rfl rfl), mm_in 1083 (by decide +kernel) rfl, mm_in 28 (by decide +kernel) rfl, ini_X2, ⟨_, rfl, rfl⟩, ⟨by decide, by decide, by decide +kernel⟩, by decide⟩
set_option maxRecDepth 100000 in
theorem vX10_land : mm_MV YX10_land 10 4 := ⟨(mm_in 1088 rfl rfl), mm_in 1086 (by decide +kernel) rfl, mm_in 1087 (by decide +kernel) rfl, ini_X10, ⟨_, rfl, rfl⟩, ⟨by decide, by decide, by decide +kernel⟩, by decide⟩
set_option maxRecDepth 100000 in
theorem vX2_smallestLand : mm_MV YX2_smallestLand 2 2 := ⟨(mm_in 1092 rfl rfl), mm_in 1090 (by decide +kernel) rfl, mm_in 1091 (by decide +kernel) rfl, ini_X2, ⟨_, rfl, rfl⟩, ⟨by decide, by decide, by decide +kernel⟩, by decide⟩
set_option maxRecDepth 100000 in
theorem vX2_hasUnsoundPart : mm_MV YX2_hasUnsoundPart 2 1 := ⟨(mm_in 1096 rfl rfl), mm_in 1095 (by decide +kernel) rfl, mm_in 29 (by decide +kernel) rfl, ini_X2, ⟨_, rfl, rfl⟩, ⟨by decide, by decide, by decide +kernel⟩, by decide⟩
set_option maxRecDepth 100000 in
theorem vX2_isLand : mm_MV YX2_isLand 2 3 := ⟨(mm_in 1100 rfl rfl), mm_in 1099 (by decide +kernel) rfl, mm_in 30 (by decide +kernel) rfl, ini_X2, ⟨_, rfl, rfl⟩, ⟨by decide, by decide, by decide +kernel⟩, by decide⟩
set_option maxRecDepth 100000 in
theorem vX10_forger : mm_MV YX10_forger 10 2 := ⟨(mm_in 1104 rfl rfl), mm_in 1102 (by decide +kernel) rfl, mm_in 1103 (by decide +kernel) rfl, ini_X10, ⟨_, rfl, rfl⟩, ⟨by decide, by decide, by decide +kernel⟩, by decide⟩
set_option maxRecDepth 100000 in
theorem vX10_seed : mm_MV YX10_seed 10 1 := ⟨(mm_in 1109 rfl rfl), mm_in 1107 (by decide +kernel) rfl, mm_in 1108 (by decide +kernel) rfl, ini_X10, ⟨_, rfl, rfl⟩, ⟨by decide, by decide, by decide +kernel⟩, by decide⟩
set_option maxRecDepth 100000 in
theorem vX10_year : mm_MV YX10_year 10 2 := ⟨(mm_in 1113 rfl rfl), mm_in 1111 (by decide +kernel) rfl, mm_in 1112 (by decide +kernel) rfl, ini_X10, ⟨_, rfl, rfl⟩, ⟨by decide, by decide, by decide +kernel⟩, by decide⟩
set_option maxRecDepth 100000 in
theorem sX10_drawn : mm_MS YX10_drawn 1 := ⟨(mm_in 1117 rfl rfl), mm_in 1116 (by decide +kernel) rfl, ini_X10, ⟨by decide, by decide, by decide +kernel⟩, by decide⟩
set_option maxRecDepth 100000 in
theorem vX5_richest : mm_MV YX5_richest 5 0 := ⟨(mm_in 1125 rfl rfl), mm_in 1123 (by decide +kernel) rfl, mm_in 1124 (by decide +kernel) rfl, ini_X5, ⟨_, rfl, rfl⟩, ⟨by decide, by decide, by decide +kernel⟩, by decide⟩
set_option maxRecDepth 100000 in
theorem vX5_worthHeld : mm_MV YX5_worthHeld 5 1 := ⟨(mm_in 1129 rfl rfl), mm_in 1127 (by decide +kernel) rfl, mm_in 1128 (by decide +kernel) rfl, ini_X5, ⟨_, rfl, rfl⟩, ⟨by decide, by decide, by decide +kernel⟩, by decide⟩
set_option maxRecDepth 100000 in
theorem vX5_cracksOfAll : mm_MV YX5_cracksOfAll 5 0 := ⟨(mm_in 1136 rfl rfl), mm_in 1134 (by decide +kernel) rfl, mm_in 1135 (by decide +kernel) rfl, ini_X5, ⟨_, rfl, rfl⟩, ⟨by decide, by decide, by decide +kernel⟩, by decide⟩
set_option maxRecDepth 100000 in
theorem vX10_count : mm_MV YX10_count 10 1 := ⟨(mm_in 1141 rfl rfl), mm_in 1139 (by decide +kernel) rfl, mm_in 1140 (by decide +kernel) rfl, ini_X10, ⟨_, rfl, rfl⟩, ⟨by decide, by decide, by decide +kernel⟩, by decide⟩
set_option maxRecDepth 100000 in
theorem vX10_image : mm_MV YX10_image 10 1 := ⟨(mm_in 1146 rfl rfl), mm_in 1144 (by decide +kernel) rfl, mm_in 1145 (by decide +kernel) rfl, ini_X10, ⟨_, rfl, rfl⟩, ⟨by decide, by decide, by decide +kernel⟩, by decide⟩
set_option maxRecDepth 100000 in
theorem vX7_copyFrom : mm_MV YX7_copyFrom 7 1 := ⟨(mm_in 1150 rfl rfl), mm_in 1148 (by decide +kernel) rfl, mm_in 1149 (by decide +kernel) rfl, ini_X7, ⟨_, rfl, rfl⟩, ⟨by decide, by decide, by decide +kernel⟩, by decide⟩
set_option maxRecDepth 100000 in
theorem vX10_back : mm_MV YX10_back 10 1 := ⟨(mm_in 1155 rfl rfl), mm_in 1153 (by decide +kernel) rfl, mm_in 1154 (by decide +kernel) rfl, ini_X10, ⟨_, rfl, rfl⟩, ⟨by decide, by decide, by decide +kernel⟩, by decide⟩
set_option maxRecDepth 100000 in
theorem vX11_feed : mm_MV YX11_feed 11 5 := ⟨(mm_in 1370 rfl rfl), mm_in 1368 (by decide +kernel) rfl, mm_in 1369 (by decide +kernel) rfl, ini_X11, ⟨_, rfl, rfl⟩, ⟨by decide, by decide, by decide +kernel⟩, by decide⟩
set_option maxRecDepth 100000 in
theorem vX11_put : mm_MV YX11_put 11 1 := ⟨(mm_in 1374 rfl rfl), mm_in 1373 (by decide +kernel) rfl, mm_in 31 (by decide +kernel) rfl, ini_X11, ⟨_, rfl, rfl⟩, ⟨by decide, by decide, by decide +kernel⟩, by decide⟩
set_option maxRecDepth 100000 in
theorem vX11_end : mm_MV YX11_end 11 1 := ⟨(mm_in 1378 rfl rfl), mm_in 1376 (by decide +kernel) rfl, mm_in 1377 (by decide +kernel) rfl, ini_X11, ⟨_, rfl, rfl⟩, ⟨by decide, by decide, by decide +kernel⟩, by decide⟩
set_option maxRecDepth 100000 in
theorem vX11_mint : mm_MV YX11_mint 11 0 := ⟨(mm_in 1382 rfl rfl), mm_in 1380 (by decide +kernel) rfl, mm_in 1381 (by decide +kernel) rfl, ini_X11, ⟨_, rfl, rfl⟩, ⟨by decide, by decide, by decide +kernel⟩, by decide⟩
set_option maxRecDepth 100000 in
theorem vX11_starts : mm_MV YX11_starts 11 0 := ⟨(mm_in 1386 rfl rfl), mm_in 1385 (by decide +kernel) rfl, mm_in 32 (by decide +kernel) rfl, ini_X11, ⟨_, rfl, rfl⟩, ⟨by decide, by decide, by decide +kernel⟩, by decide⟩
set_option maxRecDepth 100000 in
theorem vX11_mintClause : mm_MV YX11_mintClause 11 1 := ⟨(mm_in 1390 rfl rfl), mm_in 1389 (by decide +kernel) rfl, mm_in 33 (by decide +kernel) rfl, ini_X11, ⟨_, rfl, rfl⟩, ⟨by decide, by decide, by decide +kernel⟩, by decide⟩
set_option maxRecDepth 100000 in
theorem vX11_blanks : mm_MV YX11_blanks 11 0 := ⟨(mm_in 1394 rfl rfl), mm_in 1393 (by decide +kernel) rfl, mm_in 34 (by decide +kernel) rfl, ini_X11, ⟨_, rfl, rfl⟩, ⟨by decide, by decide, by decide +kernel⟩, by decide⟩
set_option maxRecDepth 100000 in
theorem vX11_sign : mm_MV YX11_sign 11 0 := ⟨(mm_in 1398 rfl rfl), mm_in 1397 (by decide +kernel) rfl, mm_in 35 (by decide +kernel) rfl, ini_X11, ⟨_, rfl, rfl⟩, ⟨by decide, by decide, by decide +kernel⟩, by decide⟩
set_option maxRecDepth 100000 in
theorem sX11_mintWord : mm_MS YX11_mintWord 1 := ⟨(mm_in 1401 rfl rfl), mm_in 1400 (by decide +kernel) rfl, ini_X11, ⟨by decide, by decide, by decide +kernel⟩, by decide⟩
set_option maxRecDepth 100000 in
theorem vX11_stood : mm_MV YX11_stood 11 1 := ⟨(mm_in 1409 rfl rfl), mm_in 1408 (by decide +kernel) rfl, mm_in 36 (by decide +kernel) rfl, ini_X11, ⟨_, rfl, rfl⟩, ⟨by decide, by decide, by decide +kernel⟩, by decide⟩
set_option maxRecDepth 100000 in
theorem vX11_fails : mm_MV YX11_fails 11 2 := ⟨(mm_in 1415 rfl rfl), mm_in 1414 (by decide +kernel) rfl, mm_in 37 (by decide +kernel) rfl, ini_X11, ⟨_, rfl, rfl⟩, ⟨by decide, by decide, by decide +kernel⟩, by decide⟩
set_option maxRecDepth 100000 in
theorem vX11_isFull : mm_MV YX11_isFull 11 2 := ⟨(mm_in 1419 rfl rfl), mm_in 1418 (by decide +kernel) rfl, mm_in 38 (by decide +kernel) rfl, ini_X11, ⟨_, rfl, rfl⟩, ⟨by decide, by decide, by decide +kernel⟩, by decide⟩
set_option maxRecDepth 100000 in
theorem vX11_mintPart : mm_MV YX11_mintPart 11 1 := ⟨(mm_in 1423 rfl rfl), mm_in 1422 (by decide +kernel) rfl, mm_in 39 (by decide +kernel) rfl, ini_X11, ⟨_, rfl, rfl⟩, ⟨by decide, by decide, by decide +kernel⟩, by decide⟩
set_option maxRecDepth 100000 in
theorem vX11_amount : mm_MV YX11_amount 11 2 := ⟨(mm_in 1427 rfl rfl), mm_in 1426 (by decide +kernel) rfl, mm_in 40 (by decide +kernel) rfl, ini_X11, ⟨_, rfl, rfl⟩, ⟨by decide, by decide, by decide +kernel⟩, by decide⟩
set_option maxRecDepth 100000 in
theorem vX11_digits : mm_MV YX11_digits 11 1 := ⟨(mm_in 1432 rfl rfl), mm_in 1431 (by decide +kernel) rfl, mm_in 41 (by decide +kernel) rfl, ini_X11, ⟨_, rfl, rfl⟩, ⟨by decide, by decide, by decide +kernel⟩, by decide⟩
set_option maxRecDepth 100000 in
theorem vX11_isDigit : mm_MV YX11_isDigit 11 0 := ⟨(mm_in 1436 rfl rfl), mm_in 1435 (by decide +kernel) rfl, mm_in 42 (by decide +kernel) rfl, ini_X11, ⟨_, rfl, rfl⟩, ⟨by decide, by decide, by decide +kernel⟩, by decide⟩
set_option maxRecDepth 100000 in
theorem sX11_in : mm_MS YX11_in 3 := ⟨(mm_in 1441 rfl rfl), mm_in 1440 (by decide +kernel) rfl, ini_X11, ⟨by decide, by decide, by decide +kernel⟩, by decide⟩
set_option maxRecDepth 100000 in
theorem vX11_goesOn : mm_MV YX11_goesOn 11 0 := ⟨(mm_in 1445 rfl rfl), mm_in 1444 (by decide +kernel) rfl, mm_in 43 (by decide +kernel) rfl, ini_X11, ⟨_, rfl, rfl⟩, ⟨by decide, by decide, by decide +kernel⟩, by decide⟩
set_option maxRecDepth 100000 in
theorem sX11_lay : mm_MS YX11_lay 2 := ⟨(mm_in 1448 rfl rfl), mm_in 1447 (by decide +kernel) rfl, ini_X11, ⟨by decide, by decide, by decide +kernel⟩, by decide⟩
set_option maxRecDepth 100000 in
theorem vX11_law : mm_MV YX11_law 11 0 := ⟨(mm_in 1452 rfl rfl), mm_in 1450 (by decide +kernel) rfl, mm_in 1451 (by decide +kernel) rfl, ini_X11, ⟨_, rfl, rfl⟩, ⟨by decide, by decide, by decide +kernel⟩, by decide⟩
set_option maxRecDepth 100000 in
theorem vX11_lawClause : mm_MV YX11_lawClause 11 1 := ⟨(mm_in 1456 rfl rfl), mm_in 1455 (by decide +kernel) rfl, mm_in 44 (by decide +kernel) rfl, ini_X11, ⟨_, rfl, rfl⟩, ⟨by decide, by decide, by decide +kernel⟩, by decide⟩
set_option maxRecDepth 100000 in
theorem vX11_sum : mm_MV YX11_sum 11 0 := ⟨(mm_in 1462 rfl rfl), mm_in 1461 (by decide +kernel) rfl, mm_in 45 (by decide +kernel) rfl, ini_X11, ⟨_, rfl, rfl⟩, ⟨by decide, by decide, by decide +kernel⟩, by decide⟩
set_option maxRecDepth 100000 in
theorem vX11_term : mm_MV YX11_term 11 0 := ⟨(mm_in 1466 rfl rfl), mm_in 1465 (by decide +kernel) rfl, mm_in 46 (by decide +kernel) rfl, ini_X11, ⟨_, rfl, rfl⟩, ⟨by decide, by decide, by decide +kernel⟩, by decide⟩
set_option maxRecDepth 100000 in
theorem vX11_value : mm_MV YX11_value 11 0 := ⟨(mm_in 1470 rfl rfl), mm_in 1469 (by decide +kernel) rfl, mm_in 47 (by decide +kernel) rfl, ini_X11, ⟨_, rfl, rfl⟩, ⟨by decide, by decide, by decide +kernel⟩, by decide⟩
set_option maxRecDepth 100000 in
theorem vX11_isCounted : mm_MV YX11_isCounted 11 1 := ⟨(mm_in 1474 rfl rfl), mm_in 1473 (by decide +kernel) rfl, mm_in 48 (by decide +kernel) rfl, ini_X11, ⟨_, rfl, rfl⟩, ⟨by decide, by decide, by decide +kernel⟩, by decide⟩
set_option maxRecDepth 100000 in
theorem vX11_entry : mm_MV YX11_entry 11 2 := ⟨(mm_in 1478 rfl rfl), mm_in 1477 (by decide +kernel) rfl, mm_in 49 (by decide +kernel) rfl, ini_X11, ⟨_, rfl, rfl⟩, ⟨by decide, by decide, by decide +kernel⟩, by decide⟩
set_option maxRecDepth 100000 in
theorem sX11_wordOf : mm_MS YX11_wordOf 1 := ⟨(mm_in 1481 rfl rfl), mm_in 1480 (by decide +kernel) rfl, ini_X11, ⟨by decide, by decide, by decide +kernel⟩, by decide⟩
set_option maxRecDepth 100000 in
theorem vX11_takes : mm_MV YX11_takes 11 1 := ⟨(mm_in 1493 rfl rfl), mm_in 1492 (by decide +kernel) rfl, mm_in 50 (by decide +kernel) rfl, ini_X11, ⟨_, rfl, rfl⟩, ⟨by decide, by decide, by decide +kernel⟩, by decide⟩
set_option maxRecDepth 100000 in
theorem vX11_test : mm_MV YX11_test 11 0 := ⟨(mm_in 1497 rfl rfl), mm_in 1496 (by decide +kernel) rfl, mm_in 51 (by decide +kernel) rfl, ini_X11, ⟨_, rfl, rfl⟩, ⟨by decide, by decide, by decide +kernel⟩, by decide⟩
set_option maxRecDepth 100000 in
theorem vX11_fact : mm_MV YX11_fact 11 0 := ⟨(mm_in 1501 rfl rfl), mm_in 1500 (by decide +kernel) rfl, mm_in 52 (by decide +kernel) rfl, ini_X11, ⟨_, rfl, rfl⟩, ⟨by decide, by decide, by decide +kernel⟩, by decide⟩
set_option maxRecDepth 100000 in
theorem vX11_opens : mm_MV YX11_opens 11 1 := ⟨(mm_in 1506 rfl rfl), mm_in 1505 (by decide +kernel) rfl, mm_in 53 (by decide +kernel) rfl, ini_X11, ⟨_, rfl, rfl⟩, ⟨by decide, by decide, by decide +kernel⟩, by decide⟩
set_option maxRecDepth 100000 in
theorem vX11_compared : mm_MV YX11_compared 11 0 := ⟨(mm_in 1510 rfl rfl), mm_in 1509 (by decide +kernel) rfl, mm_in 54 (by decide +kernel) rfl, ini_X11, ⟨_, rfl, rfl⟩, ⟨by decide, by decide, by decide +kernel⟩, by decide⟩
set_option maxRecDepth 100000 in
theorem vX11_answers : mm_MV YX11_answers 11 1 := ⟨(mm_in 1514 rfl rfl), mm_in 1513 (by decide +kernel) rfl, mm_in 55 (by decide +kernel) rfl, ini_X11, ⟨_, rfl, rfl⟩, ⟨by decide, by decide, by decide +kernel⟩, by decide⟩
set_option maxRecDepth 100000 in
theorem vX11_top : mm_MV YX11_top 11 0 := ⟨(mm_in 1518 rfl rfl), mm_in 1517 (by decide +kernel) rfl, mm_in 56 (by decide +kernel) rfl, ini_X11, ⟨_, rfl, rfl⟩, ⟨by decide, by decide, by decide +kernel⟩, by decide⟩
set_option maxRecDepth 100000 in
theorem vX11_coin : mm_MV YX11_coin 11 2 := ⟨(mm_in 1524 rfl rfl), mm_in 1522 (by decide +kernel) rfl, mm_in 1523 (by decide +kernel) rfl, ini_X11, ⟨_, rfl, rfl⟩, ⟨by decide, by decide, by decide +kernel⟩, by decide⟩
set_option maxRecDepth 100000 in
theorem vX11_isCoin : mm_MV YX11_isCoin 11 1 := ⟨(mm_in 1528 rfl rfl), mm_in 1527 (by decide +kernel) rfl, mm_in 57 (by decide +kernel) rfl, ini_X11, ⟨_, rfl, rfl⟩, ⟨by decide, by decide, by decide +kernel⟩, by decide⟩
set_option maxRecDepth 100000 in
theorem vX11_cracks : mm_MV YX11_cracks 11 1 := ⟨(mm_in 1532 rfl rfl), mm_in 1531 (by decide +kernel) rfl, mm_in 58 (by decide +kernel) rfl, ini_X11, ⟨_, rfl, rfl⟩, ⟨by decide, by decide, by decide +kernel⟩, by decide⟩
set_option maxRecDepth 100000 in
theorem vX11_counter : mm_MV YX11_counter 11 2 := ⟨(mm_in 1536 rfl rfl), mm_in 1534 (by decide +kernel) rfl, mm_in 1535 (by decide +kernel) rfl, ini_X11, ⟨_, rfl, rfl⟩, ⟨by decide, by decide, by decide +kernel⟩, by decide⟩
set_option maxRecDepth 100000 in
theorem vX11_isCounter : mm_MV YX11_isCounter 11 1 := ⟨(mm_in 1540 rfl rfl), mm_in 1539 (by decide +kernel) rfl, mm_in 59 (by decide +kernel) rfl, ini_X11, ⟨_, rfl, rfl⟩, ⟨by decide, by decide, by decide +kernel⟩, by decide⟩
set_option maxRecDepth 100000 in
theorem vX11_give : mm_MV YX11_give 11 2 := ⟨(mm_in 1544 rfl rfl), mm_in 1542 (by decide +kernel) rfl, mm_in 1543 (by decide +kernel) rfl, ini_X11, ⟨_, rfl, rfl⟩, ⟨by decide, by decide, by decide +kernel⟩, by decide⟩
set_option maxRecDepth 100000 in
theorem sX11_isPerson : mm_MS YX11_isPerson 1 := ⟨(mm_in 1547 rfl rfl), mm_in 1546 (by decide +kernel) rfl, ini_X11, ⟨by decide, by decide, by decide +kernel⟩, by decide⟩
set_option maxRecDepth 100000 in
theorem vX11_retune : mm_MV YX11_retune 11 2 := ⟨(mm_in 1552 rfl rfl), mm_in 1550 (by decide +kernel) rfl, mm_in 1551 (by decide +kernel) rfl, ini_X11, ⟨_, rfl, rfl⟩, ⟨by decide, by decide, by decide +kernel⟩, by decide⟩
set_option maxRecDepth 100000 in
theorem vX11_fall : mm_MV YX11_fall 11 1 := ⟨(mm_in 1557 rfl rfl), mm_in 1555 (by decide +kernel) rfl, mm_in 1556 (by decide +kernel) rfl, ini_X11, ⟨_, rfl, rfl⟩, ⟨by decide, by decide, by decide +kernel⟩, by decide⟩
set_option maxRecDepth 100000 in
theorem vX11_isSet : mm_MV YX11_isSet 11 1 := ⟨(mm_in 1561 rfl rfl), mm_in 1560 (by decide +kernel) rfl, mm_in 60 (by decide +kernel) rfl, ini_X11, ⟨_, rfl, rfl⟩, ⟨by decide, by decide, by decide +kernel⟩, by decide⟩
set_option maxRecDepth 100000 in
theorem vX11_canFall : mm_MV YX11_canFall 11 1 := ⟨(mm_in 1565 rfl rfl), mm_in 1564 (by decide +kernel) rfl, mm_in 61 (by decide +kernel) rfl, ini_X11, ⟨_, rfl, rfl⟩, ⟨by decide, by decide, by decide +kernel⟩, by decide⟩
set_option maxRecDepth 100000 in
theorem sX11_has : mm_MS YX11_has 2 := ⟨(mm_in 1568 rfl rfl), mm_in 1567 (by decide +kernel) rfl, ini_X11, ⟨by decide, by decide, by decide +kernel⟩, by decide⟩
set_option maxRecDepth 100000 in
theorem vX11_fallen : mm_MV YX11_fallen 11 1 := ⟨(mm_in 1572 rfl rfl), mm_in 1571 (by decide +kernel) rfl, mm_in 62 (by decide +kernel) rfl, ini_X11, ⟨_, rfl, rfl⟩, ⟨by decide, by decide, by decide +kernel⟩, by decide⟩
set_option maxRecDepth 100000 in
theorem sX11_bits : mm_MS YX11_bits 1 := ⟨(mm_in 1575 rfl rfl), mm_in 1574 (by decide +kernel) rfl, ini_X11, ⟨by decide, by decide, by decide +kernel⟩, by decide⟩
set_option maxRecDepth 100000 in
theorem vX11_sounds : mm_MV YX11_sounds 11 5 := ⟨(mm_in 1579 rfl rfl), mm_in 1577 (by decide +kernel) rfl, mm_in 1578 (by decide +kernel) rfl, ini_X11, ⟨_, rfl, rfl⟩, ⟨by decide, by decide, by decide +kernel⟩, by decide⟩
set_option maxRecDepth 100000 in
theorem vX11_isAsked : mm_MV YX11_isAsked 11 3 := ⟨(mm_in 1583 rfl rfl), mm_in 1582 (by decide +kernel) rfl, mm_in 63 (by decide +kernel) rfl, ini_X11, ⟨_, rfl, rfl⟩, ⟨by decide, by decide, by decide +kernel⟩, by decide⟩
set_option maxRecDepth 100000 in
theorem vX11_isLaw : mm_MV YX11_isLaw 11 1 := ⟨(mm_in 1587 rfl rfl), mm_in 1586 (by decide +kernel) rfl, mm_in 64 (by decide +kernel) rfl, ini_X11, ⟨_, rfl, rfl⟩, ⟨by decide, by decide, by decide +kernel⟩, by decide⟩
set_option maxRecDepth 100000 in
theorem vX11_asks : mm_MV YX11_asks 11 3 := ⟨(mm_in 1591 rfl rfl), mm_in 1590 (by decide +kernel) rfl, mm_in 65 (by decide +kernel) rfl, ini_X11, ⟨_, rfl, rfl⟩, ⟨by decide, by decide, by decide +kernel⟩, by decide⟩
set_option maxRecDepth 100000 in
theorem vX11_loudest : mm_MV YX11_loudest 11 1 := ⟨(mm_in 1595 rfl rfl), mm_in 1594 (by decide +kernel) rfl, mm_in 66 (by decide +kernel) rfl, ini_X11, ⟨_, rfl, rfl⟩, ⟨by decide, by decide, by decide +kernel⟩, by decide⟩
set_option maxRecDepth 100000 in
theorem vX11_noteNow : mm_MV YX11_noteNow 11 1 := ⟨(mm_in 1599 rfl rfl), mm_in 1598 (by decide +kernel) rfl, mm_in 67 (by decide +kernel) rfl, ini_X11, ⟨_, rfl, rfl⟩, ⟨by decide, by decide, by decide +kernel⟩, by decide⟩
set_option maxRecDepth 100000 in
theorem vX11_sound : mm_MV YX11_sound 11 2 := ⟨(mm_in 1603 rfl rfl), mm_in 1602 (by decide +kernel) rfl, mm_in 68 (by decide +kernel) rfl, ini_X11, ⟨_, rfl, rfl⟩, ⟨by decide, by decide, by decide +kernel⟩, by decide⟩
set_option maxRecDepth 100000 in
theorem vX11_answer : mm_MV YX11_answer 11 3 := ⟨(mm_in 1607 rfl rfl), mm_in 1606 (by decide +kernel) rfl, mm_in 69 (by decide +kernel) rfl, ini_X11, ⟨_, rfl, rfl⟩, ⟨by decide, by decide, by decide +kernel⟩, by decide⟩
set_option maxRecDepth 100000 in
theorem sX11_both : mm_MS YX11_both 3 := ⟨(mm_in 1610 rfl rfl), mm_in 1609 (by decide +kernel) rfl, ini_X11, ⟨by decide, by decide, by decide +kernel⟩, by decide⟩
set_option maxRecDepth 100000 in
theorem sX11_truth : mm_MS YX11_truth 1 := ⟨(mm_in 1613 rfl rfl), mm_in 1612 (by decide +kernel) rfl, ini_X11, ⟨by decide, by decide, by decide +kernel⟩, by decide⟩
set_option maxRecDepth 100000 in
theorem sX11_held : mm_MS YX11_held 3 := ⟨(mm_in 1618 rfl rfl), mm_in 1617 (by decide +kernel) rfl, ini_X11, ⟨by decide, by decide, by decide +kernel⟩, by decide⟩
set_option maxRecDepth 100000 in
theorem vX11_strengthNow : mm_MV YX11_strengthNow 11 1 := ⟨(mm_in 1622 rfl rfl), mm_in 1621 (by decide +kernel) rfl, mm_in 70 (by decide +kernel) rfl, ini_X11, ⟨_, rfl, rfl⟩, ⟨by decide, by decide, by decide +kernel⟩, by decide⟩
set_option maxRecDepth 100000 in
theorem vX11_tone : mm_MV YX11_tone 11 5 := ⟨(mm_in 1626 rfl rfl), mm_in 1624 (by decide +kernel) rfl, mm_in 1625 (by decide +kernel) rfl, ini_X11, ⟨_, rfl, rfl⟩, ⟨by decide, by decide, by decide +kernel⟩, by decide⟩
set_option maxRecDepth 100000 in
theorem vX11_sings : mm_MV YX11_sings 11 3 := ⟨(mm_in 1631 rfl rfl), mm_in 1630 (by decide +kernel) rfl, mm_in 71 (by decide +kernel) rfl, ini_X11, ⟨_, rfl, rfl⟩, ⟨by decide, by decide, by decide +kernel⟩, by decide⟩
set_option maxRecDepth 100000 in
theorem vX11_tones0 : mm_MV YX11_tones0 11 1 := ⟨(mm_in 1635 rfl rfl), mm_in 1634 (by decide +kernel) rfl, mm_in 72 (by decide +kernel) rfl, ini_X11, ⟨_, rfl, rfl⟩, ⟨by decide, by decide, by decide +kernel⟩, by decide⟩
set_option maxRecDepth 100000 in
theorem vX11_tones : mm_MV YX11_tones 11 3 := ⟨(mm_in 1639 rfl rfl), mm_in 1637 (by decide +kernel) rfl, mm_in 1638 (by decide +kernel) rfl, ini_X11, ⟨_, rfl, rfl⟩, ⟨by decide, by decide, by decide +kernel⟩, by decide⟩
set_option maxRecDepth 100000 in
theorem vX11_alike : mm_MV YX11_alike 11 4 := ⟨(mm_in 1643 rfl rfl), mm_in 1641 (by decide +kernel) rfl, mm_in 1642 (by decide +kernel) rfl, ini_X11, ⟨_, rfl, rfl⟩, ⟨by decide, by decide, by decide +kernel⟩, by decide⟩
set_option maxRecDepth 100000 in
theorem vX11_keepsChord : mm_MV YX11_keepsChord 11 3 := ⟨(mm_in 1647 rfl rfl), mm_in 1646 (by decide +kernel) rfl, mm_in 73 (by decide +kernel) rfl, ini_X11, ⟨_, rfl, rfl⟩, ⟨by decide, by decide, by decide +kernel⟩, by decide⟩
set_option maxRecDepth 100000 in
theorem vX11_areAlike : mm_MV YX11_areAlike 11 2 := ⟨(mm_in 1652 rfl rfl), mm_in 1651 (by decide +kernel) rfl, mm_in 74 (by decide +kernel) rfl, ini_X11, ⟨_, rfl, rfl⟩, ⟨by decide, by decide, by decide +kernel⟩, by decide⟩
set_option maxRecDepth 100000 in
theorem vX11_hear : mm_MV YX11_hear 11 1 := ⟨(mm_in 1656 rfl rfl), mm_in 1654 (by decide +kernel) rfl, mm_in 1655 (by decide +kernel) rfl, ini_X11, ⟨_, rfl, rfl⟩, ⟨by decide, by decide, by decide +kernel⟩, by decide⟩
set_option maxRecDepth 100000 in
theorem vX11_fits : mm_MV YX11_fits 11 4 := ⟨(mm_in 1660 rfl rfl), mm_in 1658 (by decide +kernel) rfl, mm_in 1659 (by decide +kernel) rfl, ini_X11, ⟨_, rfl, rfl⟩, ⟨by decide, by decide, by decide +kernel⟩, by decide⟩
set_option maxRecDepth 100000 in
theorem vX11_isHeard : mm_MV YX11_isHeard 11 0 := ⟨(mm_in 1665 rfl rfl), mm_in 1664 (by decide +kernel) rfl, mm_in 75 (by decide +kernel) rfl, ini_X11, ⟨_, rfl, rfl⟩, ⟨by decide, by decide, by decide +kernel⟩, by decide⟩
set_option maxRecDepth 100000 in
theorem vX11_worthOf : mm_MV YX11_worthOf 11 1 := ⟨(mm_in 1669 rfl rfl), mm_in 1668 (by decide +kernel) rfl, mm_in 76 (by decide +kernel) rfl, ini_X11, ⟨_, rfl, rfl⟩, ⟨by decide, by decide, by decide +kernel⟩, by decide⟩
set_option maxRecDepth 100000 in
theorem vX11_mistaken : mm_MV YX11_mistaken 11 5 := ⟨(mm_in 1673 rfl rfl), mm_in 1671 (by decide +kernel) rfl, mm_in 1672 (by decide +kernel) rfl, ini_X11, ⟨_, rfl, rfl⟩, ⟨by decide, by decide, by decide +kernel⟩, by decide⟩
set_option maxRecDepth 100000 in
theorem vX11_keepsAll : mm_MV YX11_keepsAll 11 4 := ⟨(mm_in 1678 rfl rfl), mm_in 1677 (by decide +kernel) rfl, mm_in 77 (by decide +kernel) rfl, ini_X11, ⟨_, rfl, rfl⟩, ⟨by decide, by decide, by decide +kernel⟩, by decide⟩
set_option maxRecDepth 100000 in
theorem vX11_mistakenFor : mm_MV YX11_mistakenFor 11 3 := ⟨(mm_in 1682 rfl rfl), mm_in 1681 (by decide +kernel) rfl, mm_in 78 (by decide +kernel) rfl, ini_X11, ⟨_, rfl, rfl⟩, ⟨by decide, by decide, by decide +kernel⟩, by decide⟩
set_option maxRecDepth 100000 in
theorem vX11_pay : mm_MV YX11_pay 11 6 := ⟨(mm_in 1686 rfl rfl), mm_in 1684 (by decide +kernel) rfl, mm_in 1685 (by decide +kernel) rfl, ini_X11, ⟨_, rfl, rfl⟩, ⟨by decide, by decide, by decide +kernel⟩, by decide⟩
set_option maxRecDepth 100000 in
theorem vX11_isPay : mm_MV YX11_isPay 11 4 := ⟨(mm_in 1690 rfl rfl), mm_in 1689 (by decide +kernel) rfl, mm_in 79 (by decide +kernel) rfl, ini_X11, ⟨_, rfl, rfl⟩, ⟨by decide, by decide, by decide +kernel⟩, by decide⟩
set_option maxRecDepth 100000 in
theorem vX11_pays : mm_MV YX11_pays 11 5 := ⟨(mm_in 1694 rfl rfl), mm_in 1693 (by decide +kernel) rfl, mm_in 80 (by decide +kernel) rfl, ini_X11, ⟨_, rfl, rfl⟩, ⟨by decide, by decide, by decide +kernel⟩, by decide⟩
set_option maxRecDepth 100000 in
theorem vX11_heldBy : mm_MV YX11_heldBy 11 1 := ⟨(mm_in 1698 rfl rfl), mm_in 1697 (by decide +kernel) rfl, mm_in 81 (by decide +kernel) rfl, ini_X11, ⟨_, rfl, rfl⟩, ⟨by decide, by decide, by decide +kernel⟩, by decide⟩
set_option maxRecDepth 100000 in
theorem vX11_findsSafe : mm_MV YX11_findsSafe 11 1 := ⟨(mm_in 1702 rfl rfl), mm_in 1701 (by decide +kernel) rfl, mm_in 82 (by decide +kernel) rfl, ini_X11, ⟨_, rfl, rfl⟩, ⟨by decide, by decide, by decide +kernel⟩, by decide⟩
set_option maxRecDepth 100000 in
theorem vX11_done : mm_MV YX11_done 11 5 := ⟨(mm_in 1707 rfl rfl), mm_in 1705 (by decide +kernel) rfl, mm_in 1706 (by decide +kernel) rfl, ini_X11, ⟨_, rfl, rfl⟩, ⟨by decide, by decide, by decide +kernel⟩, by decide⟩
set_option maxRecDepth 100000 in
theorem vX11_prices : mm_MV YX11_prices 11 5 := ⟨(mm_in 1711 rfl rfl), mm_in 1709 (by decide +kernel) rfl, mm_in 1710 (by decide +kernel) rfl, ini_X11, ⟨_, rfl, rfl⟩, ⟨by decide, by decide, by decide +kernel⟩, by decide⟩
set_option maxRecDepth 100000 in
theorem vX11_manyPrices : mm_MV YX11_manyPrices 11 5 := ⟨(mm_in 1716 rfl rfl), mm_in 1715 (by decide +kernel) rfl, mm_in 83 (by decide +kernel) rfl, ini_X11, ⟨_, rfl, rfl⟩, ⟨by decide, by decide, by decide +kernel⟩, by decide⟩
set_option maxRecDepth 100000 in
theorem vX11_bestCounter : mm_MV YX11_bestCounter 11 4 := ⟨(mm_in 1720 rfl rfl), mm_in 1718 (by decide +kernel) rfl, mm_in 1719 (by decide +kernel) rfl, ini_X11, ⟨_, rfl, rfl⟩, ⟨by decide, by decide, by decide +kernel⟩, by decide⟩
set_option maxRecDepth 100000 in
theorem vX11_payment : mm_MV YX11_payment 11 2 := ⟨(mm_in 1724 rfl rfl), mm_in 1722 (by decide +kernel) rfl, mm_in 1723 (by decide +kernel) rfl, ini_X11, ⟨_, rfl, rfl⟩, ⟨by decide, by decide, by decide +kernel⟩, by decide⟩
set_option maxRecDepth 100000 in
theorem vX11_rounds : mm_MV YX11_rounds 11 2 := ⟨(mm_in 1728 rfl rfl), mm_in 1726 (by decide +kernel) rfl, mm_in 1727 (by decide +kernel) rfl, ini_X11, ⟨_, rfl, rfl⟩, ⟨by decide, by decide, by decide +kernel⟩, by decide⟩
set_option maxRecDepth 100000 in
theorem vX11_isClash : mm_MV YX11_isClash 11 3 := ⟨(mm_in 1732 rfl rfl), mm_in 1731 (by decide +kernel) rfl, mm_in 84 (by decide +kernel) rfl, ini_X11, ⟨_, rfl, rfl⟩, ⟨by decide, by decide, by decide +kernel⟩, by decide⟩
set_option maxRecDepth 100000 in
theorem vX11_isQuiet : mm_MV YX11_isQuiet 11 1 := ⟨(mm_in 1736 rfl rfl), mm_in 1735 (by decide +kernel) rfl, mm_in 85 (by decide +kernel) rfl, ini_X11, ⟨_, rfl, rfl⟩, ⟨by decide, by decide, by decide +kernel⟩, by decide⟩
set_option maxRecDepth 100000 in
theorem vX11_land : mm_MV YX11_land 11 4 := ⟨(mm_in 1740 rfl rfl), mm_in 1738 (by decide +kernel) rfl, mm_in 1739 (by decide +kernel) rfl, ini_X11, ⟨_, rfl, rfl⟩, ⟨by decide, by decide, by decide +kernel⟩, by decide⟩
set_option maxRecDepth 100000 in
theorem vX11_findsBad : mm_MV YX11_findsBad 11 2 := ⟨(mm_in 1745 rfl rfl), mm_in 1744 (by decide +kernel) rfl, mm_in 86 (by decide +kernel) rfl, ini_X11, ⟨_, rfl, rfl⟩, ⟨by decide, by decide, by decide +kernel⟩, by decide⟩
set_option maxRecDepth 100000 in
theorem vX11_hasPrices : mm_MV YX11_hasPrices 11 3 := ⟨(mm_in 1749 rfl rfl), mm_in 1748 (by decide +kernel) rfl, mm_in 87 (by decide +kernel) rfl, ini_X11, ⟨_, rfl, rfl⟩, ⟨by decide, by decide, by decide +kernel⟩, by decide⟩
set_option maxRecDepth 100000 in
theorem vX11_forger : mm_MV YX11_forger 11 2 := ⟨(mm_in 1753 rfl rfl), mm_in 1751 (by decide +kernel) rfl, mm_in 1752 (by decide +kernel) rfl, ini_X11, ⟨_, rfl, rfl⟩, ⟨by decide, by decide, by decide +kernel⟩, by decide⟩
set_option maxRecDepth 100000 in
theorem vX11_seed : mm_MV YX11_seed 11 1 := ⟨(mm_in 1757 rfl rfl), mm_in 1755 (by decide +kernel) rfl, mm_in 1756 (by decide +kernel) rfl, ini_X11, ⟨_, rfl, rfl⟩, ⟨by decide, by decide, by decide +kernel⟩, by decide⟩
set_option maxRecDepth 100000 in
theorem vX11_year : mm_MV YX11_year 11 2 := ⟨(mm_in 1761 rfl rfl), mm_in 1759 (by decide +kernel) rfl, mm_in 1760 (by decide +kernel) rfl, ini_X11, ⟨_, rfl, rfl⟩, ⟨by decide, by decide, by decide +kernel⟩, by decide⟩
set_option maxRecDepth 100000 in
theorem vX11_draws : mm_MV YX11_draws 11 1 := ⟨(mm_in 1766 rfl rfl), mm_in 1765 (by decide +kernel) rfl, mm_in 88 (by decide +kernel) rfl, ini_X11, ⟨_, rfl, rfl⟩, ⟨by decide, by decide, by decide +kernel⟩, by decide⟩
set_option maxRecDepth 100000 in
theorem vX11_count : mm_MV YX11_count 11 1 := ⟨(mm_in 1774 rfl rfl), mm_in 1772 (by decide +kernel) rfl, mm_in 1773 (by decide +kernel) rfl, ini_X11, ⟨_, rfl, rfl⟩, ⟨by decide, by decide, by decide +kernel⟩, by decide⟩
set_option maxRecDepth 100000 in
theorem vX11_image : mm_MV YX11_image 11 1 := ⟨(mm_in 1780 rfl rfl), mm_in 1778 (by decide +kernel) rfl, mm_in 1779 (by decide +kernel) rfl, ini_X11, ⟨_, rfl, rfl⟩, ⟨by decide, by decide, by decide +kernel⟩, by decide⟩
set_option maxRecDepth 100000 in
theorem vX11_carriesAll : mm_MV YX11_carriesAll 11 2 := ⟨(mm_in 1785 rfl rfl), mm_in 1784 (by decide +kernel) rfl, mm_in 89 (by decide +kernel) rfl, ini_X11, ⟨_, rfl, rfl⟩, ⟨by decide, by decide, by decide +kernel⟩, by decide⟩
set_option maxRecDepth 100000 in
theorem vX11_carry : mm_MV YX11_carry 11 1 := ⟨(mm_in 1789 rfl rfl), mm_in 1788 (by decide +kernel) rfl, mm_in 90 (by decide +kernel) rfl, ini_X11, ⟨_, rfl, rfl⟩, ⟨by decide, by decide, by decide +kernel⟩, by decide⟩
set_option maxRecDepth 100000 in
theorem vX11_back : mm_MV YX11_back 11 1 := ⟨(mm_in 1793 rfl rfl), mm_in 1791 (by decide +kernel) rfl, mm_in 1792 (by decide +kernel) rfl, ini_X11, ⟨_, rfl, rfl⟩, ⟨by decide, by decide, by decide +kernel⟩, by decide⟩
theorem fX8_9 : mm_Fd RX8 9 8 0 (.array .int) := ⟨RX8, TX8, 6, tyX8, rfl, inT8, rfl, by decide, tyX8_ok, nmX8, mm_in 125 (by decide +kernel) rfl, rfl, Or.inr (by decide)⟩
theorem fX8_15 : mm_Fd RX8 15 8 1 (.array .int) := ⟨RX8, TX8, 6, tyX8, rfl, inT8, rfl, by decide, tyX8_ok, nmX8, mm_in 126 (by decide +kernel) rfl, rfl, Or.inr (by decide)⟩
theorem fX8_18 : mm_Fd RX8 18 8 2 (.array .int) := ⟨RX8, TX8, 6, tyX8, rfl, inT8, rfl, by decide, tyX8_ok, nmX8, mm_in 127 (by decide +kernel) rfl, rfl, Or.inr (by decide)⟩
theorem fX8_21 : mm_Fd RX8 21 8 3 .int := ⟨RX8, TX8, 6, tyX8, rfl, inT8, rfl, by decide, tyX8_ok, nmX8, mm_in 128 (by decide +kernel) rfl, rfl, Or.inl rfl⟩
theorem fX8_25 : mm_Fd RX8 25 8 4 .int := ⟨RX8, TX8, 6, tyX8, rfl, inT8, rfl, by decide, tyX8_ok, nmX8, mm_in 129 (by decide +kernel) rfl, rfl, Or.inl rfl⟩
theorem fX8_28 : mm_Fd RX8 28 8 5 .int := ⟨RX8, TX8, 6, tyX8, rfl, inT8, rfl, by decide, tyX8_ok, nmX8, mm_in 130 (by decide +kernel) rfl, rfl, Or.inl rfl⟩
theorem fX6_32 : mm_Fd RX6 32 8 5 .int := ⟨RX8, TX8, 6, tyX8, rfl, inT8, rfl, by decide, tyX8_ok, nmX8, mm_in 131 (by decide +kernel) rfl, rfl, Or.inl rfl⟩
theorem fX4_29 : mm_Fd RX4 29 8 5 .int := ⟨RX8, TX8, 6, tyX8, rfl, inT8, rfl, by decide, tyX8_ok, nmX8, mm_in 132 (by decide +kernel) rfl, rfl, Or.inl rfl⟩
theorem fX5_36 : mm_Fd RX5 36 5 0 .int := ⟨RX5, TX5, 12, tyX5, rfl, inT5, rfl, by decide, tyX5_ok, nmX5, mm_in 160 (by decide +kernel) rfl, rfl, Or.inl rfl⟩
theorem fX1_56 : mm_Fd RX1 56 5 0 .int := ⟨RX5, TX5, 12, tyX5, rfl, inT5, rfl, by decide, tyX5_ok, nmX5, mm_in 161 (by decide +kernel) rfl, rfl, Or.inl rfl⟩
theorem fX0_67 : mm_Fd RX0 67 5 0 .int := ⟨RX5, TX5, 12, tyX5, rfl, inT5, rfl, by decide, tyX5_ok, nmX5, mm_in 162 (by decide +kernel) rfl, rfl, Or.inl rfl⟩
theorem fX6_62 : mm_Fd RX6 62 5 0 .int := ⟨RX5, TX5, 12, tyX5, rfl, inT5, rfl, by decide, tyX5_ok, nmX5, mm_in 163 (by decide +kernel) rfl, rfl, Or.inl rfl⟩
theorem fX10_117 : mm_Fd RX10 117 5 0 .int := ⟨RX5, TX5, 12, tyX5, rfl, inT5, rfl, by decide, tyX5_ok, nmX5, mm_in 164 (by decide +kernel) rfl, rfl, Or.inl rfl⟩
theorem fX2_108 : mm_Fd RX2 108 5 0 .int := ⟨RX5, TX5, 12, tyX5, rfl, inT5, rfl, by decide, tyX5_ok, nmX5, mm_in 165 (by decide +kernel) rfl, rfl, Or.inl rfl⟩
theorem fX5_9 : mm_Fd RX5 9 5 1 (.array .int) := ⟨RX5, TX5, 12, tyX5, rfl, inT5, rfl, by decide, tyX5_ok, nmX5, mm_in 166 (by decide +kernel) rfl, rfl, Or.inr (by decide)⟩
theorem fX10_130 : mm_Fd RX10 130 5 1 (.array .int) := ⟨RX5, TX5, 12, tyX5, rfl, inT5, rfl, by decide, tyX5_ok, nmX5, mm_in 167 (by decide +kernel) rfl, rfl, Or.inr (by decide)⟩
theorem fX1_114 : mm_Fd RX1 114 5 1 (.array .int) := ⟨RX5, TX5, 12, tyX5, rfl, inT5, rfl, by decide, tyX5_ok, nmX5, mm_in 168 (by decide +kernel) rfl, rfl, Or.inr (by decide)⟩
theorem fX5_15 : mm_Fd RX5 15 5 2 (.array .int) := ⟨RX5, TX5, 12, tyX5, rfl, inT5, rfl, by decide, tyX5_ok, nmX5, mm_in 169 (by decide +kernel) rfl, rfl, Or.inr (by decide)⟩
theorem fX1_73 : mm_Fd RX1 73 5 2 (.array .int) := ⟨RX5, TX5, 12, tyX5, rfl, inT5, rfl, by decide, tyX5_ok, nmX5, mm_in 170 (by decide +kernel) rfl, rfl, Or.inr (by decide)⟩
theorem fX10_134 : mm_Fd RX10 134 5 2 (.array .int) := ⟨RX5, TX5, 12, tyX5, rfl, inT5, rfl, by decide, tyX5_ok, nmX5, mm_in 171 (by decide +kernel) rfl, rfl, Or.inr (by decide)⟩
theorem fX5_18 : mm_Fd RX5 18 5 3 (.array .int) := ⟨RX5, TX5, 12, tyX5, rfl, inT5, rfl, by decide, tyX5_ok, nmX5, mm_in 172 (by decide +kernel) rfl, rfl, Or.inr (by decide)⟩
theorem fX10_137 : mm_Fd RX10 137 5 3 (.array .int) := ⟨RX5, TX5, 12, tyX5, rfl, inT5, rfl, by decide, tyX5_ok, nmX5, mm_in 173 (by decide +kernel) rfl, rfl, Or.inr (by decide)⟩
theorem fX1_117 : mm_Fd RX1 117 5 3 (.array .int) := ⟨RX5, TX5, 12, tyX5, rfl, inT5, rfl, by decide, tyX5_ok, nmX5, mm_in 174 (by decide +kernel) rfl, rfl, Or.inr (by decide)⟩
theorem fX5_21 : mm_Fd RX5 21 5 4 (.array .int) := ⟨RX5, TX5, 12, tyX5, rfl, inT5, rfl, by decide, tyX5_ok, nmX5, mm_in 175 (by decide +kernel) rfl, rfl, Or.inr (by decide)⟩
theorem fX10_140 : mm_Fd RX10 140 5 4 (.array .int) := ⟨RX5, TX5, 12, tyX5, rfl, inT5, rfl, by decide, tyX5_ok, nmX5, mm_in 176 (by decide +kernel) rfl, rfl, Or.inr (by decide)⟩
theorem fX5_24 : mm_Fd RX5 24 5 5 (.array .int) := ⟨RX5, TX5, 12, tyX5, rfl, inT5, rfl, by decide, tyX5_ok, nmX5, mm_in 177 (by decide +kernel) rfl, rfl, Or.inr (by decide)⟩
theorem fX10_143 : mm_Fd RX10 143 5 5 (.array .int) := ⟨RX5, TX5, 12, tyX5, rfl, inT5, rfl, by decide, tyX5_ok, nmX5, mm_in 178 (by decide +kernel) rfl, rfl, Or.inr (by decide)⟩
theorem fX5_27 : mm_Fd RX5 27 5 6 (.array .int) := ⟨RX5, TX5, 12, tyX5, rfl, inT5, rfl, by decide, tyX5_ok, nmX5, mm_in 179 (by decide +kernel) rfl, rfl, Or.inr (by decide)⟩
theorem fX10_146 : mm_Fd RX10 146 5 6 (.array .int) := ⟨RX5, TX5, 12, tyX5, rfl, inT5, rfl, by decide, tyX5_ok, nmX5, mm_in 180 (by decide +kernel) rfl, rfl, Or.inr (by decide)⟩
theorem fX1_120 : mm_Fd RX1 120 5 6 (.array .int) := ⟨RX5, TX5, 12, tyX5, rfl, inT5, rfl, by decide, tyX5_ok, nmX5, mm_in 181 (by decide +kernel) rfl, rfl, Or.inr (by decide)⟩
theorem fX5_40 : mm_Fd RX5 40 5 7 .int := ⟨RX5, TX5, 12, tyX5, rfl, inT5, rfl, by decide, tyX5_ok, nmX5, mm_in 182 (by decide +kernel) rfl, rfl, Or.inl rfl⟩
theorem fX6_48 : mm_Fd RX6 48 5 7 .int := ⟨RX5, TX5, 12, tyX5, rfl, inT5, rfl, by decide, tyX5_ok, nmX5, mm_in 183 (by decide +kernel) rfl, rfl, Or.inl rfl⟩
theorem fX10_262 : mm_Fd RX10 262 5 7 .int := ⟨RX5, TX5, 12, tyX5, rfl, inT5, rfl, by decide, tyX5_ok, nmX5, mm_in 184 (by decide +kernel) rfl, rfl, Or.inl rfl⟩
theorem fX5_30 : mm_Fd RX5 30 5 8 (.array .int) := ⟨RX5, TX5, 12, tyX5, rfl, inT5, rfl, by decide, tyX5_ok, nmX5, mm_in 185 (by decide +kernel) rfl, rfl, Or.inr (by decide)⟩
theorem fX10_156 : mm_Fd RX10 156 5 8 (.array .int) := ⟨RX5, TX5, 12, tyX5, rfl, inT5, rfl, by decide, tyX5_ok, nmX5, mm_in 186 (by decide +kernel) rfl, rfl, Or.inr (by decide)⟩
theorem fX1_126 : mm_Fd RX1 126 5 8 (.array .int) := ⟨RX5, TX5, 12, tyX5, rfl, inT5, rfl, by decide, tyX5_ok, nmX5, mm_in 187 (by decide +kernel) rfl, rfl, Or.inr (by decide)⟩
theorem fX5_33 : mm_Fd RX5 33 5 9 (.array .int) := ⟨RX5, TX5, 12, tyX5, rfl, inT5, rfl, by decide, tyX5_ok, nmX5, mm_in 188 (by decide +kernel) rfl, rfl, Or.inr (by decide)⟩
theorem fX10_159 : mm_Fd RX10 159 5 9 (.array .int) := ⟨RX5, TX5, 12, tyX5, rfl, inT5, rfl, by decide, tyX5_ok, nmX5, mm_in 189 (by decide +kernel) rfl, rfl, Or.inr (by decide)⟩
theorem fX1_129 : mm_Fd RX1 129 5 9 (.array .int) := ⟨RX5, TX5, 12, tyX5, rfl, inT5, rfl, by decide, tyX5_ok, nmX5, mm_in 190 (by decide +kernel) rfl, rfl, Or.inr (by decide)⟩
theorem fX5_43 : mm_Fd RX5 43 5 10 .int := ⟨RX5, TX5, 12, tyX5, rfl, inT5, rfl, by decide, tyX5_ok, nmX5, mm_in 191 (by decide +kernel) rfl, rfl, Or.inl rfl⟩
theorem fX6_77 : mm_Fd RX6 77 5 10 .int := ⟨RX5, TX5, 12, tyX5, rfl, inT5, rfl, by decide, tyX5_ok, nmX5, mm_in 192 (by decide +kernel) rfl, rfl, Or.inl rfl⟩
theorem fX1_147 : mm_Fd RX1 147 5 10 .int := ⟨RX5, TX5, 12, tyX5, rfl, inT5, rfl, by decide, tyX5_ok, nmX5, mm_in 193 (by decide +kernel) rfl, rfl, Or.inl rfl⟩
theorem fX10_319 : mm_Fd RX10 319 5 10 .int := ⟨RX5, TX5, 12, tyX5, rfl, inT5, rfl, by decide, tyX5_ok, nmX5, mm_in 194 (by decide +kernel) rfl, rfl, Or.inl rfl⟩
theorem fX5_46 : mm_Fd RX5 46 5 11 .int := ⟨RX5, TX5, 12, tyX5, rfl, inT5, rfl, by decide, tyX5_ok, nmX5, mm_in 195 (by decide +kernel) rfl, rfl, Or.inl rfl⟩
theorem fX6_80 : mm_Fd RX6 80 5 11 .int := ⟨RX5, TX5, 12, tyX5, rfl, inT5, rfl, by decide, tyX5_ok, nmX5, mm_in 196 (by decide +kernel) rfl, rfl, Or.inl rfl⟩
theorem fX1_91 : mm_Fd RX1 91 5 11 .int := ⟨RX5, TX5, 12, tyX5, rfl, inT5, rfl, by decide, tyX5_ok, nmX5, mm_in 197 (by decide +kernel) rfl, rfl, Or.inl rfl⟩
theorem fX10_322 : mm_Fd RX10 322 5 11 .int := ⟨RX5, TX5, 12, tyX5, rfl, inT5, rfl, by decide, tyX5_ok, nmX5, mm_in 198 (by decide +kernel) rfl, rfl, Or.inl rfl⟩
theorem fX6_12 : mm_Fd RX6 12 6 0 (.object "RingingCoins$Mint") := ⟨RX6, TX6, 4, tyX6, rfl, inT6, rfl, by decide, tyX6_ok, nmX6, mm_in 224 (by decide +kernel) rfl, rfl, Or.inr (by decide)⟩
theorem fX10_107 : mm_Fd RX10 107 6 0 (.object "RingingCoins$Mint") := ⟨RX6, TX6, 4, tyX6, rfl, inT6, rfl, by decide, tyX6_ok, nmX6, mm_in 225 (by decide +kernel) rfl, rfl, Or.inr (by decide)⟩
theorem fX6_18 : mm_Fd RX6 18 6 1 (.object "RingingCoins$Text") := ⟨RX6, TX6, 4, tyX6, rfl, inT6, rfl, by decide, tyX6_ok, nmX6, mm_in 226 (by decide +kernel) rfl, rfl, Or.inr (by decide)⟩
theorem fX6_25 : mm_Fd RX6 25 6 2 .boolean := ⟨RX6, TX6, 4, tyX6, rfl, inT6, rfl, by decide, tyX6_ok, nmX6, mm_in 227 (by decide +kernel) rfl, rfl, Or.inl rfl⟩
theorem fX6_29 : mm_Fd RX6 29 6 3 .boolean := ⟨RX6, TX6, 4, tyX6, rfl, inT6, rfl, by decide, tyX6_ok, nmX6, mm_in 228 (by decide +kernel) rfl, rfl, Or.inl rfl⟩
theorem fX3_9 : mm_Fd RX3 9 3 0 (.array .int) := ⟨RX3, TX3, 7, tyX3, rfl, inT3, rfl, by decide, tyX3_ok, nmX3, mm_in 250 (by decide +kernel) rfl, rfl, Or.inr (by decide)⟩
theorem fX3_27 : mm_Fd RX3 27 3 1 .int := ⟨RX3, TX3, 7, tyX3, rfl, inT3, rfl, by decide, tyX3_ok, nmX3, mm_in 251 (by decide +kernel) rfl, rfl, Or.inl rfl⟩
theorem fX4_52 : mm_Fd RX4 52 3 1 .int := ⟨RX3, TX3, 7, tyX3, rfl, inT3, rfl, by decide, tyX3_ok, nmX3, mm_in 252 (by decide +kernel) rfl, rfl, Or.inl rfl⟩
theorem fX3_15 : mm_Fd RX3 15 3 2 (.array .int) := ⟨RX3, TX3, 7, tyX3, rfl, inT3, rfl, by decide, tyX3_ok, nmX3, mm_in 253 (by decide +kernel) rfl, rfl, Or.inr (by decide)⟩
theorem fX3_18 : mm_Fd RX3 18 3 3 (.array .int) := ⟨RX3, TX3, 7, tyX3, rfl, inT3, rfl, by decide, tyX3_ok, nmX3, mm_in 254 (by decide +kernel) rfl, rfl, Or.inr (by decide)⟩
theorem fX3_21 : mm_Fd RX3 21 3 4 (.array .int) := ⟨RX3, TX3, 7, tyX3, rfl, inT3, rfl, by decide, tyX3_ok, nmX3, mm_in 255 (by decide +kernel) rfl, rfl, Or.inr (by decide)⟩
theorem fX3_24 : mm_Fd RX3 24 3 5 (.array .int) := ⟨RX3, TX3, 7, tyX3, rfl, inT3, rfl, by decide, tyX3_ok, nmX3, mm_in 256 (by decide +kernel) rfl, rfl, Or.inr (by decide)⟩
theorem fX3_31 : mm_Fd RX3 31 3 6 .int := ⟨RX3, TX3, 7, tyX3, rfl, inT3, rfl, by decide, tyX3_ok, nmX3, mm_in 257 (by decide +kernel) rfl, rfl, Or.inl rfl⟩
theorem fX4_9 : mm_Fd RX4 9 4 0 (.object "RingingCoins$Text") := ⟨RX4, TX4, 3, tyX4, rfl, inT4, rfl, by decide, tyX4_ok, nmX4, mm_in 273 (by decide +kernel) rfl, rfl, Or.inr (by decide)⟩
theorem fX4_18 : mm_Fd RX4 18 4 1 (.object "RingingCoins$Law") := ⟨RX4, TX4, 3, tyX4, rfl, inT4, rfl, by decide, tyX4_ok, nmX4, mm_in 274 (by decide +kernel) rfl, rfl, Or.inl rfl⟩
theorem fX4_25 : mm_Fd RX4 25 4 2 .int := ⟨RX4, TX4, 3, tyX4, rfl, inT4, rfl, by decide, tyX4_ok, nmX4, mm_in 275 (by decide +kernel) rfl, rfl, Or.inl rfl⟩
theorem fX7_12 : mm_Fd RX7 12 7 0 (.object "RingingCoins$Mint") := ⟨RX7, TX7, 8, tyX7, rfl, inT7, rfl, by decide, tyX7_ok, nmX7, mm_in 293 (by decide +kernel) rfl, rfl, Or.inr (by decide)⟩
theorem fX10_63 : mm_Fd RX10 63 7 0 (.object "RingingCoins$Mint") := ⟨RX7, TX7, 8, tyX7, rfl, inT7, rfl, by decide, tyX7_ok, nmX7, mm_in 294 (by decide +kernel) rfl, rfl, Or.inr (by decide)⟩
theorem fX2_104 : mm_Fd RX2 104 7 0 (.object "RingingCoins$Mint") := ⟨RX7, TX7, 8, tyX7, rfl, inT7, rfl, by decide, tyX7_ok, nmX7, mm_in 295 (by decide +kernel) rfl, rfl, Or.inr (by decide)⟩
theorem fX7_18 : mm_Fd RX7 18 7 1 (.array .int) := ⟨RX7, TX7, 8, tyX7, rfl, inT7, rfl, by decide, tyX7_ok, nmX7, mm_in 296 (by decide +kernel) rfl, rfl, Or.inr (by decide)⟩
theorem fX2_51 : mm_Fd RX2 51 7 1 (.array .int) := ⟨RX7, TX7, 8, tyX7, rfl, inT7, rfl, by decide, tyX7_ok, nmX7, mm_in 297 (by decide +kernel) rfl, rfl, Or.inr (by decide)⟩
theorem fX7_32 : mm_Fd RX7 32 7 2 .int := ⟨RX7, TX7, 8, tyX7, rfl, inT7, rfl, by decide, tyX7_ok, nmX7, mm_in 298 (by decide +kernel) rfl, rfl, Or.inl rfl⟩
theorem fX2_56 : mm_Fd RX2 56 7 2 .int := ⟨RX7, TX7, 8, tyX7, rfl, inT7, rfl, by decide, tyX7_ok, nmX7, mm_in 299 (by decide +kernel) rfl, rfl, Or.inl rfl⟩
theorem fX10_223 : mm_Fd RX10 223 7 2 .int := ⟨RX7, TX7, 8, tyX7, rfl, inT7, rfl, by decide, tyX7_ok, nmX7, mm_in 300 (by decide +kernel) rfl, rfl, Or.inl rfl⟩
theorem fX7_22 : mm_Fd RX7 22 7 3 (.array .int) := ⟨RX7, TX7, 8, tyX7, rfl, inT7, rfl, by decide, tyX7_ok, nmX7, mm_in 301 (by decide +kernel) rfl, rfl, Or.inr (by decide)⟩
theorem fX2_88 : mm_Fd RX2 88 7 3 (.array .int) := ⟨RX7, TX7, 8, tyX7, rfl, inT7, rfl, by decide, tyX7_ok, nmX7, mm_in 302 (by decide +kernel) rfl, rfl, Or.inr (by decide)⟩
theorem fX10_268 : mm_Fd RX10 268 7 3 (.array .int) := ⟨RX7, TX7, 8, tyX7, rfl, inT7, rfl, by decide, tyX7_ok, nmX7, mm_in 303 (by decide +kernel) rfl, rfl, Or.inr (by decide)⟩
theorem fX7_25 : mm_Fd RX7 25 7 4 (.array .int) := ⟨RX7, TX7, 8, tyX7, rfl, inT7, rfl, by decide, tyX7_ok, nmX7, mm_in 304 (by decide +kernel) rfl, rfl, Or.inr (by decide)⟩
theorem fX2_91 : mm_Fd RX2 91 7 4 (.array .int) := ⟨RX7, TX7, 8, tyX7, rfl, inT7, rfl, by decide, tyX7_ok, nmX7, mm_in 305 (by decide +kernel) rfl, rfl, Or.inr (by decide)⟩
theorem fX10_271 : mm_Fd RX10 271 7 4 (.array .int) := ⟨RX7, TX7, 8, tyX7, rfl, inT7, rfl, by decide, tyX7_ok, nmX7, mm_in 306 (by decide +kernel) rfl, rfl, Or.inr (by decide)⟩
theorem fX7_36 : mm_Fd RX7 36 7 5 .int := ⟨RX7, TX7, 8, tyX7, rfl, inT7, rfl, by decide, tyX7_ok, nmX7, mm_in 307 (by decide +kernel) rfl, rfl, Or.inl rfl⟩
theorem fX2_85 : mm_Fd RX2 85 7 5 .int := ⟨RX7, TX7, 8, tyX7, rfl, inT7, rfl, by decide, tyX7_ok, nmX7, mm_in 308 (by decide +kernel) rfl, rfl, Or.inl rfl⟩
theorem fX10_265 : mm_Fd RX10 265 7 5 .int := ⟨RX7, TX7, 8, tyX7, rfl, inT7, rfl, by decide, tyX7_ok, nmX7, mm_in 309 (by decide +kernel) rfl, rfl, Or.inl rfl⟩
theorem fX7_45 : mm_Fd RX7 45 7 6 .int := ⟨RX7, TX7, 8, tyX7, rfl, inT7, rfl, by decide, tyX7_ok, nmX7, mm_in 310 (by decide +kernel) rfl, rfl, Or.inl rfl⟩
theorem fX10_294 : mm_Fd RX10 294 7 6 .int := ⟨RX7, TX7, 8, tyX7, rfl, inT7, rfl, by decide, tyX7_ok, nmX7, mm_in 311 (by decide +kernel) rfl, rfl, Or.inl rfl⟩
theorem fX10_331 : mm_Fd RX10 331 7 7 .boolean := ⟨RX7, TX7, 8, tyX7, rfl, inT7, rfl, by decide, tyX7_ok, nmX7, mm_in 312 (by decide +kernel) rfl, rfl, Or.inl rfl⟩
theorem fX1_44 : mm_Fd RX1 44 1 0 (.object "RingingCoins$Mint") := ⟨RX1, TX1, 14, tyX1, rfl, inT1, rfl, by decide, tyX1_ok, nmX1, mm_in 346 (by decide +kernel) rfl, rfl, Or.inr (by decide)⟩
theorem fX1_48 : mm_Fd RX1 48 1 1 (.object "RingingCoins$Law") := ⟨RX1, TX1, 14, tyX1, rfl, inT1, rfl, by decide, tyX1_ok, nmX1, mm_in 347 (by decide +kernel) rfl, rfl, Or.inl rfl⟩
theorem fX1_52 : mm_Fd RX1 52 1 2 .int := ⟨RX1, TX1, 14, tyX1, rfl, inT1, rfl, by decide, tyX1_ok, nmX1, mm_in 348 (by decide +kernel) rfl, rfl, Or.inl rfl⟩
theorem fX1_13 : mm_Fd RX1 13 1 3 (.array .int) := ⟨RX1, TX1, 14, tyX1, rfl, inT1, rfl, by decide, tyX1_ok, nmX1, mm_in 349 (by decide +kernel) rfl, rfl, Or.inr (by decide)⟩
theorem fX1_17 : mm_Fd RX1 17 1 4 (.array .int) := ⟨RX1, TX1, 14, tyX1, rfl, inT1, rfl, by decide, tyX1_ok, nmX1, mm_in 350 (by decide +kernel) rfl, rfl, Or.inr (by decide)⟩
theorem fX1_20 : mm_Fd RX1 20 1 5 (.array .long) := ⟨RX1, TX1, 14, tyX1, rfl, inT1, rfl, by decide, tyX1_ok, nmX1, mm_in 351 (by decide +kernel) rfl, rfl, Or.inr (by decide)⟩
theorem fX1_26 : mm_Fd RX1 26 1 6 (.array .long) := ⟨RX1, TX1, 14, tyX1, rfl, inT1, rfl, by decide, tyX1_ok, nmX1, mm_in 352 (by decide +kernel) rfl, rfl, Or.inr (by decide)⟩
theorem fX1_29 : mm_Fd RX1 29 1 7 (.array .int) := ⟨RX1, TX1, 14, tyX1, rfl, inT1, rfl, by decide, tyX1_ok, nmX1, mm_in 353 (by decide +kernel) rfl, rfl, Or.inr (by decide)⟩
theorem fX1_32 : mm_Fd RX1 32 1 8 (.array .int) := ⟨RX1, TX1, 14, tyX1, rfl, inT1, rfl, by decide, tyX1_ok, nmX1, mm_in 354 (by decide +kernel) rfl, rfl, Or.inr (by decide)⟩
theorem fX1_70 : mm_Fd RX1 70 1 9 .int := ⟨RX1, TX1, 14, tyX1, rfl, inT1, rfl, by decide, tyX1_ok, nmX1, mm_in 355 (by decide +kernel) rfl, rfl, Or.inl rfl⟩
theorem fX1_35 : mm_Fd RX1 35 1 10 (.array .int) := ⟨RX1, TX1, 14, tyX1, rfl, inT1, rfl, by decide, tyX1_ok, nmX1, mm_in 356 (by decide +kernel) rfl, rfl, Or.inr (by decide)⟩
theorem fX0_102 : mm_Fd RX0 102 1 10 (.array .int) := ⟨RX1, TX1, 14, tyX1, rfl, inT1, rfl, by decide, tyX1_ok, nmX1, mm_in 357 (by decide +kernel) rfl, rfl, Or.inr (by decide)⟩
theorem fX10_208 : mm_Fd RX10 208 1 10 (.array .int) := ⟨RX1, TX1, 14, tyX1, rfl, inT1, rfl, by decide, tyX1_ok, nmX1, mm_in 358 (by decide +kernel) rfl, rfl, Or.inr (by decide)⟩
theorem fX1_38 : mm_Fd RX1 38 1 11 (.array .int) := ⟨RX1, TX1, 14, tyX1, rfl, inT1, rfl, by decide, tyX1_ok, nmX1, mm_in 359 (by decide +kernel) rfl, rfl, Or.inr (by decide)⟩
theorem fX10_211 : mm_Fd RX10 211 1 11 (.array .int) := ⟨RX1, TX1, 14, tyX1, rfl, inT1, rfl, by decide, tyX1_ok, nmX1, mm_in 360 (by decide +kernel) rfl, rfl, Or.inr (by decide)⟩
theorem fX1_41 : mm_Fd RX1 41 1 12 (.array .int) := ⟨RX1, TX1, 14, tyX1, rfl, inT1, rfl, by decide, tyX1_ok, nmX1, mm_in 361 (by decide +kernel) rfl, rfl, Or.inr (by decide)⟩
theorem fX10_214 : mm_Fd RX10 214 1 12 (.array .int) := ⟨RX1, TX1, 14, tyX1, rfl, inT1, rfl, by decide, tyX1_ok, nmX1, mm_in 362 (by decide +kernel) rfl, rfl, Or.inr (by decide)⟩
theorem fX0_99 : mm_Fd RX0 99 1 13 .int := ⟨RX1, TX1, 14, tyX1, rfl, inT1, rfl, by decide, tyX1_ok, nmX1, mm_in 363 (by decide +kernel) rfl, rfl, Or.inl rfl⟩
theorem fX1_135 : mm_Fd RX1 135 1 13 .int := ⟨RX1, TX1, 14, tyX1, rfl, inT1, rfl, by decide, tyX1_ok, nmX1, mm_in 364 (by decide +kernel) rfl, rfl, Or.inl rfl⟩
theorem fX10_205 : mm_Fd RX10 205 1 13 .int := ⟨RX1, TX1, 14, tyX1, rfl, inT1, rfl, by decide, tyX1_ok, nmX1, mm_in 365 (by decide +kernel) rfl, rfl, Or.inl rfl⟩
theorem fX0_56 : mm_Fd RX0 56 0 0 (.object "RingingCoins$Ear") := ⟨RX0, TX0, 15, tyX0, rfl, inT0, rfl, by decide, tyX0_ok, nmX0, mm_in 396 (by decide +kernel) rfl, rfl, Or.inr (by decide)⟩
theorem fX10_187 : mm_Fd RX10 187 0 0 (.object "RingingCoins$Ear") := ⟨RX0, TX0, 15, tyX0, rfl, inT0, rfl, by decide, tyX0_ok, nmX0, mm_in 397 (by decide +kernel) rfl, rfl, Or.inr (by decide)⟩
theorem fX0_43 : mm_Fd RX0 43 0 1 (.object "RingingCoins$Mint") := ⟨RX0, TX0, 15, tyX0, rfl, inT0, rfl, by decide, tyX0_ok, nmX0, mm_in 398 (by decide +kernel) rfl, rfl, Or.inr (by decide)⟩
theorem fX0_47 : mm_Fd RX0 47 0 2 (.object "RingingCoins$Law") := ⟨RX0, TX0, 15, tyX0, rfl, inT0, rfl, by decide, tyX0_ok, nmX0, mm_in 399 (by decide +kernel) rfl, rfl, Or.inl rfl⟩
theorem fX0_9 : mm_Fd RX0 9 0 3 .int := ⟨RX0, TX0, 15, tyX0, rfl, inT0, rfl, by decide, tyX0_ok, nmX0, mm_in 400 (by decide +kernel) rfl, rfl, Or.inl rfl⟩
theorem fX0_15 : mm_Fd RX0 15 0 4 (.array .int) := ⟨RX0, TX0, 15, tyX0, rfl, inT0, rfl, by decide, tyX0_ok, nmX0, mm_in 401 (by decide +kernel) rfl, rfl, Or.inr (by decide)⟩
theorem fX0_19 : mm_Fd RX0 19 0 5 (.array .int) := ⟨RX0, TX0, 15, tyX0, rfl, inT0, rfl, by decide, tyX0_ok, nmX0, mm_in 402 (by decide +kernel) rfl, rfl, Or.inr (by decide)⟩
theorem fX0_64 : mm_Fd RX0 64 0 6 .int := ⟨RX0, TX0, 15, tyX0, rfl, inT0, rfl, by decide, tyX0_ok, nmX0, mm_in 403 (by decide +kernel) rfl, rfl, Or.inl rfl⟩
theorem fX0_22 : mm_Fd RX0 22 0 7 (.array .int) := ⟨RX0, TX0, 15, tyX0, rfl, inT0, rfl, by decide, tyX0_ok, nmX0, mm_in 404 (by decide +kernel) rfl, rfl, Or.inr (by decide)⟩
theorem fX0_25 : mm_Fd RX0 25 0 8 (.array .int) := ⟨RX0, TX0, 15, tyX0, rfl, inT0, rfl, by decide, tyX0_ok, nmX0, mm_in 405 (by decide +kernel) rfl, rfl, Or.inr (by decide)⟩
theorem fX0_28 : mm_Fd RX0 28 0 9 (.array .int) := ⟨RX0, TX0, 15, tyX0, rfl, inT0, rfl, by decide, tyX0_ok, nmX0, mm_in 406 (by decide +kernel) rfl, rfl, Or.inr (by decide)⟩
theorem fX0_31 : mm_Fd RX0 31 0 10 (.array .int) := ⟨RX0, TX0, 15, tyX0, rfl, inT0, rfl, by decide, tyX0_ok, nmX0, mm_in 407 (by decide +kernel) rfl, rfl, Or.inr (by decide)⟩
theorem fX0_112 : mm_Fd RX0 112 0 11 .int := ⟨RX0, TX0, 15, tyX0, rfl, inT0, rfl, by decide, tyX0_ok, nmX0, mm_in 408 (by decide +kernel) rfl, rfl, Or.inl rfl⟩
theorem fX0_34 : mm_Fd RX0 34 0 12 (.array .int) := ⟨RX0, TX0, 15, tyX0, rfl, inT0, rfl, by decide, tyX0_ok, nmX0, mm_in 409 (by decide +kernel) rfl, rfl, Or.inr (by decide)⟩
theorem fX0_37 : mm_Fd RX0 37 0 13 (.array .int) := ⟨RX0, TX0, 15, tyX0, rfl, inT0, rfl, by decide, tyX0_ok, nmX0, mm_in 410 (by decide +kernel) rfl, rfl, Or.inr (by decide)⟩
theorem fX0_40 : mm_Fd RX0 40 0 14 (.array .int) := ⟨RX0, TX0, 15, tyX0, rfl, inT0, rfl, by decide, tyX0_ok, nmX0, mm_in 411 (by decide +kernel) rfl, rfl, Or.inr (by decide)⟩
theorem fX9_22 : mm_Fd RX9 22 9 0 (.object "RingingCoins$Mint") := ⟨RX9, TX9, 7, tyX9, rfl, inT9, rfl, by decide, tyX9_ok, nmX9, mm_in 449 (by decide +kernel) rfl, rfl, Or.inr (by decide)⟩
theorem fX9_26 : mm_Fd RX9 26 9 1 (.object "RingingCoins$Chords") := ⟨RX9, TX9, 7, tyX9, rfl, inT9, rfl, by decide, tyX9_ok, nmX9, mm_in 450 (by decide +kernel) rfl, rfl, Or.inr (by decide)⟩
theorem fX9_9 : mm_Fd RX9 9 9 2 (.array .int) := ⟨RX9, TX9, 7, tyX9, rfl, inT9, rfl, by decide, tyX9_ok, nmX9, mm_in 451 (by decide +kernel) rfl, rfl, Or.inr (by decide)⟩
theorem fX9_15 : mm_Fd RX9 15 9 3 (.array .int) := ⟨RX9, TX9, 7, tyX9, rfl, inT9, rfl, by decide, tyX9_ok, nmX9, mm_in 452 (by decide +kernel) rfl, rfl, Or.inr (by decide)⟩
theorem fX9_18 : mm_Fd RX9 18 9 4 (.array .boolean) := ⟨RX9, TX9, 7, tyX9, rfl, inT9, rfl, by decide, tyX9_ok, nmX9, mm_in 453 (by decide +kernel) rfl, rfl, Or.inr (by decide)⟩
theorem fX9_30 : mm_Fd RX9 30 9 5 .int := ⟨RX9, TX9, 7, tyX9, rfl, inT9, rfl, by decide, tyX9_ok, nmX9, mm_in 454 (by decide +kernel) rfl, rfl, Or.inl rfl⟩
theorem fX10_249 : mm_Fd RX10 249 9 5 .int := ⟨RX9, TX9, 7, tyX9, rfl, inT9, rfl, by decide, tyX9_ok, nmX9, mm_in 455 (by decide +kernel) rfl, rfl, Or.inl rfl⟩
theorem fX9_40 : mm_Fd RX9 40 9 6 .int := ⟨RX9, TX9, 7, tyX9, rfl, inT9, rfl, by decide, tyX9_ok, nmX9, mm_in 456 (by decide +kernel) rfl, rfl, Or.inl rfl⟩
theorem fX10_252 : mm_Fd RX10 252 9 6 .int := ⟨RX9, TX9, 7, tyX9, rfl, inT9, rfl, by decide, tyX9_ok, nmX9, mm_in 457 (by decide +kernel) rfl, rfl, Or.inl rfl⟩
theorem fX2_28 : mm_Fd RX2 28 2 0 (.object "RingingCoins$State") := ⟨RX2, TX2, 7, tyX2, rfl, inT2, rfl, by decide, tyX2_ok, nmX2, mm_in 480 (by decide +kernel) rfl, rfl, Or.inr (by decide)⟩
theorem fX2_32 : mm_Fd RX2 32 2 1 (.object "RingingCoins$Chords") := ⟨RX2, TX2, 7, tyX2, rfl, inT2, rfl, by decide, tyX2_ok, nmX2, mm_in 481 (by decide +kernel) rfl, rfl, Or.inr (by decide)⟩
theorem fX2_9 : mm_Fd RX2 9 2 2 (.array .int) := ⟨RX2, TX2, 7, tyX2, rfl, inT2, rfl, by decide, tyX2_ok, nmX2, mm_in 482 (by decide +kernel) rfl, rfl, Or.inr (by decide)⟩
theorem fX2_15 : mm_Fd RX2 15 2 3 (.array .boolean) := ⟨RX2, TX2, 7, tyX2, rfl, inT2, rfl, by decide, tyX2_ok, nmX2, mm_in 483 (by decide +kernel) rfl, rfl, Or.inr (by decide)⟩
theorem fX2_19 : mm_Fd RX2 19 2 4 (.array .int) := ⟨RX2, TX2, 7, tyX2, rfl, inT2, rfl, by decide, tyX2_ok, nmX2, mm_in 484 (by decide +kernel) rfl, rfl, Or.inr (by decide)⟩
theorem fX2_22 : mm_Fd RX2 22 2 5 (.array .boolean) := ⟨RX2, TX2, 7, tyX2, rfl, inT2, rfl, by decide, tyX2_ok, nmX2, mm_in 485 (by decide +kernel) rfl, rfl, Or.inr (by decide)⟩
theorem fX2_25 : mm_Fd RX2 25 2 6 (.array .boolean) := ⟨RX2, TX2, 7, tyX2, rfl, inT2, rfl, by decide, tyX2_ok, nmX2, mm_in 486 (by decide +kernel) rfl, rfl, Or.inr (by decide)⟩
theorem fX10_9 : mm_Fd RX10 9 10 0 (.array .byte) := ⟨RX10, TX10, 13, tyX10, rfl, inT10, rfl, by decide, tyX10_ok, nmX10, mm_in 502 (by decide +kernel) rfl, rfl, Or.inr (by decide)⟩
theorem fX10_91 : mm_Fd RX10 91 10 1 .int := ⟨RX10, TX10, 13, tyX10, rfl, inT10, rfl, by decide, tyX10_ok, nmX10, mm_in 503 (by decide +kernel) rfl, rfl, Or.inl rfl⟩
theorem fX10_16 : mm_Fd RX10 16 10 2 (.object "RingingCoins$Text") := ⟨RX10, TX10, 13, tyX10, rfl, inT10, rfl, by decide, tyX10_ok, nmX10, mm_in 504 (by decide +kernel) rfl, rfl, Or.inr (by decide)⟩
theorem fX10_25 : mm_Fd RX10 25 10 3 (.object "RingingCoins$MintReader") := ⟨RX10, TX10, 13, tyX10, rfl, inT10, rfl, by decide, tyX10_ok, nmX10, mm_in 505 (by decide +kernel) rfl, rfl, Or.inr (by decide)⟩
theorem fX10_32 : mm_Fd RX10 32 10 4 (.object "RingingCoins$LawReader") := ⟨RX10, TX10, 13, tyX10, rfl, inT10, rfl, by decide, tyX10_ok, nmX10, mm_in 506 (by decide +kernel) rfl, rfl, Or.inr (by decide)⟩
theorem fX10_38 : mm_Fd RX10 38 10 5 (.array (.object "RingingCoins$Law")) := ⟨RX10, TX10, 13, tyX10, rfl, inT10, rfl, by decide, tyX10_ok, nmX10, mm_in 507 (by decide +kernel) rfl, rfl, Or.inr (by decide)⟩
theorem fX10_120 : mm_Fd RX10 120 10 6 .int := ⟨RX10, TX10, 13, tyX10, rfl, inT10, rfl, by decide, tyX10_ok, nmX10, mm_in 508 (by decide +kernel) rfl, rfl, Or.inl rfl⟩
theorem fX10_45 : mm_Fd RX10 45 10 7 (.object "RingingCoins$State") := ⟨RX10, TX10, 13, tyX10, rfl, inT10, rfl, by decide, tyX10_ok, nmX10, mm_in 509 (by decide +kernel) rfl, rfl, Or.inr (by decide)⟩
theorem fX10_49 : mm_Fd RX10 49 10 8 (.array (.object "RingingCoins$State")) := ⟨RX10, TX10, 13, tyX10, rfl, inT10, rfl, by decide, tyX10_ok, nmX10, mm_in 510 (by decide +kernel) rfl, rfl, Or.inr (by decide)⟩
theorem fX10_56 : mm_Fd RX10 56 10 9 (.object "RingingCoins$Mint") := ⟨RX10, TX10, 13, tyX10, rfl, inT10, rfl, by decide, tyX10_ok, nmX10, mm_in 511 (by decide +kernel) rfl, rfl, Or.inr (by decide)⟩
theorem fX10_69 : mm_Fd RX10 69 10 10 (.object "RingingCoins$Chords") := ⟨RX10, TX10, 13, tyX10, rfl, inT10, rfl, by decide, tyX10_ok, nmX10, mm_in 512 (by decide +kernel) rfl, rfl, Or.inr (by decide)⟩
theorem fX10_78 : mm_Fd RX10 78 10 11 (.object "RingingCoins$Till") := ⟨RX10, TX10, 13, tyX10, rfl, inT10, rfl, by decide, tyX10_ok, nmX10, mm_in 513 (by decide +kernel) rfl, rfl, Or.inr (by decide)⟩
theorem fX10_87 : mm_Fd RX10 87 10 12 (.object "RingingCoins$Judge") := ⟨RX10, TX10, 13, tyX10, rfl, inT10, rfl, by decide, tyX10_ok, nmX10, mm_in 514 (by decide +kernel) rfl, rfl, Or.inr (by decide)⟩
theorem lL_13 : Cond.methodLink RL 13 yX10_feed ∈ mm_T0 := mm_in 542 (by decide +kernel) rfl
theorem lX10_95 : Cond.methodLink RX10 95 yX10_appendBytes ∈ mm_T0 := mm_in 546 (by decide +kernel) rfl
theorem lL_18 : Cond.methodLink RL 18 yX10_end ∈ mm_T0 := mm_in 550 (by decide +kernel) rfl
theorem lL_23 : Cond.methodLink RL 23 yX10_mint ∈ mm_T0 := mm_in 554 (by decide +kernel) rfl
theorem lX10_99 : Cond.methodLink RX10 99 yX8_split ∈ mm_T0 := mm_in 558 (by decide +kernel) rfl
theorem lX8_31 : Cond.methodLink RX8 31 yX8_pieceEnd ∈ mm_T0 := mm_in 562 (by decide +kernel) rfl
theorem lX8_49 : Cond.methodLink RX8 49 yX8_isLetter ∈ mm_T0 := mm_in 565 (by decide +kernel) rfl
theorem lX8_53 : Cond.methodLink RX8 53 yX8_isDigit ∈ mm_T0 := mm_in 568 (by decide +kernel) rfl
theorem lX8_35 : Cond.methodLink RX8 35 yJ9_max_7cf53 ∈ mm_T0 := mm_in 571 (by decide +kernel) rfl
theorem lX8_41 : Cond.methodLink RX8 41 yX8_addPiece ∈ mm_T0 := mm_in 574 (by decide +kernel) rfl
theorem lX8_56 : Cond.methodLink RX8 56 yX8_numberAt ∈ mm_T0 := mm_in 578 (by decide +kernel) rfl
theorem lX8_45 : Cond.methodLink RX8 45 yX8_append ∈ mm_T0 := mm_in 581 (by decide +kernel) rfl
theorem lX8_59 : Cond.methodLink RX8 59 yX8_wordAt ∈ mm_T0 := mm_in 585 (by decide +kernel) rfl
theorem lX8_68 : Cond.methodLink RX8 68 yJ0_length_8abf5 ∈ mm_T0 := mm_in 589 (by decide +kernel) rfl
theorem lJ0_335 : Cond.methodLink RJ0 335 yJ0_coder_7d493 ∈ mm_T0 := mm_in 593 (by decide +kernel) rfl
theorem lX8_74 : Cond.methodLink RX8 74 yJ0_charAt_5068e ∈ mm_T0 := mm_in 599 (by decide +kernel) rfl
theorem lJ0_492 : Cond.methodLink RJ0 492 yJ0_isLatin1_aae02 ∈ mm_T0 := mm_in 603 (by decide +kernel) rfl
theorem lJ0_495 : Cond.methodLink RJ0 495 yJ1_charAt_3b067 ∈ mm_T0 := mm_in 607 (by decide +kernel) rfl
theorem lJ1_9 : Cond.methodLink RJ1 9 yJ0_checkIndex_df160 ∈ mm_T0 := mm_in 610 (by decide +kernel) rfl
theorem lJ0_1059 : Cond.methodLink RJ0 1059 yJ3_checkIndex_8e157 ∈ mm_T0 := mm_in 615 (by decide +kernel) rfl
theorem lJ0_498 : Cond.methodLink RJ0 498 yJ2_charAt_3b067 ∈ mm_T0 := mm_in 618 (by decide +kernel) rfl
theorem lJ2_67 : Cond.methodLink RJ2 67 yJ2_checkIndex_2214a ∈ mm_T0 := mm_in 621 (by decide +kernel) rfl
theorem lJ2_48 : Cond.methodLink RJ2 48 yJ2_length_9d52b ∈ mm_T0 := mm_in 624 (by decide +kernel) rfl
theorem lJ2_414 : Cond.methodLink RJ2 414 yJ0_checkIndex_df160 ∈ mm_T0 := mm_in 627 (by decide +kernel) rfl
theorem lJ2_71 : Cond.methodLink RJ2 71 yJ2_getChar_3b067 ∈ mm_T0 := mm_in 628 (by decide +kernel) rfl
theorem lX8_78 : Cond.methodLink RX8 78 yX8_isWord ∈ mm_T0 := mm_in 637 (by decide +kernel) rfl
theorem lX8_62 : Cond.methodLink RX8 62 yX8_signOf ∈ mm_T0 := mm_in 640 (by decide +kernel) rfl
theorem lX10_103 : Cond.methodLink RX10 103 yX6_read ∈ mm_T0 := mm_in 643 (by decide +kernel) rfl
theorem lX6_22 : Cond.methodLink RX6 22 yX5_clear ∈ mm_T0 := mm_in 647 (by decide +kernel) rfl
theorem lX6_38 : Cond.methodLink RX6 38 yX6_readClause ∈ mm_T0 := mm_in 651 (by decide +kernel) rfl
theorem lX6_41 : Cond.methodLink RX6 41 yX8_kind ∈ mm_T0 := mm_in 655 (by decide +kernel) rfl
theorem lX6_51 : Cond.methodLink RX6 51 yX8_fail ∈ mm_T0 := mm_in 659 (by decide +kernel) rfl
theorem lX6_55 : Cond.methodLink RX6 55 yX6_isTooMany ∈ mm_T0 := mm_in 663 (by decide +kernel) rfl
theorem lX6_45 : Cond.methodLink RX6 45 yX8_step ∈ mm_T0 := mm_in 667 (by decide +kernel) rfl
theorem lX6_59 : Cond.methodLink RX6 59 yX6_readNumbers ∈ mm_T0 := mm_in 671 (by decide +kernel) rfl
theorem lX6_65 : Cond.methodLink RX6 65 yX6_readNumber ∈ mm_T0 := mm_in 675 (by decide +kernel) rfl
theorem lX6_83 : Cond.methodLink RX6 83 yX8_number ∈ mm_T0 := mm_in 679 (by decide +kernel) rfl
theorem lX6_69 : Cond.methodLink RX6 69 yX5_addCoin ∈ mm_T0 := mm_in 683 (by decide +kernel) rfl
theorem lX6_73 : Cond.methodLink RX6 73 yX5_addCounter ∈ mm_T0 := mm_in 687 (by decide +kernel) rfl
theorem lX10_110 : Cond.methodLink RX10 110 yX7_takeMint ∈ mm_T0 := mm_in 691 (by decide +kernel) rfl
theorem lX7_28 : Cond.methodLink RX7 28 yX5_copyFrom ∈ mm_T0 := mm_in 695 (by decide +kernel) rfl
theorem lX10_114 : Cond.methodLink RX10 114 yX0_forget ∈ mm_T0 := mm_in 702 (by decide +kernel) rfl
theorem lL_28 : Cond.methodLink RL 28 yX10_law ∈ mm_T0 := mm_in 706 (by decide +kernel) rfl
theorem lX10_123 : Cond.methodLink RX10 123 yX4_read ∈ mm_T0 := mm_in 710 (by decide +kernel) rfl
theorem lX4_22 : Cond.methodLink RX4 22 yX3_clear ∈ mm_T0 := mm_in 714 (by decide +kernel) rfl
theorem lX4_34 : Cond.methodLink RX4 34 yX4_readClause ∈ mm_T0 := mm_in 718 (by decide +kernel) rfl
theorem lX4_37 : Cond.methodLink RX4 37 yX8_kind ∈ mm_T0 := mm_in 722 (by decide +kernel) rfl
theorem lX4_44 : Cond.methodLink RX4 44 yX8_fail ∈ mm_T0 := mm_in 723 (by decide +kernel) rfl
theorem lX4_48 : Cond.methodLink RX4 48 yX3_isFull ∈ mm_T0 := mm_in 724 (by decide +kernel) rfl
theorem lX4_41 : Cond.methodLink RX4 41 yX8_step ∈ mm_T0 := mm_in 728 (by decide +kernel) rfl
theorem lX4_55 : Cond.methodLink RX4 55 yX4_readSum ∈ mm_T0 := mm_in 729 (by decide +kernel) rfl
theorem lX4_65 : Cond.methodLink RX4 65 yX4_readValue ∈ mm_T0 := mm_in 733 (by decide +kernel) rfl
theorem lX4_71 : Cond.methodLink RX4 71 yX8_number ∈ mm_T0 := mm_in 737 (by decide +kernel) rfl
theorem lX4_74 : Cond.methodLink RX4 74 yX3_addNumber ∈ mm_T0 := mm_in 738 (by decide +kernel) rfl
theorem lX4_68 : Cond.methodLink RX4 68 yX3_addSign ∈ mm_T0 := mm_in 742 (by decide +kernel) rfl
theorem lX4_58 : Cond.methodLink RX4 58 yX4_readTest ∈ mm_T0 := mm_in 746 (by decide +kernel) rfl
theorem lX4_77 : Cond.methodLink RX4 77 yX4_readFact ∈ mm_T0 := mm_in 750 (by decide +kernel) rfl
theorem lX4_80 : Cond.methodLink RX4 80 yX4_takeSign ∈ mm_T0 := mm_in 754 (by decide +kernel) rfl
theorem lX4_61 : Cond.methodLink RX4 61 yX3_addClause ∈ mm_T0 := mm_in 758 (by decide +kernel) rfl
theorem lL_32 : Cond.methodLink RL 32 yX10_coin ∈ mm_T0 := mm_in 762 (by decide +kernel) rfl
theorem lX10_126 : Cond.methodLink RX10 126 yX10_isCoin ∈ mm_T0 := mm_in 766 (by decide +kernel) rfl
theorem lX10_149 : Cond.methodLink RX10 149 yX5_cracks ∈ mm_T0 := mm_in 770 (by decide +kernel) rfl
theorem lL_37 : Cond.methodLink RL 37 yX10_counter ∈ mm_T0 := mm_in 774 (by decide +kernel) rfl
theorem lX10_153 : Cond.methodLink RX10 153 yX10_isCounter ∈ mm_T0 := mm_in 778 (by decide +kernel) rfl
theorem lL_41 : Cond.methodLink RL 41 yX10_give ∈ mm_T0 := mm_in 782 (by decide +kernel) rfl
theorem lX10_162 : Cond.methodLink RX10 162 yX10_isPerson ∈ mm_T0 := mm_in 786 (by decide +kernel) rfl
theorem lL_45 : Cond.methodLink RL 45 yX10_retune ∈ mm_T0 := mm_in 789 (by decide +kernel) rfl
theorem lL_49 : Cond.methodLink RL 49 yX10_fall ∈ mm_T0 := mm_in 793 (by decide +kernel) rfl
theorem lX10_165 : Cond.methodLink RX10 165 yX10_isSet ∈ mm_T0 := mm_in 797 (by decide +kernel) rfl
theorem lX10_168 : Cond.methodLink RX10 168 yX5_canDrop ∈ mm_T0 := mm_in 801 (by decide +kernel) rfl
theorem lX10_171 : Cond.methodLink RX10 171 yX5_drop ∈ mm_T0 := mm_in 805 (by decide +kernel) rfl
theorem lX10_174 : Cond.methodLink RX10 174 yJ6_bitCount_0f7a4 ∈ mm_T0 := mm_in 809 (by decide +kernel) rfl
theorem kJ6_265 : Cond.constant RJ6 265 1431655765 ∈ mm_T0 := mm_in 812 (by decide +kernel) rfl
theorem kJ6_266 : Cond.constant RJ6 266 858993459 ∈ mm_T0 := mm_in 813 (by decide +kernel) rfl
theorem kJ6_267 : Cond.constant RJ6 267 252645135 ∈ mm_T0 := mm_in 814 (by decide +kernel) rfl
theorem lL_53 : Cond.methodLink RL 53 yX10_sounds ∈ mm_T0 := mm_in 815 (by decide +kernel) rfl
theorem lX10_179 : Cond.methodLink RX10 179 yX10_isHearable ∈ mm_T0 := mm_in 819 (by decide +kernel) rfl
theorem lX10_274 : Cond.methodLink RX10 274 yX10_isLaw ∈ mm_T0 := mm_in 823 (by decide +kernel) rfl
theorem lX10_183 : Cond.methodLink RX10 183 yX0_aim ∈ mm_T0 := mm_in 827 (by decide +kernel) rfl
theorem lX0_60 : Cond.methodLink RX0 60 yX1_aim ∈ mm_T0 := mm_in 831 (by decide +kernel) rfl
theorem lX10_191 : Cond.methodLink RX10 191 yX1_listen ∈ mm_T0 := mm_in 835 (by decide +kernel) rfl
theorem lX1_61 : Cond.methodLink RX1 61 yX1_loudestOf ∈ mm_T0 := mm_in 839 (by decide +kernel) rfl
theorem lX1_111 : Cond.methodLink RX1 111 yJ9_max_7cf53 ∈ mm_T0 := mm_in 843 (by decide +kernel) rfl
theorem lX1_65 : Cond.methodLink RX1 65 yJ6_bitCount_0f7a4 ∈ mm_T0 := mm_in 844 (by decide +kernel) rfl
theorem lX1_76 : Cond.methodLink RX1 76 yX1_tellWords ∈ mm_T0 := mm_in 845 (by decide +kernel) rfl
theorem lX1_123 : Cond.methodLink RX1 123 yX5_cracks ∈ mm_T0 := mm_in 849 (by decide +kernel) rfl
theorem lX1_80 : Cond.methodLink RX1 80 yX3_told ∈ mm_T0 := mm_in 850 (by decide +kernel) rfl
theorem lX3_34 : Cond.methodLink RX3 34 yX3_valueOf ∈ mm_T0 := mm_in 854 (by decide +kernel) rfl
theorem lX3_38 : Cond.methodLink RX3 38 yX3_put ∈ mm_T0 := mm_in 858 (by decide +kernel) rfl
theorem lX3_44 : Cond.methodLink RX3 44 yX3_joined ∈ mm_T0 := mm_in 861 (by decide +kernel) rfl
theorem lX1_84 : Cond.methodLink RX1 84 yX1_heldNote ∈ mm_T0 := mm_in 864 (by decide +kernel) rfl
theorem kX1_98 : Cond.constantLong RX1 98 (-9999) ∈ mm_T0 := mm_in 867 (by decide +kernel) rfl
theorem kX1_100 : Cond.constantLong RX1 100 9999 ∈ mm_T0 := mm_in 868 (by decide +kernel) rfl
theorem lX1_102 : Cond.methodLink RX1 102 yJ9_min_f86c9 ∈ mm_T0 := mm_in 869 (by decide +kernel) rfl
theorem lX1_108 : Cond.methodLink RX1 108 yJ9_max_f86c9 ∈ mm_T0 := mm_in 872 (by decide +kernel) rfl
theorem lX1_88 : Cond.methodLink RX1 88 yX1_heldStrength ∈ mm_T0 := mm_in 875 (by decide +kernel) rfl
theorem lX1_94 : Cond.methodLink RX1 94 yX1_putInOrder ∈ mm_T0 := mm_in 878 (by decide +kernel) rfl
theorem lX1_132 : Cond.methodLink RX1 132 yX1_noteOf ∈ mm_T0 := mm_in 882 (by decide +kernel) rfl
theorem lX10_196 : Cond.methodLink RX10 196 yX1_noteOf ∈ mm_T0 := mm_in 886 (by decide +kernel) rfl
theorem lX10_199 : Cond.methodLink RX10 199 yX1_strengthOf ∈ mm_T0 := mm_in 887 (by decide +kernel) rfl
theorem lL_57 : Cond.methodLink RL 57 yX10_tone ∈ mm_T0 := mm_in 891 (by decide +kernel) rfl
theorem lX10_202 : Cond.methodLink RX10 202 yX1_gatherTones ∈ mm_T0 := mm_in 895 (by decide +kernel) rfl
theorem lX1_138 : Cond.methodLink RX1 138 yX1_isWithin ∈ mm_T0 := mm_in 899 (by decide +kernel) rfl
theorem lX1_142 : Cond.methodLink RX1 142 yX1_strengthOf ∈ mm_T0 := mm_in 903 (by decide +kernel) rfl
theorem lX1_145 : Cond.methodLink RX1 145 yJ9_min_7cf53 ∈ mm_T0 := mm_in 904 (by decide +kernel) rfl
theorem lL_61 : Cond.methodLink RL 61 yX10_tones ∈ mm_T0 := mm_in 907 (by decide +kernel) rfl
theorem lL_66 : Cond.methodLink RL 66 yX10_alike ∈ mm_T0 := mm_in 911 (by decide +kernel) rfl
theorem lX10_217 : Cond.methodLink RX10 217 yX0_learn ∈ mm_T0 := mm_in 915 (by decide +kernel) rfl
theorem lX0_86 : Cond.methodLink RX0 86 yX1_listen ∈ mm_T0 := mm_in 919 (by decide +kernel) rfl
theorem lX0_89 : Cond.methodLink RX0 89 yX1_gatherTones ∈ mm_T0 := mm_in 920 (by decide +kernel) rfl
theorem lX0_92 : Cond.methodLink RX0 92 yX5_worthOf ∈ mm_T0 := mm_in 921 (by decide +kernel) rfl
theorem lX0_95 : Cond.methodLink RX0 95 yX0_numberOfTones ∈ mm_T0 := mm_in 925 (by decide +kernel) rfl
theorem lX0_105 : Cond.methodLink RX0 105 yX0_isSame ∈ mm_T0 := mm_in 929 (by decide +kernel) rfl
theorem lX0_109 : Cond.methodLink RX0 109 yX0_addChord ∈ mm_T0 := mm_in 933 (by decide +kernel) rfl
theorem lX10_220 : Cond.methodLink RX10 220 yX0_numberOf ∈ mm_T0 := mm_in 937 (by decide +kernel) rfl
theorem lL_71 : Cond.methodLink RL 71 yX10_hear ∈ mm_T0 := mm_in 941 (by decide +kernel) rfl
theorem lX10_226 : Cond.methodLink RX10 226 yX7_addHeard ∈ mm_T0 := mm_in 945 (by decide +kernel) rfl
theorem lL_75 : Cond.methodLink RL 75 yX10_fits ∈ mm_T0 := mm_in 949 (by decide +kernel) rfl
theorem lX10_229 : Cond.methodLink RX10 229 yX2_fitting ∈ mm_T0 := mm_in 953 (by decide +kernel) rfl
theorem lX2_36 : Cond.methodLink RX2 36 yJ6_bitCount_0f7a4 ∈ mm_T0 := mm_in 957 (by decide +kernel) rfl
theorem lX2_42 : Cond.methodLink RX2 42 yX0_learnWithin ∈ mm_T0 := mm_in 958 (by decide +kernel) rfl
theorem lX0_72 : Cond.methodLink RX0 72 yJ6_bitCount_0f7a4 ∈ mm_T0 := mm_in 962 (by decide +kernel) rfl
theorem lX0_78 : Cond.methodLink RX0 78 yX0_learn ∈ mm_T0 := mm_in 963 (by decide +kernel) rfl
theorem lX2_48 : Cond.methodLink RX2 48 yX0_numberOf ∈ mm_T0 := mm_in 967 (by decide +kernel) rfl
theorem lX2_60 : Cond.methodLink RX2 60 yX0_isSame ∈ mm_T0 := mm_in 968 (by decide +kernel) rfl
theorem lX2_64 : Cond.methodLink RX2 64 yX0_worthOf ∈ mm_T0 := mm_in 969 (by decide +kernel) rfl
theorem lX2_67 : Cond.methodLink RX2 67 yJ9_min_7cf53 ∈ mm_T0 := mm_in 973 (by decide +kernel) rfl
theorem lX2_73 : Cond.methodLink RX2 73 yJ9_max_7cf53 ∈ mm_T0 := mm_in 974 (by decide +kernel) rfl
theorem lL_79 : Cond.methodLink RL 79 yX10_mistaken ∈ mm_T0 := mm_in 976 (by decide +kernel) rfl
theorem lX10_233 : Cond.methodLink RX10 233 yX2_mistakes ∈ mm_T0 := mm_in 980 (by decide +kernel) rfl
theorem lX2_79 : Cond.methodLink RX2 79 yX0_beginGroups ∈ mm_T0 := mm_in 984 (by decide +kernel) rfl
theorem lX2_82 : Cond.methodLink RX2 82 yX0_leaderOf ∈ mm_T0 := mm_in 988 (by decide +kernel) rfl
theorem lL_83 : Cond.methodLink RL 83 yX10_pay ∈ mm_T0 := mm_in 992 (by decide +kernel) rfl
theorem lX10_237 : Cond.methodLink RX10 237 yX10_canDeal ∈ mm_T0 := mm_in 996 (by decide +kernel) rfl
theorem lX10_240 : Cond.methodLink RX10 240 yX10_isPrice ∈ mm_T0 := mm_in 1000 (by decide +kernel) rfl
theorem lX10_243 : Cond.methodLink RX10 243 yX9_findPayment ∈ mm_T0 := mm_in 1003 (by decide +kernel) rfl
theorem lX9_43 : Cond.methodLink RX9 43 yX5_heldBy ∈ mm_T0 := mm_in 1007 (by decide +kernel) rfl
theorem lX9_48 : Cond.methodLink RX9 48 yX0_learnWithin ∈ mm_T0 := mm_in 1011 (by decide +kernel) rfl
theorem lX9_54 : Cond.methodLink RX9 54 yX9_collectSafe ∈ mm_T0 := mm_in 1012 (by decide +kernel) rfl
theorem lX9_34 : Cond.methodLink RX9 34 yJ6_bitCount_0f7a4 ∈ mm_T0 := mm_in 1016 (by decide +kernel) rfl
theorem lX9_61 : Cond.methodLink RX9 61 yX0_beginGroups ∈ mm_T0 := mm_in 1017 (by decide +kernel) rfl
theorem lX9_64 : Cond.methodLink RX9 64 yX0_putInGroup ∈ mm_T0 := mm_in 1018 (by decide +kernel) rfl
theorem lX0_115 : Cond.methodLink RX0 115 yX0_leaderOf ∈ mm_T0 := mm_in 1022 (by decide +kernel) rfl
theorem lX9_72 : Cond.methodLink RX9 72 yX0_isMixed ∈ mm_T0 := mm_in 1024 (by decide +kernel) rfl
theorem lX9_58 : Cond.methodLink RX9 58 yX0_worthOf ∈ mm_T0 := mm_in 1028 (by decide +kernel) rfl
theorem lX10_246 : Cond.methodLink RX10 246 yX9_coinsTogether ∈ mm_T0 := mm_in 1029 (by decide +kernel) rfl
theorem lL_88 : Cond.methodLink RL 88 yX10_done ∈ mm_T0 := mm_in 1033 (by decide +kernel) rfl
theorem lX10_255 : Cond.methodLink RX10 255 yX5_hand ∈ mm_T0 := mm_in 1037 (by decide +kernel) rfl
theorem lL_92 : Cond.methodLink RL 92 yX10_prices ∈ mm_T0 := mm_in 1041 (by decide +kernel) rfl
theorem lX10_259 : Cond.methodLink RX10 259 yX9_payablePrices ∈ mm_T0 := mm_in 1045 (by decide +kernel) rfl
theorem lL_96 : Cond.methodLink RL 96 yX10_bestCounter ∈ mm_T0 := mm_in 1049 (by decide +kernel) rfl
theorem lL_100 : Cond.methodLink RL 100 yX10_payment ∈ mm_T0 := mm_in 1053 (by decide +kernel) rfl
theorem lL_104 : Cond.methodLink RL 104 yX10_rounds ∈ mm_T0 := mm_in 1057 (by decide +kernel) rfl
theorem lX10_277 : Cond.methodLink RX10 277 yX2_forgetClashes ∈ mm_T0 := mm_in 1061 (by decide +kernel) rfl
theorem lX10_280 : Cond.methodLink RX10 280 yX2_findClashes ∈ mm_T0 := mm_in 1065 (by decide +kernel) rfl
theorem lX2_94 : Cond.methodLink RX2 94 yX2_isClash ∈ mm_T0 := mm_in 1069 (by decide +kernel) rfl
theorem lX10_283 : Cond.methodLink RX10 283 yX2_fewestRounds ∈ mm_T0 := mm_in 1073 (by decide +kernel) rfl
theorem lX2_98 : Cond.methodLink RX2 98 yJ6_numberOfLeadingZeros_0f7a4 ∈ mm_T0 := mm_in 1077 (by decide +kernel) rfl
theorem kJ6_264 : Cond.constant RJ6 264 65536 ∈ mm_T0 := mm_in 1080 (by decide +kernel) rfl
theorem lX2_101 : Cond.methodLink RX2 101 yX2_fewestSplit ∈ mm_T0 := mm_in 1081 (by decide +kernel) rfl
theorem lL_108 : Cond.methodLink RL 108 yX10_land ∈ mm_T0 := mm_in 1085 (by decide +kernel) rfl
theorem lX10_286 : Cond.methodLink RX10 286 yX2_smallestLand ∈ mm_T0 := mm_in 1089 (by decide +kernel) rfl
theorem lX2_113 : Cond.methodLink RX2 113 yX2_hasUnsoundPart ∈ mm_T0 := mm_in 1093 (by decide +kernel) rfl
theorem lX2_117 : Cond.methodLink RX2 117 yX2_isLand ∈ mm_T0 := mm_in 1097 (by decide +kernel) rfl
theorem lL_112 : Cond.methodLink RL 112 yX10_forger ∈ mm_T0 := mm_in 1101 (by decide +kernel) rfl
theorem lX10_289 : Cond.methodLink RX10 289 yJ9_min_7cf53 ∈ mm_T0 := mm_in 1105 (by decide +kernel) rfl
theorem lL_116 : Cond.methodLink RL 116 yX10_seed ∈ mm_T0 := mm_in 1106 (by decide +kernel) rfl
theorem lL_120 : Cond.methodLink RL 120 yX10_year ∈ mm_T0 := mm_in 1110 (by decide +kernel) rfl
theorem lX10_297 : Cond.methodLink RX10 297 yX5_copyFrom ∈ mm_T0 := mm_in 1114 (by decide +kernel) rfl
theorem lX10_300 : Cond.methodLink RX10 300 yX10_drawn ∈ mm_T0 := mm_in 1115 (by decide +kernel) rfl
theorem kX10_313 : Cond.constantLong RX10 313 1103515245 ∈ mm_T0 := mm_in 1118 (by decide +kernel) rfl
theorem kX10_315 : Cond.constantLong RX10 315 12345 ∈ mm_T0 := mm_in 1119 (by decide +kernel) rfl
theorem kX10_317 : Cond.constantLong RX10 317 2147483648 ∈ mm_T0 := mm_in 1120 (by decide +kernel) rfl
theorem kX10_303 : Cond.constant RX10 303 65536 ∈ mm_T0 := mm_in 1121 (by decide +kernel) rfl
theorem lX10_304 : Cond.methodLink RX10 304 yX5_richest ∈ mm_T0 := mm_in 1122 (by decide +kernel) rfl
theorem lX5_65 : Cond.methodLink RX5 65 yX5_worthHeld ∈ mm_T0 := mm_in 1126 (by decide +kernel) rfl
theorem lX5_59 : Cond.methodLink RX5 59 yX5_heldBy ∈ mm_T0 := mm_in 1130 (by decide +kernel) rfl
theorem lX5_62 : Cond.methodLink RX5 62 yX5_worthOf ∈ mm_T0 := mm_in 1131 (by decide +kernel) rfl
theorem lX10_307 : Cond.methodLink RX10 307 yX5_worthHeld ∈ mm_T0 := mm_in 1132 (by decide +kernel) rfl
theorem lX10_310 : Cond.methodLink RX10 310 yX5_cracksOfAll ∈ mm_T0 := mm_in 1133 (by decide +kernel) rfl
theorem lX5_55 : Cond.methodLink RX5 55 yX5_cracks ∈ mm_T0 := mm_in 1137 (by decide +kernel) rfl
theorem lL_124 : Cond.methodLink RL 124 yX10_count ∈ mm_T0 := mm_in 1138 (by decide +kernel) rfl
theorem lX10_325 : Cond.methodLink RX10 325 yX5_worthOf ∈ mm_T0 := mm_in 1142 (by decide +kernel) rfl
theorem lL_128 : Cond.methodLink RL 128 yX10_image ∈ mm_T0 := mm_in 1143 (by decide +kernel) rfl
theorem lX10_328 : Cond.methodLink RX10 328 yX7_copyFrom ∈ mm_T0 := mm_in 1147 (by decide +kernel) rfl
theorem lL_132 : Cond.methodLink RL 132 yX10_back ∈ mm_T0 := mm_in 1152 (by decide +kernel) rfl
theorem kX11_127 : Cond.constant RX11 127 49152 ∈ mm_T0 := mm_in 1162 (by decide +kernel) rfl
theorem fX11_9 : mm_Fd RX11 9 11 1 (.array .int) := ⟨RX11, TX11, 68, tyX11, rfl, inT11, rfl, by decide, tyX11_ok, nmX11, mm_in 1163 (by decide +kernel) rfl, rfl, Or.inr (by decide)⟩
theorem fX11_13 : mm_Fd RX11 13 11 2 (.array .int) := ⟨RX11, TX11, 68, tyX11, rfl, inT11, rfl, by decide, tyX11_ok, nmX11, mm_in 1164 (by decide +kernel) rfl, rfl, Or.inr (by decide)⟩
theorem fX11_16 : mm_Fd RX11 16 11 3 (.array .int) := ⟨RX11, TX11, 68, tyX11, rfl, inT11, rfl, by decide, tyX11_ok, nmX11, mm_in 1165 (by decide +kernel) rfl, rfl, Or.inr (by decide)⟩
theorem fX11_19 : mm_Fd RX11 19 11 4 (.array .int) := ⟨RX11, TX11, 68, tyX11, rfl, inT11, rfl, by decide, tyX11_ok, nmX11, mm_in 1166 (by decide +kernel) rfl, rfl, Or.inr (by decide)⟩
theorem fX11_22 : mm_Fd RX11 22 11 5 (.array .int) := ⟨RX11, TX11, 68, tyX11, rfl, inT11, rfl, by decide, tyX11_ok, nmX11, mm_in 1167 (by decide +kernel) rfl, rfl, Or.inr (by decide)⟩
theorem fX11_25 : mm_Fd RX11 25 11 6 (.array .int) := ⟨RX11, TX11, 68, tyX11, rfl, inT11, rfl, by decide, tyX11_ok, nmX11, mm_in 1168 (by decide +kernel) rfl, rfl, Or.inr (by decide)⟩
theorem fX11_28 : mm_Fd RX11 28 11 7 (.array .int) := ⟨RX11, TX11, 68, tyX11, rfl, inT11, rfl, by decide, tyX11_ok, nmX11, mm_in 1169 (by decide +kernel) rfl, rfl, Or.inr (by decide)⟩
theorem fX11_31 : mm_Fd RX11 31 11 8 (.array .int) := ⟨RX11, TX11, 68, tyX11, rfl, inT11, rfl, by decide, tyX11_ok, nmX11, mm_in 1170 (by decide +kernel) rfl, rfl, Or.inr (by decide)⟩
theorem fX11_34 : mm_Fd RX11 34 11 9 (.array .int) := ⟨RX11, TX11, 68, tyX11, rfl, inT11, rfl, by decide, tyX11_ok, nmX11, mm_in 1171 (by decide +kernel) rfl, rfl, Or.inr (by decide)⟩
theorem fX11_37 : mm_Fd RX11 37 11 10 (.array .int) := ⟨RX11, TX11, 68, tyX11, rfl, inT11, rfl, by decide, tyX11_ok, nmX11, mm_in 1172 (by decide +kernel) rfl, rfl, Or.inr (by decide)⟩
theorem fX11_40 : mm_Fd RX11 40 11 11 (.array .int) := ⟨RX11, TX11, 68, tyX11, rfl, inT11, rfl, by decide, tyX11_ok, nmX11, mm_in 1173 (by decide +kernel) rfl, rfl, Or.inr (by decide)⟩
theorem fX11_43 : mm_Fd RX11 43 11 12 (.array .int) := ⟨RX11, TX11, 68, tyX11, rfl, inT11, rfl, by decide, tyX11_ok, nmX11, mm_in 1174 (by decide +kernel) rfl, rfl, Or.inr (by decide)⟩
theorem fX11_46 : mm_Fd RX11 46 11 13 (.array .int) := ⟨RX11, TX11, 68, tyX11, rfl, inT11, rfl, by decide, tyX11_ok, nmX11, mm_in 1175 (by decide +kernel) rfl, rfl, Or.inr (by decide)⟩
theorem fX11_49 : mm_Fd RX11 49 11 14 (.array .int) := ⟨RX11, TX11, 68, tyX11, rfl, inT11, rfl, by decide, tyX11_ok, nmX11, mm_in 1176 (by decide +kernel) rfl, rfl, Or.inr (by decide)⟩
theorem fX11_52 : mm_Fd RX11 52 11 15 (.array .int) := ⟨RX11, TX11, 68, tyX11, rfl, inT11, rfl, by decide, tyX11_ok, nmX11, mm_in 1177 (by decide +kernel) rfl, rfl, Or.inr (by decide)⟩
theorem fX11_55 : mm_Fd RX11 55 11 16 (.array .int) := ⟨RX11, TX11, 68, tyX11, rfl, inT11, rfl, by decide, tyX11_ok, nmX11, mm_in 1178 (by decide +kernel) rfl, rfl, Or.inr (by decide)⟩
theorem fX11_58 : mm_Fd RX11 58 11 17 (.array .int) := ⟨RX11, TX11, 68, tyX11, rfl, inT11, rfl, by decide, tyX11_ok, nmX11, mm_in 1179 (by decide +kernel) rfl, rfl, Or.inr (by decide)⟩
theorem fX11_61 : mm_Fd RX11 61 11 18 (.array .int) := ⟨RX11, TX11, 68, tyX11, rfl, inT11, rfl, by decide, tyX11_ok, nmX11, mm_in 1180 (by decide +kernel) rfl, rfl, Or.inr (by decide)⟩
theorem fX11_64 : mm_Fd RX11 64 11 19 (.array .int) := ⟨RX11, TX11, 68, tyX11, rfl, inT11, rfl, by decide, tyX11_ok, nmX11, mm_in 1181 (by decide +kernel) rfl, rfl, Or.inr (by decide)⟩
theorem fX11_181 : mm_Fd RX11 181 11 20 .int := ⟨RX11, TX11, 68, tyX11, rfl, inT11, rfl, by decide, tyX11_ok, nmX11, mm_in 1182 (by decide +kernel) rfl, rfl, Or.inl rfl⟩
theorem fX11_211 : mm_Fd RX11 211 11 21 .int := ⟨RX11, TX11, 68, tyX11, rfl, inT11, rfl, by decide, tyX11_ok, nmX11, mm_in 1183 (by decide +kernel) rfl, rfl, Or.inl rfl⟩
theorem fX11_208 : mm_Fd RX11 208 11 22 .int := ⟨RX11, TX11, 68, tyX11, rfl, inT11, rfl, by decide, tyX11_ok, nmX11, mm_in 1184 (by decide +kernel) rfl, rfl, Or.inl rfl⟩
theorem fX11_238 : mm_Fd RX11 238 11 23 .int := ⟨RX11, TX11, 68, tyX11, rfl, inT11, rfl, by decide, tyX11_ok, nmX11, mm_in 1185 (by decide +kernel) rfl, rfl, Or.inl rfl⟩
theorem fX11_347 : mm_Fd RX11 347 11 24 .int := ⟨RX11, TX11, 68, tyX11, rfl, inT11, rfl, by decide, tyX11_ok, nmX11, mm_in 1186 (by decide +kernel) rfl, rfl, Or.inl rfl⟩
theorem fX11_241 : mm_Fd RX11 241 11 25 .int := ⟨RX11, TX11, 68, tyX11, rfl, inT11, rfl, by decide, tyX11_ok, nmX11, mm_in 1187 (by decide +kernel) rfl, rfl, Or.inl rfl⟩
theorem fX11_282 : mm_Fd RX11 282 11 26 .int := ⟨RX11, TX11, 68, tyX11, rfl, inT11, rfl, by decide, tyX11_ok, nmX11, mm_in 1188 (by decide +kernel) rfl, rfl, Or.inl rfl⟩
theorem fX11_244 : mm_Fd RX11 244 11 27 .int := ⟨RX11, TX11, 68, tyX11, rfl, inT11, rfl, by decide, tyX11_ok, nmX11, mm_in 1189 (by decide +kernel) rfl, rfl, Or.inl rfl⟩
theorem fX11_279 : mm_Fd RX11 279 11 28 .int := ⟨RX11, TX11, 68, tyX11, rfl, inT11, rfl, by decide, tyX11_ok, nmX11, mm_in 1190 (by decide +kernel) rfl, rfl, Or.inl rfl⟩
theorem fX11_67 : mm_Fd RX11 67 11 29 .int := ⟨RX11, TX11, 68, tyX11, rfl, inT11, rfl, by decide, tyX11_ok, nmX11, mm_in 1191 (by decide +kernel) rfl, rfl, Or.inl rfl⟩
theorem fX11_310 : mm_Fd RX11 310 11 30 .boolean := ⟨RX11, TX11, 68, tyX11, rfl, inT11, rfl, by decide, tyX11_ok, nmX11, mm_in 1192 (by decide +kernel) rfl, rfl, Or.inl rfl⟩
theorem fX11_314 : mm_Fd RX11 314 11 31 .boolean := ⟨RX11, TX11, 68, tyX11, rfl, inT11, rfl, by decide, tyX11_ok, nmX11, mm_in 1193 (by decide +kernel) rfl, rfl, Or.inl rfl⟩
theorem fX11_71 : mm_Fd RX11 71 11 32 (.array .byte) := ⟨RX11, TX11, 68, tyX11, rfl, inT11, rfl, by decide, tyX11_ok, nmX11, mm_in 1194 (by decide +kernel) rfl, rfl, Or.inr (by decide)⟩
theorem fX11_75 : mm_Fd RX11 75 11 33 (.array .int) := ⟨RX11, TX11, 68, tyX11, rfl, inT11, rfl, by decide, tyX11_ok, nmX11, mm_in 1195 (by decide +kernel) rfl, rfl, Or.inr (by decide)⟩
theorem fX11_78 : mm_Fd RX11 78 11 34 (.array .int) := ⟨RX11, TX11, 68, tyX11, rfl, inT11, rfl, by decide, tyX11_ok, nmX11, mm_in 1196 (by decide +kernel) rfl, rfl, Or.inr (by decide)⟩
theorem fX11_81 : mm_Fd RX11 81 11 35 (.array .int) := ⟨RX11, TX11, 68, tyX11, rfl, inT11, rfl, by decide, tyX11_ok, nmX11, mm_in 1197 (by decide +kernel) rfl, rfl, Or.inr (by decide)⟩
theorem fX11_84 : mm_Fd RX11 84 11 36 (.array .int) := ⟨RX11, TX11, 68, tyX11, rfl, inT11, rfl, by decide, tyX11_ok, nmX11, mm_in 1198 (by decide +kernel) rfl, rfl, Or.inr (by decide)⟩
theorem fX11_87 : mm_Fd RX11 87 11 37 (.array .int) := ⟨RX11, TX11, 68, tyX11, rfl, inT11, rfl, by decide, tyX11_ok, nmX11, mm_in 1199 (by decide +kernel) rfl, rfl, Or.inr (by decide)⟩
theorem fX11_90 : mm_Fd RX11 90 11 38 (.array .int) := ⟨RX11, TX11, 68, tyX11, rfl, inT11, rfl, by decide, tyX11_ok, nmX11, mm_in 1200 (by decide +kernel) rfl, rfl, Or.inr (by decide)⟩
theorem fX11_93 : mm_Fd RX11 93 11 39 (.array .int) := ⟨RX11, TX11, 68, tyX11, rfl, inT11, rfl, by decide, tyX11_ok, nmX11, mm_in 1201 (by decide +kernel) rfl, rfl, Or.inr (by decide)⟩
theorem fX11_96 : mm_Fd RX11 96 11 40 (.array .int) := ⟨RX11, TX11, 68, tyX11, rfl, inT11, rfl, by decide, tyX11_ok, nmX11, mm_in 1202 (by decide +kernel) rfl, rfl, Or.inr (by decide)⟩
theorem fX11_99 : mm_Fd RX11 99 11 41 (.array .long) := ⟨RX11, TX11, 68, tyX11, rfl, inT11, rfl, by decide, tyX11_ok, nmX11, mm_in 1203 (by decide +kernel) rfl, rfl, Or.inr (by decide)⟩
theorem fX11_103 : mm_Fd RX11 103 11 42 (.array .long) := ⟨RX11, TX11, 68, tyX11, rfl, inT11, rfl, by decide, tyX11_ok, nmX11, mm_in 1204 (by decide +kernel) rfl, rfl, Or.inr (by decide)⟩
theorem fX11_106 : mm_Fd RX11 106 11 43 (.array .int) := ⟨RX11, TX11, 68, tyX11, rfl, inT11, rfl, by decide, tyX11_ok, nmX11, mm_in 1205 (by decide +kernel) rfl, rfl, Or.inr (by decide)⟩
theorem fX11_109 : mm_Fd RX11 109 11 44 (.array .int) := ⟨RX11, TX11, 68, tyX11, rfl, inT11, rfl, by decide, tyX11_ok, nmX11, mm_in 1206 (by decide +kernel) rfl, rfl, Or.inr (by decide)⟩
theorem fX11_112 : mm_Fd RX11 112 11 45 (.array .int) := ⟨RX11, TX11, 68, tyX11, rfl, inT11, rfl, by decide, tyX11_ok, nmX11, mm_in 1207 (by decide +kernel) rfl, rfl, Or.inr (by decide)⟩
theorem fX11_115 : mm_Fd RX11 115 11 46 (.array .int) := ⟨RX11, TX11, 68, tyX11, rfl, inT11, rfl, by decide, tyX11_ok, nmX11, mm_in 1208 (by decide +kernel) rfl, rfl, Or.inr (by decide)⟩
theorem fX11_118 : mm_Fd RX11 118 11 47 (.array .int) := ⟨RX11, TX11, 68, tyX11, rfl, inT11, rfl, by decide, tyX11_ok, nmX11, mm_in 1209 (by decide +kernel) rfl, rfl, Or.inr (by decide)⟩
theorem fX11_121 : mm_Fd RX11 121 11 48 (.array .int) := ⟨RX11, TX11, 68, tyX11, rfl, inT11, rfl, by decide, tyX11_ok, nmX11, mm_in 1210 (by decide +kernel) rfl, rfl, Or.inr (by decide)⟩
theorem fX11_422 : mm_Fd RX11 422 11 49 .int := ⟨RX11, TX11, 68, tyX11, rfl, inT11, rfl, by decide, tyX11_ok, nmX11, mm_in 1211 (by decide +kernel) rfl, rfl, Or.inl rfl⟩
theorem fX11_124 : mm_Fd RX11 124 11 50 (.array .int) := ⟨RX11, TX11, 68, tyX11, rfl, inT11, rfl, by decide, tyX11_ok, nmX11, mm_in 1212 (by decide +kernel) rfl, rfl, Or.inr (by decide)⟩
theorem fX11_128 : mm_Fd RX11 128 11 51 (.array .int) := ⟨RX11, TX11, 68, tyX11, rfl, inT11, rfl, by decide, tyX11_ok, nmX11, mm_in 1213 (by decide +kernel) rfl, rfl, Or.inr (by decide)⟩
theorem fX11_131 : mm_Fd RX11 131 11 52 (.array .long) := ⟨RX11, TX11, 68, tyX11, rfl, inT11, rfl, by decide, tyX11_ok, nmX11, mm_in 1214 (by decide +kernel) rfl, rfl, Or.inr (by decide)⟩
theorem fX11_134 : mm_Fd RX11 134 11 53 (.array .boolean) := ⟨RX11, TX11, 68, tyX11, rfl, inT11, rfl, by decide, tyX11_ok, nmX11, mm_in 1215 (by decide +kernel) rfl, rfl, Or.inr (by decide)⟩
theorem fX11_138 : mm_Fd RX11 138 11 54 (.array .boolean) := ⟨RX11, TX11, 68, tyX11, rfl, inT11, rfl, by decide, tyX11_ok, nmX11, mm_in 1216 (by decide +kernel) rfl, rfl, Or.inr (by decide)⟩
theorem fX11_467 : mm_Fd RX11 467 11 55 .int := ⟨RX11, TX11, 68, tyX11, rfl, inT11, rfl, by decide, tyX11_ok, nmX11, mm_in 1217 (by decide +kernel) rfl, rfl, Or.inl rfl⟩
theorem fX11_470 : mm_Fd RX11 470 11 56 .int := ⟨RX11, TX11, 68, tyX11, rfl, inT11, rfl, by decide, tyX11_ok, nmX11, mm_in 1218 (by decide +kernel) rfl, rfl, Or.inl rfl⟩
theorem fX11_141 : mm_Fd RX11 141 11 57 (.array .int) := ⟨RX11, TX11, 68, tyX11, rfl, inT11, rfl, by decide, tyX11_ok, nmX11, mm_in 1219 (by decide +kernel) rfl, rfl, Or.inr (by decide)⟩
theorem fX11_144 : mm_Fd RX11 144 11 58 (.array .int) := ⟨RX11, TX11, 68, tyX11, rfl, inT11, rfl, by decide, tyX11_ok, nmX11, mm_in 1220 (by decide +kernel) rfl, rfl, Or.inr (by decide)⟩
theorem fX11_147 : mm_Fd RX11 147 11 59 (.array .boolean) := ⟨RX11, TX11, 68, tyX11, rfl, inT11, rfl, by decide, tyX11_ok, nmX11, mm_in 1221 (by decide +kernel) rfl, rfl, Or.inr (by decide)⟩
theorem fX11_150 : mm_Fd RX11 150 11 60 (.array .boolean) := ⟨RX11, TX11, 68, tyX11, rfl, inT11, rfl, by decide, tyX11_ok, nmX11, mm_in 1222 (by decide +kernel) rfl, rfl, Or.inr (by decide)⟩
theorem fX11_153 : mm_Fd RX11 153 11 61 (.array .int) := ⟨RX11, TX11, 68, tyX11, rfl, inT11, rfl, by decide, tyX11_ok, nmX11, mm_in 1223 (by decide +kernel) rfl, rfl, Or.inr (by decide)⟩
theorem fX11_156 : mm_Fd RX11 156 11 62 (.array .int) := ⟨RX11, TX11, 68, tyX11, rfl, inT11, rfl, by decide, tyX11_ok, nmX11, mm_in 1224 (by decide +kernel) rfl, rfl, Or.inr (by decide)⟩
theorem fX11_159 : mm_Fd RX11 159 11 63 (.array .int) := ⟨RX11, TX11, 68, tyX11, rfl, inT11, rfl, by decide, tyX11_ok, nmX11, mm_in 1225 (by decide +kernel) rfl, rfl, Or.inr (by decide)⟩
theorem fX11_162 : mm_Fd RX11 162 11 64 (.array .int) := ⟨RX11, TX11, 68, tyX11, rfl, inT11, rfl, by decide, tyX11_ok, nmX11, mm_in 1226 (by decide +kernel) rfl, rfl, Or.inr (by decide)⟩
theorem fX11_165 : mm_Fd RX11 165 11 65 (.array .boolean) := ⟨RX11, TX11, 68, tyX11, rfl, inT11, rfl, by decide, tyX11_ok, nmX11, mm_in 1227 (by decide +kernel) rfl, rfl, Or.inr (by decide)⟩
theorem fX11_519 : mm_Fd RX11 519 11 66 .int := ⟨RX11, TX11, 68, tyX11, rfl, inT11, rfl, by decide, tyX11_ok, nmX11, mm_in 1228 (by decide +kernel) rfl, rfl, Or.inl rfl⟩
theorem fX11_516 : mm_Fd RX11 516 11 67 .boolean := ⟨RX11, TX11, 68, tyX11, rfl, inT11, rfl, by decide, tyX11_ok, nmX11, mm_in 1229 (by decide +kernel) rfl, rfl, Or.inl rfl⟩
theorem lL_17 : Cond.methodLink RL 17 yX11_feed ∈ mm_T0 := mm_in 1367 (by decide +kernel) rfl
theorem lX11_184 : Cond.methodLink RX11 184 yX11_put ∈ mm_T0 := mm_in 1371 (by decide +kernel) rfl
theorem lL_22 : Cond.methodLink RL 22 yX11_end ∈ mm_T0 := mm_in 1375 (by decide +kernel) rfl
theorem lL_27 : Cond.methodLink RL 27 yX11_mint ∈ mm_T0 := mm_in 1379 (by decide +kernel) rfl
theorem lX11_326 : Cond.methodLink RX11 326 yX11_starts ∈ mm_T0 := mm_in 1383 (by decide +kernel) rfl
theorem lX11_329 : Cond.methodLink RX11 329 yX11_mintClause ∈ mm_T0 := mm_in 1387 (by decide +kernel) rfl
theorem lX11_231 : Cond.methodLink RX11 231 yX11_blanks ∈ mm_T0 := mm_in 1391 (by decide +kernel) rfl
theorem lX11_214 : Cond.methodLink RX11 214 yX11_sign ∈ mm_T0 := mm_in 1395 (by decide +kernel) rfl
theorem lX11_317 : Cond.methodLink RX11 317 yX11_mintWord ∈ mm_T0 := mm_in 1399 (by decide +kernel) rfl
theorem lX11_234 : Cond.methodLink RX11 234 yX11_stood ∈ mm_T0 := mm_in 1406 (by decide +kernel) rfl
theorem lX11_222 : Cond.methodLink RX11 222 yJ0_length_8abf5 ∈ mm_T0 := mm_in 1410 (by decide +kernel) rfl
theorem lX11_227 : Cond.methodLink RX11 227 yJ0_charAt_5068e ∈ mm_T0 := mm_in 1411 (by decide +kernel) rfl
theorem lX11_247 : Cond.methodLink RX11 247 yX11_fails ∈ mm_T0 := mm_in 1412 (by decide +kernel) rfl
theorem lX11_320 : Cond.methodLink RX11 320 yX11_isFull ∈ mm_T0 := mm_in 1416 (by decide +kernel) rfl
theorem lX11_323 : Cond.methodLink RX11 323 yX11_mintPart ∈ mm_T0 := mm_in 1420 (by decide +kernel) rfl
theorem lX11_306 : Cond.methodLink RX11 306 yX11_amount ∈ mm_T0 := mm_in 1424 (by decide +kernel) rfl
theorem kX11_255 : Cond.constant RX11 255 99999 ∈ mm_T0 := mm_in 1428 (by decide +kernel) rfl
theorem lX11_256 : Cond.methodLink RX11 256 yX11_digits ∈ mm_T0 := mm_in 1429 (by decide +kernel) rfl
theorem lX11_251 : Cond.methodLink RX11 251 yX11_isDigit ∈ mm_T0 := mm_in 1433 (by decide +kernel) rfl
theorem kX11_218 : Cond.constantLong RX11 218 48 ∈ mm_T0 := mm_in 1437 (by decide +kernel) rfl
theorem kX11_220 : Cond.constantLong RX11 220 57 ∈ mm_T0 := mm_in 1438 (by decide +kernel) rfl
theorem lX11_171 : Cond.methodLink RX11 171 yX11_in ∈ mm_T0 := mm_in 1439 (by decide +kernel) rfl
theorem lX11_332 : Cond.methodLink RX11 332 yX11_goesOn ∈ mm_T0 := mm_in 1442 (by decide +kernel) rfl
theorem lX11_335 : Cond.methodLink RX11 335 yX11_lay ∈ mm_T0 := mm_in 1446 (by decide +kernel) rfl
theorem lL_31 : Cond.methodLink RL 31 yX11_law ∈ mm_T0 := mm_in 1449 (by decide +kernel) rfl
theorem lX11_350 : Cond.methodLink RX11 350 yX11_lawClause ∈ mm_T0 := mm_in 1453 (by decide +kernel) rfl
theorem lX11_276 : Cond.methodLink RX11 276 yX11_sum ∈ mm_T0 := mm_in 1459 (by decide +kernel) rfl
theorem lX11_273 : Cond.methodLink RX11 273 yX11_term ∈ mm_T0 := mm_in 1463 (by decide +kernel) rfl
theorem lX11_270 : Cond.methodLink RX11 270 yX11_value ∈ mm_T0 := mm_in 1467 (by decide +kernel) rfl
theorem lX11_260 : Cond.methodLink RX11 260 yX11_isCounted ∈ mm_T0 := mm_in 1471 (by decide +kernel) rfl
theorem lX11_263 : Cond.methodLink RX11 263 yX11_entry ∈ mm_T0 := mm_in 1475 (by decide +kernel) rfl
theorem lX11_266 : Cond.methodLink RX11 266 yX11_wordOf ∈ mm_T0 := mm_in 1479 (by decide +kernel) rfl
theorem lX11_341 : Cond.methodLink RX11 341 yX11_takes ∈ mm_T0 := mm_in 1490 (by decide +kernel) rfl
theorem lX11_344 : Cond.methodLink RX11 344 yX11_test ∈ mm_T0 := mm_in 1494 (by decide +kernel) rfl
theorem lX11_296 : Cond.methodLink RX11 296 yX11_fact ∈ mm_T0 := mm_in 1498 (by decide +kernel) rfl
theorem lX11_290 : Cond.methodLink RX11 290 yX11_opens ∈ mm_T0 := mm_in 1503 (by decide +kernel) rfl
theorem lX11_293 : Cond.methodLink RX11 293 yX11_compared ∈ mm_T0 := mm_in 1507 (by decide +kernel) rfl
theorem lX11_299 : Cond.methodLink RX11 299 yX11_answers ∈ mm_T0 := mm_in 1511 (by decide +kernel) rfl
theorem lX11_285 : Cond.methodLink RX11 285 yX11_top ∈ mm_T0 := mm_in 1515 (by decide +kernel) rfl
theorem lL_36 : Cond.methodLink RL 36 yX11_coin ∈ mm_T0 := mm_in 1521 (by decide +kernel) rfl
theorem lX11_384 : Cond.methodLink RX11 384 yX11_isCoin ∈ mm_T0 := mm_in 1525 (by decide +kernel) rfl
theorem lX11_361 : Cond.methodLink RX11 361 yX11_cracks ∈ mm_T0 := mm_in 1529 (by decide +kernel) rfl
theorem lL_40 : Cond.methodLink RL 40 yX11_counter ∈ mm_T0 := mm_in 1533 (by decide +kernel) rfl
theorem lX11_388 : Cond.methodLink RX11 388 yX11_isCounter ∈ mm_T0 := mm_in 1537 (by decide +kernel) rfl
theorem lL_44 : Cond.methodLink RL 44 yX11_give ∈ mm_T0 := mm_in 1541 (by decide +kernel) rfl
theorem lX11_391 : Cond.methodLink RX11 391 yX11_isPerson ∈ mm_T0 := mm_in 1545 (by decide +kernel) rfl
theorem kX11_175 : Cond.constantLong RX11 175 5 ∈ mm_T0 := mm_in 1548 (by decide +kernel) rfl
theorem lL_48 : Cond.methodLink RL 48 yX11_retune ∈ mm_T0 := mm_in 1549 (by decide +kernel) rfl
theorem kX11_394 : Cond.constantLong RX11 394 2400 ∈ mm_T0 := mm_in 1553 (by decide +kernel) rfl
theorem lL_52 : Cond.methodLink RL 52 yX11_fall ∈ mm_T0 := mm_in 1554 (by decide +kernel) rfl
theorem lX11_396 : Cond.methodLink RX11 396 yX11_isSet ∈ mm_T0 := mm_in 1558 (by decide +kernel) rfl
theorem lX11_399 : Cond.methodLink RX11 399 yX11_canFall ∈ mm_T0 := mm_in 1562 (by decide +kernel) rfl
theorem lX11_177 : Cond.methodLink RX11 177 yX11_has ∈ mm_T0 := mm_in 1566 (by decide +kernel) rfl
theorem lX11_402 : Cond.methodLink RX11 402 yX11_fallen ∈ mm_T0 := mm_in 1569 (by decide +kernel) rfl
theorem lX11_363 : Cond.methodLink RX11 363 yX11_bits ∈ mm_T0 := mm_in 1573 (by decide +kernel) rfl
theorem lL_56 : Cond.methodLink RL 56 yX11_sounds ∈ mm_T0 := mm_in 1576 (by decide +kernel) rfl
theorem lX11_408 : Cond.methodLink RX11 408 yX11_isAsked ∈ mm_T0 := mm_in 1580 (by decide +kernel) rfl
theorem lX11_405 : Cond.methodLink RX11 405 yX11_isLaw ∈ mm_T0 := mm_in 1584 (by decide +kernel) rfl
theorem lX11_412 : Cond.methodLink RX11 412 yX11_asks ∈ mm_T0 := mm_in 1588 (by decide +kernel) rfl
theorem lX11_366 : Cond.methodLink RX11 366 yX11_loudest ∈ mm_T0 := mm_in 1592 (by decide +kernel) rfl
theorem lX11_416 : Cond.methodLink RX11 416 yX11_noteNow ∈ mm_T0 := mm_in 1596 (by decide +kernel) rfl
theorem lX11_372 : Cond.methodLink RX11 372 yX11_sound ∈ mm_T0 := mm_in 1600 (by decide +kernel) rfl
theorem lX11_368 : Cond.methodLink RX11 368 yX11_answer ∈ mm_T0 := mm_in 1604 (by decide +kernel) rfl
theorem lX11_357 : Cond.methodLink RX11 357 yX11_both ∈ mm_T0 := mm_in 1608 (by decide +kernel) rfl
theorem lX11_353 : Cond.methodLink RX11 353 yX11_truth ∈ mm_T0 := mm_in 1611 (by decide +kernel) rfl
theorem kX11_376 : Cond.constantLong RX11 376 (-9999) ∈ mm_T0 := mm_in 1614 (by decide +kernel) rfl
theorem kX11_378 : Cond.constantLong RX11 378 9999 ∈ mm_T0 := mm_in 1615 (by decide +kernel) rfl
theorem lX11_380 : Cond.methodLink RX11 380 yX11_held ∈ mm_T0 := mm_in 1616 (by decide +kernel) rfl
theorem lX11_419 : Cond.methodLink RX11 419 yX11_strengthNow ∈ mm_T0 := mm_in 1619 (by decide +kernel) rfl
theorem lL_60 : Cond.methodLink RL 60 yX11_tone ∈ mm_T0 := mm_in 1623 (by decide +kernel) rfl
theorem kX11_428 : Cond.constantLong RX11 428 2 ∈ mm_T0 := mm_in 1627 (by decide +kernel) rfl
theorem lX11_430 : Cond.methodLink RX11 430 yX11_sings ∈ mm_T0 := mm_in 1628 (by decide +kernel) rfl
theorem lX11_425 : Cond.methodLink RX11 425 yX11_tones0 ∈ mm_T0 := mm_in 1632 (by decide +kernel) rfl
theorem lL_65 : Cond.methodLink RL 65 yX11_tones ∈ mm_T0 := mm_in 1636 (by decide +kernel) rfl
theorem lL_70 : Cond.methodLink RL 70 yX11_alike ∈ mm_T0 := mm_in 1640 (by decide +kernel) rfl
theorem lX11_435 : Cond.methodLink RX11 435 yX11_keepsChord ∈ mm_T0 := mm_in 1644 (by decide +kernel) rfl
theorem kX11_433 : Cond.constantLong RX11 433 1000003 ∈ mm_T0 := mm_in 1648 (by decide +kernel) rfl
theorem lX11_438 : Cond.methodLink RX11 438 yX11_areAlike ∈ mm_T0 := mm_in 1649 (by decide +kernel) rfl
theorem lL_74 : Cond.methodLink RL 74 yX11_hear ∈ mm_T0 := mm_in 1653 (by decide +kernel) rfl
theorem lL_78 : Cond.methodLink RL 78 yX11_fits ∈ mm_T0 := mm_in 1657 (by decide +kernel) rfl
theorem kX11_441 : Cond.constantLong RX11 441 4 ∈ mm_T0 := mm_in 1661 (by decide +kernel) rfl
theorem lX11_443 : Cond.methodLink RX11 443 yX11_isHeard ∈ mm_T0 := mm_in 1662 (by decide +kernel) rfl
theorem lX11_446 : Cond.methodLink RX11 446 yX11_worthOf ∈ mm_T0 := mm_in 1666 (by decide +kernel) rfl
theorem lL_82 : Cond.methodLink RL 82 yX11_mistaken ∈ mm_T0 := mm_in 1670 (by decide +kernel) rfl
theorem kX11_449 : Cond.constantLong RX11 449 12 ∈ mm_T0 := mm_in 1674 (by decide +kernel) rfl
theorem lX11_451 : Cond.methodLink RX11 451 yX11_keepsAll ∈ mm_T0 := mm_in 1675 (by decide +kernel) rfl
theorem lX11_455 : Cond.methodLink RX11 455 yX11_mistakenFor ∈ mm_T0 := mm_in 1679 (by decide +kernel) rfl
theorem lL_87 : Cond.methodLink RL 87 yX11_pay ∈ mm_T0 := mm_in 1683 (by decide +kernel) rfl
theorem lX11_473 : Cond.methodLink RX11 473 yX11_isPay ∈ mm_T0 := mm_in 1687 (by decide +kernel) rfl
theorem lX11_477 : Cond.methodLink RX11 477 yX11_pays ∈ mm_T0 := mm_in 1691 (by decide +kernel) rfl
theorem lX11_459 : Cond.methodLink RX11 459 yX11_heldBy ∈ mm_T0 := mm_in 1695 (by decide +kernel) rfl
theorem lX11_462 : Cond.methodLink RX11 462 yX11_findsSafe ∈ mm_T0 := mm_in 1699 (by decide +kernel) rfl
theorem kX11_465 : Cond.constantLong RX11 465 11999 ∈ mm_T0 := mm_in 1703 (by decide +kernel) rfl
theorem lL_91 : Cond.methodLink RL 91 yX11_done ∈ mm_T0 := mm_in 1704 (by decide +kernel) rfl
theorem lL_95 : Cond.methodLink RL 95 yX11_prices ∈ mm_T0 := mm_in 1708 (by decide +kernel) rfl
theorem kX11_481 : Cond.constantLong RX11 481 999 ∈ mm_T0 := mm_in 1712 (by decide +kernel) rfl
theorem lX11_483 : Cond.methodLink RX11 483 yX11_manyPrices ∈ mm_T0 := mm_in 1713 (by decide +kernel) rfl
theorem lL_99 : Cond.methodLink RL 99 yX11_bestCounter ∈ mm_T0 := mm_in 1717 (by decide +kernel) rfl
theorem lL_103 : Cond.methodLink RL 103 yX11_payment ∈ mm_T0 := mm_in 1721 (by decide +kernel) rfl
theorem lL_107 : Cond.methodLink RL 107 yX11_rounds ∈ mm_T0 := mm_in 1725 (by decide +kernel) rfl
theorem lX11_486 : Cond.methodLink RX11 486 yX11_isClash ∈ mm_T0 := mm_in 1729 (by decide +kernel) rfl
theorem lX11_489 : Cond.methodLink RX11 489 yX11_isQuiet ∈ mm_T0 := mm_in 1733 (by decide +kernel) rfl
theorem lL_111 : Cond.methodLink RL 111 yX11_land ∈ mm_T0 := mm_in 1737 (by decide +kernel) rfl
theorem kX11_492 : Cond.constantLong RX11 492 200 ∈ mm_T0 := mm_in 1741 (by decide +kernel) rfl
theorem lX11_494 : Cond.methodLink RX11 494 yX11_findsBad ∈ mm_T0 := mm_in 1742 (by decide +kernel) rfl
theorem lX11_497 : Cond.methodLink RX11 497 yX11_hasPrices ∈ mm_T0 := mm_in 1746 (by decide +kernel) rfl
theorem lL_115 : Cond.methodLink RL 115 yX11_forger ∈ mm_T0 := mm_in 1750 (by decide +kernel) rfl
theorem lL_119 : Cond.methodLink RL 119 yX11_seed ∈ mm_T0 := mm_in 1754 (by decide +kernel) rfl
theorem lL_123 : Cond.methodLink RL 123 yX11_year ∈ mm_T0 := mm_in 1758 (by decide +kernel) rfl
theorem kX11_507 : Cond.constantLong RX11 507 500 ∈ mm_T0 := mm_in 1762 (by decide +kernel) rfl
theorem lX11_509 : Cond.methodLink RX11 509 yX11_draws ∈ mm_T0 := mm_in 1763 (by decide +kernel) rfl
theorem kX11_500 : Cond.constantLong RX11 500 1103515245 ∈ mm_T0 := mm_in 1767 (by decide +kernel) rfl
theorem kX11_502 : Cond.constantLong RX11 502 12345 ∈ mm_T0 := mm_in 1768 (by decide +kernel) rfl
theorem kX11_504 : Cond.constantLong RX11 504 2147483648 ∈ mm_T0 := mm_in 1769 (by decide +kernel) rfl
theorem kX11_506 : Cond.constant RX11 506 65536 ∈ mm_T0 := mm_in 1770 (by decide +kernel) rfl
theorem lL_127 : Cond.methodLink RL 127 yX11_count ∈ mm_T0 := mm_in 1771 (by decide +kernel) rfl
theorem kX11_512 : Cond.constantLong RX11 512 10 ∈ mm_T0 := mm_in 1775 (by decide +kernel) rfl
theorem kX11_514 : Cond.constantLong RX11 514 15 ∈ mm_T0 := mm_in 1776 (by decide +kernel) rfl
theorem lL_131 : Cond.methodLink RL 131 yX11_image ∈ mm_T0 := mm_in 1777 (by decide +kernel) rfl
theorem kX11_526 : Cond.constantLong RX11 526 3 ∈ mm_T0 := mm_in 1781 (by decide +kernel) rfl
theorem lX11_528 : Cond.methodLink RX11 528 yX11_carriesAll ∈ mm_T0 := mm_in 1782 (by decide +kernel) rfl
theorem lX11_522 : Cond.methodLink RX11 522 yX11_carry ∈ mm_T0 := mm_in 1786 (by decide +kernel) rfl
theorem lL_135 : Cond.methodLink RL 135 yX11_back ∈ mm_T0 := mm_in 1790 (by decide +kernel) rfl
