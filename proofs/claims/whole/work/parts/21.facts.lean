theorem M_X0_workOut : znar 0 = 5 ∧ zmaxl 0 = 9 ∧ zstat 0 = false ∧ zown 0 = 0 := by decide +kernel
theorem G_X0_workOut : zcode 0 = C_X0_workOut_0 := by decide +kernel
theorem M_X0_giveFirst : znar 1 = 5 ∧ zmaxl 1 = 11 ∧ zstat 1 = false ∧ zown 1 = 0 := by decide +kernel
theorem G_X0_giveFirst : zcode 1 = C_X0_giveFirst_0 := by decide +kernel
theorem M_X0_moveToPoor : znar 2 = 4 ∧ zmaxl 2 = 13 ∧ zstat 2 = false ∧ zown 2 = 0 := by decide +kernel
theorem G_X0_moveToPoor : zcode 2 = C_X0_moveToPoor_0 := by decide +kernel
theorem M_X0_nextToMove : znar 3 = 3 ∧ zmaxl 3 = 5 ∧ zstat 3 = false ∧ zown 3 = 0 := by decide +kernel
theorem G_X0_nextToMove : zcode 3 = C_X0_nextToMove_0 := by decide +kernel
theorem M_X0_setAlike : znar 4 = 2 ∧ zmaxl 4 = 5 ∧ zstat 4 = false ∧ zown 4 = 0 := by decide +kernel
theorem G_X0_setAlike : zcode 4 = C_X0_setAlike_0 := by decide +kernel
theorem M_X0_hasSome : znar 5 = 3 ∧ zmaxl 5 = 3 ∧ zstat 5 = false ∧ zown 5 = 0 := by decide +kernel
theorem G_X0_hasSome : zcode 5 = C_X0_hasSome_0 := by decide +kernel
theorem M_X0_bitsOf : znar 6 = 2 ∧ zmaxl 6 = 4 ∧ zstat 6 = false ∧ zown 6 = 0 := by decide +kernel
theorem G_X0_bitsOf : zcode 6 = C_X0_bitsOf_0 := by decide +kernel
theorem M_X1_isFull : znar 7 = 1 ∧ zmaxl 7 = 1 ∧ zstat 7 = false ∧ zown 7 = 1 := by decide +kernel
theorem G_X1_isFull : zcode 7 = C_X1_isFull_0 := by decide +kernel
theorem M_X1_append : znar 8 = 3 ∧ zmaxl 8 = 3 ∧ zstat 8 = false ∧ zown 8 = 1 := by decide +kernel
theorem G_X1_append : zcode 8 = C_X1_append_0 := by decide +kernel
theorem M_X1_empty : znar 9 = 1 ∧ zmaxl 9 = 1 ∧ zstat 9 = false ∧ zown 9 = 1 := by decide +kernel
theorem G_X1_empty : zcode 9 = C_X1_empty_0 := by decide +kernel
theorem M_X1_become : znar 10 = 2 ∧ zmaxl 10 = 2 ∧ zstat 10 = false ∧ zown 10 = 1 := by decide +kernel
theorem G_X1_become : zcode 10 = C_X1_become_0 := by decide +kernel
theorem M_X2_beginWith : znar 11 = 2 ∧ zmaxl 11 = 2 ∧ zstat 11 = false ∧ zown 11 = 2 := by decide +kernel
theorem G_X2_beginWith : zcode 11 = C_X2_beginWith_0 := by decide +kernel
theorem M_X2_addThing : znar 12 = 1 ∧ zmaxl 12 = 3 ∧ zstat 12 = false ∧ zown 12 = 2 := by decide +kernel
theorem G_X2_addThing : zcode 12 = C_X2_addThing_0 := by decide +kernel
theorem M_X2_mendCut : znar 13 = 1 ∧ zmaxl 13 = 1 ∧ zstat 13 = false ∧ zown 13 = 2 := by decide +kernel
theorem G_X2_mendCut : zcode 13 = C_X2_mendCut_0 := by decide +kernel
theorem M_X2_giveWhole : znar 14 = 3 ∧ zmaxl 14 = 3 ∧ zstat 14 = false ∧ zown 14 = 2 := by decide +kernel
theorem G_X2_giveWhole : zcode 14 = C_X2_giveWhole_0 := by decide +kernel
theorem M_X2_cutThing : znar 15 = 5 ∧ zmaxl 15 = 7 ∧ zstat 15 = false ∧ zown 15 = 2 := by decide +kernel
theorem G_X2_cutThing : zcode 15 = C_X2_cutThing_0 := by decide +kernel
theorem M_X2_divideBy : znar 16 = 2 ∧ zmaxl 16 = 2 ∧ zstat 16 = false ∧ zown 16 = 2 := by decide +kernel
theorem G_X2_divideBy : zcode 16 = C_X2_divideBy_0 := by decide +kernel
theorem M_X2_partsOf : znar 17 = 3 ∧ zmaxl 17 = 3 ∧ zstat 17 = false ∧ zown 17 = 2 := by decide +kernel
theorem G_X2_partsOf : zcode 17 = C_X2_partsOf_0 := by decide +kernel
theorem M_X2_total : znar 18 = 2 ∧ zmaxl 18 = 2 ∧ zstat 18 = false ∧ zown 18 = 2 := by decide +kernel
theorem G_X2_total : zcode 18 = C_X2_total_0 := by decide +kernel
theorem M_X2_worth : znar 19 = 3 ∧ zmaxl 19 = 6 ∧ zstat 19 = false ∧ zown 19 = 2 := by decide +kernel
theorem G_X2_worth : zcode 19 = C_X2_worth_0 := by decide +kernel
theorem M_X2_bitsOf : znar 20 = 2 ∧ zmaxl 20 = 4 ∧ zstat 20 = false ∧ zown 20 = 2 := by decide +kernel
theorem G_X2_bitsOf : zcode 20 = C_X2_bitsOf_0 := by decide +kernel
theorem M_X2_cuts : znar 21 = 1 ∧ zmaxl 21 = 1 ∧ zstat 21 = false ∧ zown 21 = 2 := by decide +kernel
theorem G_X2_cuts : zcode 21 = C_X2_cuts_0 := by decide +kernel
theorem M_X2_unheld : znar 22 = 1 ∧ zmaxl 22 = 3 ∧ zstat 22 = false ∧ zown 22 = 2 := by decide +kernel
theorem G_X2_unheld : zcode 22 = C_X2_unheld_0 := by decide +kernel
theorem M_X2_become : znar 23 = 2 ∧ zmaxl 23 = 2 ∧ zstat 23 = false ∧ zown 23 = 2 := by decide +kernel
theorem G_X2_become : zcode 23 = C_X2_become_0 := by decide +kernel
theorem M_X3_isNothing : znar 24 = 1 ∧ zmaxl 24 = 1 ∧ zstat 24 = false ∧ zown 24 = 3 := by decide +kernel
theorem G_X3_isNothing : zcode 24 = C_X3_isNothing_0 := by decide +kernel
theorem M_X3_begin : znar 25 = 3 ∧ zmaxl 25 = 4 ∧ zstat 25 = false ∧ zown 25 = 3 := by decide +kernel
theorem G_X3_begin : zcode 25 = C_X3_begin_0 := by decide +kernel
theorem M_X3_asItem : znar 26 = 2 ∧ zmaxl 26 = 3 ∧ zstat 26 = false ∧ zown 26 = 3 := by decide +kernel
theorem G_X3_asItem : zcode 26 = C_X3_asItem_0 := by decide +kernel
theorem M_X3_hasPlaces : znar 27 = 3 ∧ zmaxl 27 = 3 ∧ zstat 27 = false ∧ zown 27 = 3 := by decide +kernel
theorem G_X3_hasPlaces : zcode 27 = C_X3_hasPlaces_0 := by decide +kernel
theorem M_X4_append : znar 28 = 2 ∧ zmaxl 28 = 2 ∧ zstat 28 = false ∧ zown 28 = 4 := by decide +kernel
theorem G_X4_append : zcode 28 = C_X4_append_0 := by decide +kernel
theorem M_X4_signAt : znar 29 = 2 ∧ zmaxl 29 = 2 ∧ zstat 29 = false ∧ zown 29 = 4 := by decide +kernel
theorem G_X4_signAt : zcode 29 = C_X4_signAt_0 := by decide +kernel
theorem M_X4_digitAt : znar 30 = 2 ∧ zmaxl 30 = 3 ∧ zstat 30 = false ∧ zown 30 = 4 := by decide +kernel
theorem G_X4_digitAt : zcode 30 = C_X4_digitAt_0 := by decide +kernel
theorem M_X4_numberIn : znar 31 = 3 ∧ zmaxl 31 = 5 ∧ zstat 31 = false ∧ zown 31 = 4 := by decide +kernel
theorem G_X4_numberIn : zcode 31 = C_X4_numberIn_0 := by decide +kernel
theorem M_X4_digitsBehind : znar 32 = 1 ∧ zmaxl 32 = 1 ∧ zstat 32 = true ∧ zown 32 = 4 := by decide +kernel
theorem G_X4_digitsBehind : zcode 32 = C_X4_digitsBehind_0 := by decide +kernel
theorem M_X4_endOfClause : znar 33 = 2 ∧ zmaxl 33 = 5 ∧ zstat 33 = false ∧ zown 33 = 4 := by decide +kernel
theorem G_X4_endOfClause : zcode 33 = C_X4_endOfClause_0 := by decide +kernel
theorem M_X4_fault : znar 34 = 1 ∧ zmaxl 34 = 4 ∧ zstat 34 = false ∧ zown 34 = 4 := by decide +kernel
theorem G_X4_fault : zcode 34 = C_X4_fault_0 := by decide +kernel
theorem M_X5_search : znar 35 = 4 ∧ zmaxl 35 = 6 ∧ zstat 35 = false ∧ zown 35 = 5 := by decide +kernel
theorem G_X5_search : zcode 35 = C_X5_search_0 := by decide +kernel
theorem M_X5_giveFrom0 : znar 36 = 2 ∧ zmaxl 36 = 4 ∧ zstat 36 = true ∧ zown 36 = 5 := by decide +kernel
theorem G_X5_giveFrom0 : zcode 36 = C_X5_giveFrom0_0 := by decide +kernel
theorem M_X5_giveFrom1 : znar 37 = 2 ∧ zmaxl 37 = 4 ∧ zstat 37 = true ∧ zown 37 = 5 := by decide +kernel
theorem G_X5_giveFrom1 : zcode 37 = C_X5_giveFrom1_0 := by decide +kernel
theorem M_X5_giveFrom2 : znar 38 = 2 ∧ zmaxl 38 = 4 ∧ zstat 38 = true ∧ zown 38 = 5 := by decide +kernel
theorem G_X5_giveFrom2 : zcode 38 = C_X5_giveFrom2_0 := by decide +kernel
theorem M_X5_giveFrom3 : znar 39 = 2 ∧ zmaxl 39 = 4 ∧ zstat 39 = true ∧ zown 39 = 5 := by decide +kernel
theorem G_X5_giveFrom3 : zcode 39 = C_X5_giveFrom3_0 := by decide +kernel
theorem M_X5_giveFrom4 : znar 40 = 2 ∧ zmaxl 40 = 4 ∧ zstat 40 = true ∧ zown 40 = 5 := by decide +kernel
theorem G_X5_giveFrom4 : zcode 40 = C_X5_giveFrom4_0 := by decide +kernel
theorem M_X5_giveFrom5 : znar 41 = 2 ∧ zmaxl 41 = 4 ∧ zstat 41 = true ∧ zown 41 = 5 := by decide +kernel
theorem G_X5_giveFrom5 : zcode 41 = C_X5_giveFrom5_0 := by decide +kernel
theorem M_X5_giveFrom6 : znar 42 = 2 ∧ zmaxl 42 = 4 ∧ zstat 42 = true ∧ zown 42 = 5 := by decide +kernel
theorem G_X5_giveFrom6 : zcode 42 = C_X5_giveFrom6_0 := by decide +kernel
theorem M_X5_giveFrom7 : znar 43 = 2 ∧ zmaxl 43 = 4 ∧ zstat 43 = true ∧ zown 43 = 5 := by decide +kernel
theorem G_X5_giveFrom7 : zcode 43 = C_X5_giveFrom7_0 := by decide +kernel
theorem M_X5_poorest : znar 44 = 1 ∧ zmaxl 44 = 3 ∧ zstat 44 = false ∧ zown 44 = 5 := by decide +kernel
theorem G_X5_poorest : zcode 44 = C_X5_poorest_0 := by decide +kernel
theorem M_X5_keep : znar 45 = 2 ∧ zmaxl 45 = 2 ∧ zstat 45 = false ∧ zown 45 = 5 := by decide +kernel
theorem G_X5_keep : zcode 45 = C_X5_keep_0 := by decide +kernel
theorem M_X5_denyOthers : znar 46 = 4 ∧ zmaxl 46 = 5 ∧ zstat 46 = false ∧ zown 46 = 5 := by decide +kernel
theorem G_X5_denyOthers : zcode 46 = C_X5_denyOthers_0 := by decide +kernel
theorem M_X6_parties : znar 47 = 2 ∧ zmaxl 47 = 3 ∧ zstat 47 = false ∧ zown 47 = 6 := by decide +kernel
theorem G_X6_parties : zcode 47 = C_X6_parties_0 := by decide +kernel
theorem M_X6_thing : znar 48 = 1 ∧ zmaxl 48 = 1 ∧ zstat 48 = false ∧ zown 48 = 6 := by decide +kernel
theorem G_X6_thing : zcode 48 = C_X6_thing_0 := by decide +kernel
theorem M_X6_point : znar 49 = 4 ∧ zmaxl 49 = 5 ∧ zstat 49 = false ∧ zown 49 = 6 := by decide +kernel
theorem G_X6_point : zcode 49 = C_X6_point_0 := by decide +kernel
theorem M_X6_of : znar 50 = 3 ∧ zmaxl 50 = 3 ∧ zstat 50 = false ∧ zown 50 = 6 := by decide +kernel
theorem G_X6_of : zcode 50 = C_X6_of_0 := by decide +kernel
theorem M_X6_hold : znar 51 = 3 ∧ zmaxl 51 = 4 ∧ zstat 51 = false ∧ zown 51 = 6 := by decide +kernel
theorem G_X6_hold : zcode 51 = C_X6_hold_0 := by decide +kernel
theorem M_X6_split : znar 52 = 5 ∧ zmaxl 52 = 5 ∧ zstat 52 = false ∧ zown 52 = 6 := by decide +kernel
theorem G_X6_split : zcode 52 = C_X6_split_0 := by decide +kernel
theorem M_X6_settle : znar 53 = 3 ∧ zmaxl 53 = 3 ∧ zstat 53 = false ∧ zown 53 = 6 := by decide +kernel
theorem G_X6_settle : zcode 53 = C_X6_settle_0 := by decide +kernel
theorem M_X6_feed : znar 54 = 2 ∧ zmaxl 54 = 2 ∧ zstat 54 = false ∧ zown 54 = 6 := by decide +kernel
theorem G_X6_feed : zcode 54 = C_X6_feed_0 := by decide +kernel
theorem M_X6_read : znar 55 = 1 ∧ zmaxl 55 = 7 ∧ zstat 55 = false ∧ zown 55 = 6 := by decide +kernel
theorem G_X6_read : zcode 55 = C_X6_read_0 := by decide +kernel
theorem M_X6_holder : znar 56 = 3 ∧ zmaxl 56 = 3 ∧ zstat 56 = false ∧ zown 56 = 6 := by decide +kernel
theorem G_X6_holder : zcode 56 = C_X6_holder_0 := by decide +kernel
theorem M_X6_held : znar 57 = 4 ∧ zmaxl 57 = 4 ∧ zstat 57 = false ∧ zown 57 = 6 := by decide +kernel
theorem G_X6_held : zcode 57 = C_X6_held_0 := by decide +kernel
theorem M_X6_share : znar 58 = 4 ∧ zmaxl 58 = 6 ∧ zstat 58 = false ∧ zown 58 = 6 := by decide +kernel
theorem G_X6_share : zcode 58 = C_X6_share_0 := by decide +kernel
theorem M_X6_claim : znar 59 = 3 ∧ zmaxl 59 = 4 ∧ zstat 59 = false ∧ zown 59 = 6 := by decide +kernel
theorem G_X6_claim : zcode 59 = C_X6_claim_0 := by decide +kernel
theorem M_X6_better : znar 60 = 3 ∧ zmaxl 60 = 7 ∧ zstat 60 = false ∧ zown 60 = 6 := by decide +kernel
theorem G_X6_better : zcode 60 = C_X6_better_0 := by decide +kernel
theorem M_X6_told : znar 61 = 2 ∧ zmaxl 61 = 2 ∧ zstat 61 = false ∧ zown 61 = 6 := by decide +kernel
theorem G_X6_told : zcode 61 = C_X6_told_0 := by decide +kernel
theorem M_X6_all : znar 62 = 2 ∧ zmaxl 62 = 2 ∧ zstat 62 = false ∧ zown 62 = 6 := by decide +kernel
theorem G_X6_all : zcode 62 = C_X6_all_0 := by decide +kernel
theorem M_X6_adjusted : znar 63 = 4 ∧ zmaxl 63 = 4 ∧ zstat 63 = false ∧ zown 63 = 6 := by decide +kernel
theorem G_X6_adjusted : zcode 63 = C_X6_adjusted_0 := by decide +kernel
theorem M_X6_alike : znar 64 = 4 ∧ zmaxl 64 = 4 ∧ zstat 64 = false ∧ zown 64 = 6 := by decide +kernel
theorem G_X6_alike : zcode 64 = C_X6_alike_0 := by decide +kernel
theorem M_X6_parted : znar 65 = 4 ∧ zmaxl 65 = 4 ∧ zstat 65 = false ∧ zown 65 = 6 := by decide +kernel
theorem G_X6_parted : zcode 65 = C_X6_parted_0 := by decide +kernel
theorem M_X6_ratio : znar 66 = 4 ∧ zmaxl 66 = 7 ∧ zstat 66 = false ∧ zown 66 = 6 := by decide +kernel
theorem G_X6_ratio : zcode 66 = C_X6_ratio_0 := by decide +kernel
theorem M_X6_fair : znar 67 = 2 ∧ zmaxl 67 = 2 ∧ zstat 67 = false ∧ zown 67 = 6 := by decide +kernel
theorem G_X6_fair : zcode 67 = C_X6_fair_0 := by decide +kernel
theorem M_X6_fairest : znar 68 = 2 ∧ zmaxl 68 = 2 ∧ zstat 68 = false ∧ zown 68 = 6 := by decide +kernel
theorem G_X6_fairest : zcode 68 = C_X6_fairest_0 := by decide +kernel
theorem M_X6_see : znar 69 = 3 ∧ zmaxl 69 = 3 ∧ zstat 69 = false ∧ zown 69 = 6 := by decide +kernel
theorem G_X6_see : zcode 69 = C_X6_see_0 := by decide +kernel
theorem M_X6_fits : znar 70 = 4 ∧ zmaxl 70 = 7 ∧ zstat 70 = false ∧ zown 70 = 6 := by decide +kernel
theorem G_X6_fits : zcode 70 = C_X6_fits_0 := by decide +kernel
theorem M_X6_odds : znar 71 = 3 ∧ zmaxl 71 = 5 ∧ zstat 71 = false ∧ zown 71 = 6 := by decide +kernel
theorem G_X6_odds : zcode 71 = C_X6_odds_0 := by decide +kernel
theorem M_X6_mean : znar 72 = 3 ∧ zmaxl 72 = 3 ∧ zstat 72 = false ∧ zown 72 = 6 := by decide +kernel
theorem G_X6_mean : zcode 72 = C_X6_mean_0 := by decide +kernel
theorem M_X6_event : znar 73 = 3 ∧ zmaxl 73 = 3 ∧ zstat 73 = false ∧ zown 73 = 6 := by decide +kernel
theorem G_X6_event : zcode 73 = C_X6_event_0 := by decide +kernel
theorem M_X6_after : znar 74 = 2 ∧ zmaxl 74 = 3 ∧ zstat 74 = false ∧ zown 74 = 6 := by decide +kernel
theorem G_X6_after : zcode 74 = C_X6_after_0 := by decide +kernel
theorem M_X6_book : znar 75 = 3 ∧ zmaxl 75 = 3 ∧ zstat 75 = false ∧ zown 75 = 6 := by decide +kernel
theorem G_X6_book : zcode 75 = C_X6_book_0 := by decide +kernel
theorem M_X6_looked : znar 76 = 1 ∧ zmaxl 76 = 2 ∧ zstat 76 = false ∧ zown 76 = 6 := by decide +kernel
theorem G_X6_looked : zcode 76 = C_X6_looked_0 := by decide +kernel
theorem M_X6_judge : znar 77 = 3 ∧ zmaxl 77 = 5 ∧ zstat 77 = false ∧ zown 77 = 6 := by decide +kernel
theorem G_X6_judge : zcode 77 = C_X6_judge_0 := by decide +kernel
theorem M_X6_image : znar 78 = 1 ∧ zmaxl 78 = 1 ∧ zstat 78 = false ∧ zown 78 = 6 := by decide +kernel
theorem G_X6_image : zcode 78 = C_X6_image_0 := by decide +kernel
theorem M_X6_undo : znar 79 = 1 ∧ zmaxl 79 = 1 ∧ zstat 79 = false ∧ zown 79 = 6 := by decide +kernel
theorem G_X6_undo : zcode 79 = C_X6_undo_0 := by decide +kernel
theorem M_X6_count : znar 80 = 2 ∧ zmaxl 80 = 2 ∧ zstat 80 = false ∧ zown 80 = 6 := by decide +kernel
theorem G_X6_count : zcode 80 = C_X6_count_0 := by decide +kernel
theorem M_X6_tape : znar 81 = 4 ∧ zmaxl 81 = 4 ∧ zstat 81 = false ∧ zown 81 = 6 := by decide +kernel
theorem G_X6_tape : zcode 81 = C_X6_tape_0 := by decide +kernel
theorem M_X6_item : znar 82 = 4 ∧ zmaxl 82 = 6 ∧ zstat 82 = false ∧ zown 82 = 6 := by decide +kernel
theorem G_X6_item : zcode 82 = C_X6_item_0 := by decide +kernel
theorem M_X6_peek : znar 83 = 3 ∧ zmaxl 83 = 3 ∧ zstat 83 = false ∧ zown 83 = 6 := by decide +kernel
theorem G_X6_peek : zcode 83 = C_X6_peek_0 := by decide +kernel
theorem M_X6_shift : znar 84 = 6 ∧ zmaxl 84 = 8 ∧ zstat 84 = false ∧ zown 84 = 6 := by decide +kernel
theorem G_X6_shift : zcode 84 = C_X6_shift_0 := by decide +kernel
theorem M_X6_isParty : znar 85 = 2 ∧ zmaxl 85 = 2 ∧ zstat 85 = false ∧ zown 85 = 6 := by decide +kernel
theorem G_X6_isParty : zcode 85 = C_X6_isParty_0 := by decide +kernel
theorem M_X6_areTwo : znar 86 = 3 ∧ zmaxl 86 = 3 ∧ zstat 86 = false ∧ zown 86 = 6 := by decide +kernel
theorem G_X6_areTwo : zcode 86 = C_X6_areTwo_0 := by decide +kernel
theorem M_X6_isThing : znar 87 = 2 ∧ zmaxl 87 = 2 ∧ zstat 87 = false ∧ zown 87 = 6 := by decide +kernel
theorem G_X6_isThing : zcode 87 = C_X6_isThing_0 := by decide +kernel
theorem M_X6_isPart : znar 88 = 1 ∧ zmaxl 88 = 1 ∧ zstat 88 = true ∧ zown 88 = 6 := by decide +kernel
theorem G_X6_isPart : zcode 88 = C_X6_isPart_0 := by decide +kernel
theorem M_X6_isTape : znar 89 = 1 ∧ zmaxl 89 = 1 ∧ zstat 89 = true ∧ zown 89 = 6 := by decide +kernel
theorem G_X6_isTape : zcode 89 = C_X6_isTape_0 := by decide +kernel
theorem M_X6_orNoSuch : znar 90 = 1 ∧ zmaxl 90 = 1 ∧ zstat 90 = true ∧ zown 90 = 6 := by decide +kernel
theorem G_X6_orNoSuch : zcode 90 = C_X6_orNoSuch_0 := by decide +kernel
theorem M_X6_commonDivisor : znar 91 = 2 ∧ zmaxl 91 = 11 ∧ zstat 91 = true ∧ zown 91 = 6 := by decide +kernel
theorem G_X6_commonDivisor : zcode 91 = C_X6_commonDivisor_0 := by decide +kernel
theorem M_X6_inLowestTerms : znar 92 = 3 ∧ zmaxl 92 = 9 ∧ zstat 92 = true ∧ zown 92 = 6 := by decide +kernel
theorem G_X6_inLowestTerms : zcode 92 = C_X6_inLowestTerms_0 := by decide +kernel
theorem M_X6_copyPoints : znar 93 = 2 ∧ zmaxl 93 = 3 ∧ zstat 93 = true ∧ zown 93 = 6 := by decide +kernel
theorem G_X6_copyPoints : zcode 93 = C_X6_copyPoints_0 := by decide +kernel
theorem M_X6_sumOf : znar 94 = 2 ∧ zmaxl 94 = 4 ∧ zstat 94 = true ∧ zown 94 = 6 := by decide +kernel
theorem G_X6_sumOf : zcode 94 = C_X6_sumOf_0 := by decide +kernel
theorem M_X6_comesFirst : znar 95 = 4 ∧ zmaxl 95 = 8 ∧ zstat 95 = true ∧ zown 95 = 6 := by decide +kernel
theorem G_X6_comesFirst : zcode 95 = C_X6_comesFirst_0 := by decide +kernel
theorem M_X6_doClause : znar 96 = 3 ∧ zmaxl 96 = 5 ∧ zstat 96 = false ∧ zown 96 = 6 := by decide +kernel
theorem G_X6_doClause : zcode 96 = C_X6_doClause_0 := by decide +kernel
theorem M_X6_claimOf : znar 97 = 2 ∧ zmaxl 97 = 2 ∧ zstat 97 = false ∧ zown 97 = 6 := by decide +kernel
theorem G_X6_claimOf : zcode 97 = C_X6_claimOf_0 := by decide +kernel
theorem M_X6_causeOf : znar 98 = 3 ∧ zmaxl 98 = 3 ∧ zstat 98 = false ∧ zown 98 = 6 := by decide +kernel
theorem G_X6_causeOf : zcode 98 = C_X6_causeOf_0 := by decide +kernel
theorem M_X6_secondCauseOf : znar 99 = 3 ∧ zmaxl 99 = 4 ∧ zstat 99 = false ∧ zown 99 = 6 := by decide +kernel
theorem G_X6_secondCauseOf : zcode 99 = C_X6_secondCauseOf_0 := by decide +kernel
theorem M_X6_firstUnheld : znar 100 = 2 ∧ zmaxl 100 = 3 ∧ zstat 100 = false ∧ zown 100 = 6 := by decide +kernel
theorem G_X6_firstUnheld : zcode 100 = C_X6_firstUnheld_0 := by decide +kernel
theorem M_X6_firstEnvied : znar 101 = 2 ∧ zmaxl 101 = 5 ∧ zstat 101 = false ∧ zown 101 = 6 := by decide +kernel
theorem G_X6_firstEnvied : zcode 101 = C_X6_firstEnvied_0 := by decide +kernel
theorem M_X6_enviousBits : znar 102 = 1 ∧ zmaxl 102 = 3 ∧ zstat 102 = false ∧ zown 102 = 6 := by decide +kernel
theorem G_X6_enviousBits : zcode 102 = C_X6_enviousBits_0 := by decide +kernel
theorem M_X6_triedFitsSeen : znar 103 = 1 ∧ zmaxl 103 = 2 ∧ zstat 103 = false ∧ zown 103 = 6 := by decide +kernel
theorem G_X6_triedFitsSeen : zcode 103 = C_X6_triedFitsSeen_0 := by decide +kernel
theorem M_X6_letHappen : znar 104 = 3 ∧ zmaxl 104 = 6 ∧ zstat 104 = false ∧ zown 104 = 6 := by decide +kernel
theorem G_X6_letHappen : zcode 104 = C_X6_letHappen_0 := by decide +kernel
theorem M_X7_in : znar 105 = 3 ∧ zmaxl 105 = 6 ∧ zstat 105 = true ∧ zown 105 = 7 := by decide +kernel
theorem G_X7_in : zcode 105 = C_X7_in_0 := by decide +kernel
theorem M_X7_isParty : znar 106 = 2 ∧ zmaxl 106 = 2 ∧ zstat 106 = false ∧ zown 106 = 7 := by decide +kernel
theorem G_X7_isParty : zcode 106 = C_X7_isParty_0 := by decide +kernel
theorem M_X7_isThing : znar 107 = 2 ∧ zmaxl 107 = 2 ∧ zstat 107 = false ∧ zown 107 = 7 := by decide +kernel
theorem G_X7_isThing : zcode 107 = C_X7_isThing_0 := by decide +kernel
theorem M_X7_areTwo : znar 108 = 3 ∧ zmaxl 108 = 3 ∧ zstat 108 = false ∧ zown 108 = 7 := by decide +kernel
theorem G_X7_areTwo : zcode 108 = C_X7_areTwo_0 := by decide +kernel
theorem M_X7_isPart : znar 109 = 1 ∧ zmaxl 109 = 1 ∧ zstat 109 = true ∧ zown 109 = 7 := by decide +kernel
theorem G_X7_isPart : zcode 109 = C_X7_isPart_0 := by decide +kernel
theorem M_X7_parties : znar 110 = 2 ∧ zmaxl 110 = 3 ∧ zstat 110 = false ∧ zown 110 = 7 := by decide +kernel
theorem G_X7_parties : zcode 110 = C_X7_parties_0 := by decide +kernel
theorem M_X7_thing : znar 111 = 1 ∧ zmaxl 111 = 3 ∧ zstat 111 = false ∧ zown 111 = 7 := by decide +kernel
theorem G_X7_thing : zcode 111 = C_X7_thing_0 := by decide +kernel
theorem M_X7_holds : znar 112 = 3 ∧ zmaxl 112 = 3 ∧ zstat 112 = false ∧ zown 112 = 7 := by decide +kernel
theorem G_X7_holds : zcode 112 = C_X7_holds_0 := by decide +kernel
theorem M_X7_pointsOf : znar 113 = 3 ∧ zmaxl 113 = 3 ∧ zstat 113 = false ∧ zown 113 = 7 := by decide +kernel
theorem G_X7_pointsOf : zcode 113 = C_X7_pointsOf_0 := by decide +kernel
theorem M_X7_point : znar 114 = 4 ∧ zmaxl 114 = 5 ∧ zstat 114 = false ∧ zown 114 = 7 := by decide +kernel
theorem G_X7_point : zcode 114 = C_X7_point_0 := by decide +kernel
theorem M_X7_of : znar 115 = 3 ∧ zmaxl 115 = 3 ∧ zstat 115 = false ∧ zown 115 = 7 := by decide +kernel
theorem G_X7_of : zcode 115 = C_X7_of_0 := by decide +kernel
theorem M_X7_allOf : znar 116 = 2 ∧ zmaxl 116 = 4 ∧ zstat 116 = false ∧ zown 116 = 7 := by decide +kernel
theorem G_X7_allOf : zcode 116 = C_X7_allOf_0 := by decide +kernel
theorem M_X7_all : znar 117 = 2 ∧ zmaxl 117 = 2 ∧ zstat 117 = false ∧ zown 117 = 7 := by decide +kernel
theorem G_X7_all : zcode 117 = C_X7_all_0 := by decide +kernel
theorem M_X7_orNobody : znar 118 = 1 ∧ zmaxl 118 = 1 ∧ zstat 118 = true ∧ zown 118 = 7 := by decide +kernel
theorem G_X7_orNobody : zcode 118 = C_X7_orNobody_0 := by decide +kernel
theorem M_X7_hold : znar 119 = 3 ∧ zmaxl 119 = 4 ∧ zstat 119 = false ∧ zown 119 = 7 := by decide +kernel
theorem G_X7_hold : zcode 119 = C_X7_hold_0 := by decide +kernel
theorem M_X7_splits : znar 120 = 1 ∧ zmaxl 120 = 3 ∧ zstat 120 = false ∧ zown 120 = 7 := by decide +kernel
theorem G_X7_splits : zcode 120 = C_X7_splits_0 := by decide +kernel
theorem M_X7_divisor : znar 121 = 2 ∧ zmaxl 121 = 10 ∧ zstat 121 = true ∧ zown 121 = 7 := by decide +kernel
theorem G_X7_divisor : zcode 121 = C_X7_divisor_0 := by decide +kernel
theorem M_X7_lowest : znar 122 = 3 ∧ zmaxl 122 = 5 ∧ zstat 122 = true ∧ zown 122 = 7 := by decide +kernel
theorem G_X7_lowest : zcode 122 = C_X7_lowest_0 := by decide +kernel
theorem M_X7_splits_ : znar 123 = 5 ∧ zmaxl 123 = 7 ∧ zstat 123 = false ∧ zown 123 = 7 := by decide +kernel
theorem G_X7_splits_ : zcode 123 = C_X7_splits__0 := by decide +kernel
theorem M_X7_split : znar 124 = 5 ∧ zmaxl 124 = 5 ∧ zstat 124 = false ∧ zown 124 = 7 := by decide +kernel
theorem G_X7_split : zcode 124 = C_X7_split_0 := by decide +kernel
theorem M_X7_holder : znar 125 = 3 ∧ zmaxl 125 = 3 ∧ zstat 125 = false ∧ zown 125 = 7 := by decide +kernel
theorem G_X7_holder : zcode 125 = C_X7_holder_0 := by decide +kernel
theorem M_X7_heldUp : znar 126 = 3 ∧ zmaxl 126 = 3 ∧ zstat 126 = false ∧ zown 126 = 7 := by decide +kernel
theorem G_X7_heldUp : zcode 126 = C_X7_heldUp_0 := by decide +kernel
theorem M_X7_doesHold : znar 127 = 3 ∧ zmaxl 127 = 3 ∧ zstat 127 = false ∧ zown 127 = 7 := by decide +kernel
theorem G_X7_doesHold : zcode 127 = C_X7_doesHold_0 := by decide +kernel
theorem M_X7_held : znar 128 = 4 ∧ zmaxl 128 = 4 ∧ zstat 128 = false ∧ zown 128 = 7 := by decide +kernel
theorem G_X7_held : zcode 128 = C_X7_held_0 := by decide +kernel
theorem M_X7_bitsOf : znar 129 = 2 ∧ zmaxl 129 = 4 ∧ zstat 129 = false ∧ zown 129 = 7 := by decide +kernel
theorem G_X7_bitsOf : zcode 129 = C_X7_bitsOf_0 := by decide +kernel
theorem M_X7_lowOfAll : znar 130 = 1 ∧ zmaxl 130 = 4 ∧ zstat 130 = false ∧ zown 130 = 7 := by decide +kernel
theorem G_X7_lowOfAll : zcode 130 = C_X7_lowOfAll_0 := by decide +kernel
theorem M_X7_worth : znar 131 = 3 ∧ zmaxl 131 = 8 ∧ zstat 131 = false ∧ zown 131 = 7 := by decide +kernel
theorem G_X7_worth : zcode 131 = C_X7_worth_0 := by decide +kernel
theorem M_X7_share : znar 132 = 4 ∧ zmaxl 132 = 4 ∧ zstat 132 = false ∧ zown 132 = 7 := by decide +kernel
theorem G_X7_share : zcode 132 = C_X7_share_0 := by decide +kernel
theorem M_X7_isWanting : znar 133 = 3 ∧ zmaxl 133 = 3 ∧ zstat 133 = false ∧ zown 133 = 7 := by decide +kernel
theorem G_X7_isWanting : zcode 133 = C_X7_isWanting_0 := by decide +kernel
theorem M_X7_firstWanting : znar 134 = 2 ∧ zmaxl 134 = 3 ∧ zstat 134 = false ∧ zown 134 = 7 := by decide +kernel
theorem G_X7_firstWanting : zcode 134 = C_X7_firstWanting_0 := by decide +kernel
theorem M_X7_envied : znar 135 = 2 ∧ zmaxl 135 = 3 ∧ zstat 135 = false ∧ zown 135 = 7 := by decide +kernel
theorem G_X7_envied : zcode 135 = C_X7_envied_0 := by decide +kernel
theorem M_X7_claimOf : znar 136 = 2 ∧ zmaxl 136 = 2 ∧ zstat 136 = false ∧ zown 136 = 7 := by decide +kernel
theorem G_X7_claimOf : zcode 136 = C_X7_claimOf_0 := by decide +kernel
theorem M_X7_ones : znar 137 = 2 ∧ zmaxl 137 = 4 ∧ zstat 137 = false ∧ zown 137 = 7 := by decide +kernel
theorem G_X7_ones : zcode 137 = C_X7_ones_0 := by decide +kernel
theorem M_X7_causeOf : znar 138 = 3 ∧ zmaxl 138 = 3 ∧ zstat 138 = false ∧ zown 138 = 7 := by decide +kernel
theorem G_X7_causeOf : zcode 138 = C_X7_causeOf_0 := by decide +kernel
theorem M_X7_claim : znar 139 = 3 ∧ zmaxl 139 = 4 ∧ zstat 139 = false ∧ zown 139 = 7 := by decide +kernel
theorem G_X7_claim : zcode 139 = C_X7_claim_0 := by decide +kernel
theorem M_X7_better : znar 140 = 3 ∧ zmaxl 140 = 5 ∧ zstat 140 = false ∧ zown 140 = 7 := by decide +kernel
theorem G_X7_better : zcode 140 = C_X7_better_0 := by decide +kernel
theorem M_X7_envious : znar 141 = 1 ∧ zmaxl 141 = 3 ∧ zstat 141 = false ∧ zown 141 = 7 := by decide +kernel
theorem G_X7_envious : zcode 141 = C_X7_envious_0 := by decide +kernel
theorem M_X7_aheadBy : znar 142 = 4 ∧ zmaxl 142 = 6 ∧ zstat 142 = false ∧ zown 142 = 7 := by decide +kernel
theorem G_X7_aheadBy : zcode 142 = C_X7_aheadBy_0 := by decide +kernel
theorem M_X7_isAhead : znar 143 = 5 ∧ zmaxl 143 = 9 ∧ zstat 143 = false ∧ zown 143 = 7 := by decide +kernel
theorem G_X7_isAhead : zcode 143 = C_X7_isAhead_0 := by decide +kernel
theorem M_X7_byRatio : znar 144 = 4 ∧ zmaxl 144 = 5 ∧ zstat 144 = false ∧ zown 144 = 7 := by decide +kernel
theorem G_X7_byRatio : zcode 144 = C_X7_byRatio_0 := by decide +kernel
theorem M_X7_ratio : znar 145 = 4 ∧ zmaxl 145 = 4 ∧ zstat 145 = false ∧ zown 145 = 7 := by decide +kernel
theorem G_X7_ratio : zcode 145 = C_X7_ratio_0 := by decide +kernel
theorem M_X7_sumOf : znar 146 = 3 ∧ zmaxl 146 = 5 ∧ zstat 146 = false ∧ zown 146 = 7 := by decide +kernel
theorem G_X7_sumOf : zcode 146 = C_X7_sumOf_0 := by decide +kernel
theorem M_X7_moreOf : znar 147 = 4 ∧ zmaxl 147 = 4 ∧ zstat 147 = false ∧ zown 147 = 7 := by decide +kernel
theorem G_X7_moreOf : zcode 147 = C_X7_moreOf_0 := by decide +kernel
theorem M_X7_adjusts : znar 148 = 3 ∧ zmaxl 148 = 4 ∧ zstat 148 = false ∧ zown 148 = 7 := by decide +kernel
theorem G_X7_adjusts : zcode 148 = C_X7_adjusts_0 := by decide +kernel
theorem M_X7_movesAll : znar 149 = 2 ∧ zmaxl 149 = 7 ∧ zstat 149 = false ∧ zown 149 = 7 := by decide +kernel
theorem G_X7_movesAll : zcode 149 = C_X7_movesAll_0 := by decide +kernel
theorem M_X7_doesHoldSo : znar 150 = 3 ∧ zmaxl 150 = 3 ∧ zstat 150 = false ∧ zown 150 = 7 := by decide +kernel
theorem G_X7_doesHoldSo : zcode 150 = C_X7_doesHoldSo_0 := by decide +kernel
theorem M_X7_bitsSo : znar 151 = 2 ∧ zmaxl 151 = 4 ∧ zstat 151 = false ∧ zown 151 = 7 := by decide +kernel
theorem G_X7_bitsSo : zcode 151 = C_X7_bitsSo_0 := by decide +kernel
theorem M_X7_adjusted : znar 152 = 4 ∧ zmaxl 152 = 4 ∧ zstat 152 = false ∧ zown 152 = 7 := by decide +kernel
theorem G_X7_adjusted : zcode 152 = C_X7_adjusted_0 := by decide +kernel
theorem M_X7_alikeOf : znar 153 = 3 ∧ zmaxl 153 = 5 ∧ zstat 153 = false ∧ zown 153 = 7 := by decide +kernel
theorem G_X7_alikeOf : zcode 153 = C_X7_alikeOf_0 := by decide +kernel
theorem M_X7_alike : znar 154 = 4 ∧ zmaxl 154 = 4 ∧ zstat 154 = false ∧ zown 154 = 7 := by decide +kernel
theorem G_X7_alike : zcode 154 = C_X7_alike_0 := by decide +kernel
theorem M_X7_parted : znar 155 = 4 ∧ zmaxl 155 = 4 ∧ zstat 155 = false ∧ zown 155 = 7 := by decide +kernel
theorem G_X7_parted : zcode 155 = C_X7_parted_0 := by decide +kernel
theorem M_X7_settle : znar 156 = 3 ∧ zmaxl 156 = 4 ∧ zstat 156 = false ∧ zown 156 = 7 := by decide +kernel
theorem G_X7_settle : zcode 156 = C_X7_settle_0 := by decide +kernel
theorem M_X7_nextWay : znar 157 = 1 ∧ zmaxl 157 = 2 ∧ zstat 157 = false ∧ zown 157 = 7 := by decide +kernel
theorem G_X7_nextWay : zcode 157 = C_X7_nextWay_0 := by decide +kernel
theorem M_X7_wayWorth : znar 158 = 2 ∧ zmaxl 158 = 4 ∧ zstat 158 = false ∧ zown 158 = 7 := by decide +kernel
theorem G_X7_wayWorth : zcode 158 = C_X7_wayWorth_0 := by decide +kernel
theorem M_X7_searches : znar 159 = 1 ∧ zmaxl 159 = 13 ∧ zstat 159 = false ∧ zown 159 = 7 := by decide +kernel
theorem G_X7_searches : zcode 159 = C_X7_searches_0 := by decide +kernel
theorem M_X7_fair : znar 160 = 2 ∧ zmaxl 160 = 2 ∧ zstat 160 = false ∧ zown 160 = 7 := by decide +kernel
theorem G_X7_fair : zcode 160 = C_X7_fair_0 := by decide +kernel
theorem M_X7_fairest : znar 161 = 2 ∧ zmaxl 161 = 2 ∧ zstat 161 = false ∧ zown 161 = 7 := by decide +kernel
theorem G_X7_fairest : zcode 161 = C_X7_fairest_0 := by decide +kernel
theorem M_X7_withoutHolder : znar 162 = 1 ∧ zmaxl 162 = 3 ∧ zstat 162 = false ∧ zown 162 = 7 := by decide +kernel
theorem G_X7_withoutHolder : zcode 162 = C_X7_withoutHolder_0 := by decide +kernel
theorem M_X7_told : znar 163 = 2 ∧ zmaxl 163 = 2 ∧ zstat 163 = false ∧ zown 163 = 7 := by decide +kernel
theorem G_X7_told : zcode 163 = C_X7_told_0 := by decide +kernel
theorem M_X7_feed : znar 164 = 2 ∧ zmaxl 164 = 2 ∧ zstat 164 = false ∧ zown 164 = 7 := by decide +kernel
theorem G_X7_feed : zcode 164 = C_X7_feed_0 := by decide +kernel
theorem M_X7_isDigit : znar 165 = 1 ∧ zmaxl 165 = 1 ∧ zstat 165 = false ∧ zown 165 = 7 := by decide +kernel
theorem G_X7_isDigit : zcode 165 = C_X7_isDigit_0 := by decide +kernel
theorem M_X7_numbersOf : znar 166 = 1 ∧ zmaxl 166 = 1 ∧ zstat 166 = true ∧ zown 166 = 7 := by decide +kernel
theorem G_X7_numbersOf : zcode 166 = C_X7_numbersOf_0 := by decide +kernel
theorem M_X7_readsClause : znar 167 = 2 ∧ zmaxl 167 = 5 ∧ zstat 167 = false ∧ zown 167 = 7 := by decide +kernel
theorem G_X7_readsClause : zcode 167 = C_X7_readsClause_0 := by decide +kernel
theorem M_X7_readsAll : znar 168 = 1 ∧ zmaxl 168 = 2 ∧ zstat 168 = false ∧ zown 168 = 7 := by decide +kernel
theorem G_X7_readsAll : zcode 168 = C_X7_readsAll_0 := by decide +kernel
theorem M_X7_does : znar 169 = 2 ∧ zmaxl 169 = 4 ∧ zstat 169 = false ∧ zown 169 = 7 := by decide +kernel
theorem G_X7_does : zcode 169 = C_X7_does_0 := by decide +kernel
theorem M_X7_read : znar 170 = 1 ∧ zmaxl 170 = 5 ∧ zstat 170 = false ∧ zown 170 = 7 := by decide +kernel
theorem G_X7_read : zcode 170 = C_X7_read_0 := by decide +kernel
theorem M_X7_see : znar 171 = 3 ∧ zmaxl 171 = 3 ∧ zstat 171 = false ∧ zown 171 = 7 := by decide +kernel
theorem G_X7_see : zcode 171 = C_X7_see_0 := by decide +kernel
theorem M_X7_isSeenSo : znar 172 = 1 ∧ zmaxl 172 = 4 ∧ zstat 172 = false ∧ zown 172 = 7 := by decide +kernel
theorem G_X7_isSeenSo : zcode 172 = C_X7_isSeenSo_0 := by decide +kernel
theorem M_X7_fits : znar 173 = 4 ∧ zmaxl 173 = 9 ∧ zstat 173 = false ∧ zown 173 = 7 := by decide +kernel
theorem G_X7_fits : zcode 173 = C_X7_fits_0 := by decide +kernel
theorem M_X7_odds : znar 174 = 3 ∧ zmaxl 174 = 6 ∧ zstat 174 = false ∧ zown 174 = 7 := by decide +kernel
theorem G_X7_odds : zcode 174 = C_X7_odds_0 := by decide +kernel
theorem M_X7_mean : znar 175 = 3 ∧ zmaxl 175 = 3 ∧ zstat 175 = false ∧ zown 175 = 7 := by decide +kernel
theorem G_X7_mean : zcode 175 = C_X7_mean_0 := by decide +kernel
theorem M_X7_event : znar 176 = 3 ∧ zmaxl 176 = 3 ∧ zstat 176 = false ∧ zown 176 = 7 := by decide +kernel
theorem G_X7_event : zcode 176 = C_X7_event_0 := by decide +kernel
theorem M_X7_happens : znar 177 = 3 ∧ zmaxl 177 = 6 ∧ zstat 177 = false ∧ zown 177 = 7 := by decide +kernel
theorem G_X7_happens : zcode 177 = C_X7_happens_0 := by decide +kernel
theorem M_X7_afterNow : znar 178 = 2 ∧ zmaxl 178 = 2 ∧ zstat 178 = false ∧ zown 178 = 7 := by decide +kernel
theorem G_X7_afterNow : zcode 178 = C_X7_afterNow_0 := by decide +kernel
theorem M_X7_after : znar 179 = 2 ∧ zmaxl 179 = 4 ∧ zstat 179 = false ∧ zown 179 = 7 := by decide +kernel
theorem G_X7_after : zcode 179 = C_X7_after_0 := by decide +kernel
theorem M_X7_book : znar 180 = 3 ∧ zmaxl 180 = 3 ∧ zstat 180 = false ∧ zown 180 = 7 := by decide +kernel
theorem G_X7_book : zcode 180 = C_X7_book_0 := by decide +kernel
theorem M_X7_looked : znar 181 = 1 ∧ zmaxl 181 = 2 ∧ zstat 181 = false ∧ zown 181 = 7 := by decide +kernel
theorem G_X7_looked : zcode 181 = C_X7_looked_0 := by decide +kernel
theorem M_X7_image : znar 182 = 1 ∧ zmaxl 182 = 1 ∧ zstat 182 = false ∧ zown 182 = 7 := by decide +kernel
theorem G_X7_image : zcode 182 = C_X7_image_0 := by decide +kernel
theorem M_X7_undo : znar 183 = 1 ∧ zmaxl 183 = 1 ∧ zstat 183 = false ∧ zown 183 = 7 := by decide +kernel
theorem G_X7_undo : zcode 183 = C_X7_undo_0 := by decide +kernel
theorem M_X7_count : znar 184 = 2 ∧ zmaxl 184 = 2 ∧ zstat 184 = false ∧ zown 184 = 7 := by decide +kernel
theorem G_X7_count : zcode 184 = C_X7_count_0 := by decide +kernel
theorem M_X7_isTape : znar 185 = 1 ∧ zmaxl 185 = 1 ∧ zstat 185 = true ∧ zown 185 = 7 := by decide +kernel
theorem G_X7_isTape : zcode 185 = C_X7_isTape_0 := by decide +kernel
theorem M_X7_tape : znar 186 = 4 ∧ zmaxl 186 = 5 ∧ zstat 186 = false ∧ zown 186 = 7 := by decide +kernel
theorem G_X7_tape : zcode 186 = C_X7_tape_0 := by decide +kernel
theorem M_X7_kept : znar 187 = 2 ∧ zmaxl 187 = 3 ∧ zstat 187 = true ∧ zown 187 = 7 := by decide +kernel
theorem G_X7_kept : zcode 187 = C_X7_kept_0 := by decide +kernel
theorem M_X7_item : znar 188 = 4 ∧ zmaxl 188 = 5 ∧ zstat 188 = false ∧ zown 188 = 7 := by decide +kernel
theorem G_X7_item : zcode 188 = C_X7_item_0 := by decide +kernel
theorem M_X7_peek : znar 189 = 3 ∧ zmaxl 189 = 3 ∧ zstat 189 = false ∧ zown 189 = 7 := by decide +kernel
theorem G_X7_peek : zcode 189 = C_X7_peek_0 := by decide +kernel
theorem M_X7_shift : znar 190 = 6 ∧ zmaxl 190 = 6 ∧ zstat 190 = false ∧ zown 190 = 7 := by decide +kernel
theorem G_X7_shift : zcode 190 = C_X7_shift_0 := by decide +kernel
theorem M_X7_judge : znar 191 = 3 ∧ zmaxl 191 = 4 ∧ zstat 191 = false ∧ zown 191 = 7 := by decide +kernel
theorem G_X7_judge : zcode 191 = C_X7_judge_0 := by decide +kernel
theorem M_J6_bitCount : znar 192 = 1 ∧ zmaxl 192 = 1 ∧ zstat 192 = true ∧ zown 192 = 9 := by decide +kernel
theorem G_J6_bitCount : zcode 192 = C_J6_bitCount_0 := by decide +kernel
theorem M_L_law : znar 193 = 1 ∧ zmaxl 193 = 4 ∧ zstat 193 = true ∧ zown 193 = 8 := by decide +kernel
