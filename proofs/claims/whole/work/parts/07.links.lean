theorem aa_t1 {w : Cond} (i : Nat) (h : tables_1_1[i]? = some w) : w ∈ lw_tbl := List.mem_append_right _ (show w ∈ tables_1 from List.mem_append_left _ (List.mem_of_getElem? h))
theorem aa_t2 {w : Cond} (i : Nat) (h : tables_1_2[i]? = some w) : w ∈ lw_tbl := List.mem_append_right _ (show w ∈ tables_1 from List.mem_append_right _ (List.mem_append_left _ (List.mem_of_getElem? h)))
theorem aa_t3 {w : Cond} (i : Nat) (h : tables_1_3[i]? = some w) : w ∈ lw_tbl := List.mem_append_right _ (show w ∈ tables_1 from List.mem_append_right _ (List.mem_append_right _ (List.mem_append_left _ (List.mem_of_getElem? h))))
theorem aa_t4 {w : Cond} (i : Nat) (h : tables_1_4[i]? = some w) : w ∈ lw_tbl := List.mem_append_right _ (show w ∈ tables_1 from List.mem_append_right _ (List.mem_append_right _ (List.mem_append_right _ (List.mem_append_left _ (List.mem_of_getElem? h)))))
theorem aa_t5 {w : Cond} (i : Nat) (h : tables_1_5[i]? = some w) : w ∈ lw_tbl := List.mem_append_right _ (show w ∈ tables_1 from List.mem_append_right _ (List.mem_append_right _ (List.mem_append_right _ (List.mem_append_right _ (List.mem_append_left _ (List.mem_of_getElem? h))))))
theorem aa_t6 {w : Cond} (i : Nat) (h : tables_1_6[i]? = some w) : w ∈ lw_tbl := List.mem_append_right _ (show w ∈ tables_1 from List.mem_append_right _ (List.mem_append_right _ (List.mem_append_right _ (List.mem_append_right _ (List.mem_append_right _ (List.mem_append_left _ (List.mem_of_getElem? h)))))))
theorem aa_t7 {w : Cond} (i : Nat) (h : tables_1_7[i]? = some w) : w ∈ lw_tbl := List.mem_append_right _ (show w ∈ tables_1 from List.mem_append_right _ (List.mem_append_right _ (List.mem_append_right _ (List.mem_append_right _ (List.mem_append_right _ (List.mem_append_right _ (List.mem_append_left _ (List.mem_of_getElem? h))))))))
theorem aa_t8 {w : Cond} (i : Nat) (h : tables_1_8[i]? = some w) : w ∈ lw_tbl := List.mem_append_right _ (show w ∈ tables_1 from List.mem_append_right _ (List.mem_append_right _ (List.mem_append_right _ (List.mem_append_right _ (List.mem_append_right _ (List.mem_append_right _ (List.mem_append_right _ (List.mem_of_getElem? h))))))))
theorem aa_tp {w : Cond} (i : Nat) (h : (k2_sels lw_privs)[i]? = some w) : w ∈ lw_tbl := List.mem_append_left _ (List.mem_of_getElem? h)
def mX0_init : aa_M := (yX0_init, cX0_init, 2, none)
def mX0_firstChange : aa_M := (yX0_firstChange, cX0_firstChange, 1, (some .int))
def mX0_secondChange : aa_M := (yX0_secondChange, cX0_secondChange, 1, (some .int))
def mX0_look : aa_M := (yX0_look, cX0_look, 4, none)
def mX0_turning : aa_M := (yX0_turning, cX0_turning, 7, (some .long))
def mX0_fewest : aa_M := (yX0_fewest, cX0_fewest, 7, (some .int))
def mX0_secondBehind : aa_M := (yX0_secondBehind, cX0_secondBehind, 4, (some .int))
def mX0_kinds : aa_M := (yX0_kinds, cX0_kinds, 1, (some .int))
def mX0_named : aa_M := (yX0_named, cX0_named, 3, (some .int))
def mX0_stands : aa_M := (yX0_stands, cX0_stands, 4, (some .boolean))
def mX0_partBy : aa_M := (yX0_partBy, cX0_partBy, 3, (some .int))
def mX0_laidBy : aa_M := (yX0_laidBy, cX0_laidBy, 3, (some .int))
def mX0_turns : aa_M := (yX0_turns, cX0_turns, 4, (some .boolean))
def mX0_victoryBehind : aa_M := (yX0_victoryBehind, cX0_victoryBehind, 8, (some .boolean))
def mX0_left : aa_M := (yX0_left, cX0_left, 2, (some .int))
def mX0_victory : aa_M := (yX0_victory, cX0_victory, 10, (some .boolean))
def mX0_winsByLaid : aa_M := (yX0_winsByLaid, cX0_winsByLaid, 6, (some .boolean))
def mX0_winsByThings : aa_M := (yX0_winsByThings, cX0_winsByThings, 8, (some .boolean))
def mX1_init : aa_M := (yX1_init, cX1_init, 2, none)
def mX1_lay : aa_M := (yX1_lay, cX1_lay, 3, none)
def mX1_renumbered : aa_M := (yX1_renumbered, cX1_renumbered, 4, (some .int))
def mX1_worthOf : aa_M := (yX1_worthOf, cX1_worthOf, 4, (some .int))
def mX1_many : aa_M := (yX1_many, cX1_many, 1, (some .int))
def mX1_all : aa_M := (yX1_all, cX1_all, 1, (some .int))
def mX1_thingAt : aa_M := (yX1_thingAt, cX1_thingAt, 2, (some .int))
def mX1_takes : aa_M := (yX1_takes, cX1_takes, 3, (some .int))
def mX1_behind : aa_M := (yX1_behind, cX1_behind, 3, (some .int))
def mX1_cell : aa_M := (yX1_cell, cX1_cell, 4, (some .long))
def mX1_set : aa_M := (yX1_set, cX1_set, 6, none)
def mX1_meanMore : aa_M := (yX1_meanMore, cX1_meanMore, 4, (some .long))
def mX1_meanOf : aa_M := (yX1_meanOf, cX1_meanOf, 8, (some .long))
def mX1_hire : aa_M := (yX1_hire, cX1_hire, 4, none)
def mX1_chance : aa_M := (yX1_chance, cX1_chance, 4, (some .long))
def mX1_chanceOf : aa_M := (yX1_chanceOf, cX1_chanceOf, 12, (some .long))
def mX2_init : aa_M := (yX2_init, cX2_init, 2, none)
def mX2_start : aa_M := (yX2_start, cX2_start, 1, none)
def mX2_state : aa_M := (yX2_state, cX2_state, 1, (some .int))
def mX2_there : aa_M := (yX2_there, cX2_there, 1, (some .int))
def mX2_made : aa_M := (yX2_made, cX2_made, 1, (some .int))
def mX2_turn : aa_M := (yX2_turn, cX2_turn, 1, (some .int))
def mX2_ending : aa_M := (yX2_ending, cX2_ending, 1, (some .int))
def mX2_endBy : aa_M := (yX2_endBy, cX2_endBy, 2, none)
def mX2_go : aa_M := (yX2_go, cX2_go, 3, (some .int))
def mX2_goBack : aa_M := (yX2_goBack, cX2_goBack, 1, (some .int))
def mX2_takenBy : aa_M := (yX2_takenBy, cX2_takenBy, 5, (some .int))
def mX2_copy : aa_M := (yX2_copy, cX2_copy, 3, none)
def mX3_init : aa_M := (yX3_init, cX3_init, 2, none)
def mX3_valueOf : aa_M := (yX3_valueOf, cX3_valueOf, 4, (some .int))
def mX3_valueFrom : aa_M := (yX3_valueFrom, cX3_valueFrom, 9, (some .int))
def mX3_valuesBehind : aa_M := (yX3_valuesBehind, cX3_valuesBehind, 5, (some .int))
def mX3_firstTo : aa_M := (yX3_firstTo, cX3_firstTo, 5, (some .int))
def mX3_byJoining : aa_M := (yX3_byJoining, cX3_byJoining, 5, (some .int))
def mX3_compare : aa_M := (yX3_compare, cX3_compare, 5, (some .int))
def mX3_list : aa_M := (yX3_list, cX3_list, 4, (some .int))
def mX3_pairs : aa_M := (yX3_pairs, cX3_pairs, 5, (some .boolean))
def mX3_fits : aa_M := (yX3_fits, cX3_fits, 6, (some .boolean))
def mX4_init : aa_M := (yX4_init, cX4_init, 1, none)
def mX4_fit : aa_M := (yX4_fit, cX4_fit, 2, none)
def mX4_at : aa_M := (yX4_at, cX4_at, 2, (some .long))
def mX4_set : aa_M := (yX4_set, cX4_set, 4, none)
def mX5_init : aa_M := (yX5_init, cX5_init, 2, none)
def mX5_next : aa_M := (yX5_next, cX5_next, 1, (some .int))
def mX5_like : aa_M := (yX5_like, cX5_like, 3, none)
def mX5_liked : aa_M := (yX5_liked, cX5_liked, 3, (some .int))
def mX5_keeper : aa_M := (yX5_keeper, cX5_keeper, 3, (some .int))
def mX5_keeperFrom : aa_M := (yX5_keeperFrom, cX5_keeperFrom, 12, (some .int))
def mX5_firstStep : aa_M := (yX5_firstStep, cX5_firstStep, 6, (some .int))
def mX5_keeperWithout : aa_M := (yX5_keeperWithout, cX5_keeperWithout, 5, (some .int))
def mX5_escapes : aa_M := (yX5_escapes, cX5_escapes, 11, (some .boolean))
def mX6_init : aa_M := (yX6_init, cX6_init, 1, none)
def mX6_lowest : aa_M := (yX6_lowest, cX6_lowest, 1, (some .int))
def mX6_add : aa_M := (yX6_add, cX6_add, 7, none)
def mX6_settle : aa_M := (yX6_settle, cX6_settle, 2, none)
def mX6_splitHeaps : aa_M := (yX6_splitHeaps, cX6_splitHeaps, 5, none)
def mX6_addUp : aa_M := (yX6_addUp, cX6_addUp, 4, none)
def mX6_worthOf : aa_M := (yX6_worthOf, cX6_worthOf, 2, (some .int))
def mX6_version : aa_M := (yX6_version, cX6_version, 1, (some .int))
def mX6_things : aa_M := (yX6_things, cX6_things, 1, (some .int))
def mX6_backs : aa_M := (yX6_backs, cX6_backs, 1, (some .int))
def mX6_has : aa_M := (yX6_has, cX6_has, 2, (some .boolean))
def mX6_worthAt : aa_M := (yX6_worthAt, cX6_worthAt, 2, (some .int))
def mX6_setWorth : aa_M := (yX6_setWorth, cX6_setWorth, 3, none)
def mX6_heirsOf : aa_M := (yX6_heirsOf, cX6_heirsOf, 2, (some .int))
def mX6_under : aa_M := (yX6_under, cX6_under, 2, (some .int))
def mX6_above : aa_M := (yX6_above, cX6_above, 2, (some .int))
def mX6_isBack : aa_M := (yX6_isBack, cX6_isBack, 2, (some .boolean))
def mX6_full : aa_M := (yX6_full, cX6_full, 1, (some .int))
def mX6_first : aa_M := (yX6_first, cX6_first, 1, (some .int))
def mX6_allPutBack : aa_M := (yX6_allPutBack, cX6_allPutBack, 1, (some .int))
def mX6_justThese : aa_M := (yX6_justThese, cX6_justThese, 2, (some .int))
def mX6_heapsInAll : aa_M := (yX6_heapsInAll, cX6_heapsInAll, 1, (some .int))
def mX6_inHeap : aa_M := (yX6_inHeap, cX6_inHeap, 4, (some .int))
def mX6_size : aa_M := (yX6_size, cX6_size, 1, (some .int))
def mX6_putBack : aa_M := (yX6_putBack, cX6_putBack, 4, (some .int))
def mX6_takes : aa_M := (yX6_takes, cX6_takes, 3, (some .int))
def mX6_moves : aa_M := (yX6_moves, cX6_moves, 5, (some .int))
def mX6_steps : aa_M := (yX6_steps, cX6_steps, 1, (some .int))
def mX6_can : aa_M := (yX6_can, cX6_can, 4, (some .boolean))
def mX6_behind : aa_M := (yX6_behind, cX6_behind, 3, (some .int))
def mX6_step : aa_M := (yX6_step, cX6_step, 3, (some .int))
def mX6_moveOf : aa_M := (yX6_moveOf, cX6_moveOf, 2, (some .int))
def mX6_named : aa_M := (yX6_named, cX6_named, 4, (some .int))
def mX6_lowestOf : aa_M := (yX6_lowestOf, cX6_lowestOf, 4, (some .int))
def mX6_withAbove : aa_M := (yX6_withAbove, cX6_withAbove, 5, (some .int))
def mX6_heapOf : aa_M := (yX6_heapOf, cX6_heapOf, 7, (some .int))
def mX7_init : aa_M := (yX7_init, cX7_init, 1, none)
def mX7_length : aa_M := (yX7_length, cX7_length, 1, (some .int))
def mX7_append : aa_M := (yX7_append, cX7_append, 3, (some .int))
def mX7_cut : aa_M := (yX7_cut, cX7_cut, 2, (some .boolean))
def mX7_read : aa_M := (yX7_read, cX7_read, 5, (some .int))
def mX7_layOn : aa_M := (yX7_layOn, cX7_layOn, 3, none)
def mX7_isDigit : aa_M := (yX7_isDigit, cX7_isDigit, 1, (some .boolean))
def mX7_mayEnd : aa_M := (yX7_mayEnd, cX7_mayEnd, 1, (some .boolean))
def mX7_takes : aa_M := (yX7_takes, cX7_takes, 3, (some .boolean))
def mX7_takesWorth : aa_M := (yX7_takesWorth, cX7_takesWorth, 2, (some .boolean))
def mX7_takesHeirs : aa_M := (yX7_takesHeirs, cX7_takesHeirs, 2, (some .boolean))
def mX7_takesOn : aa_M := (yX7_takesOn, cX7_takesOn, 3, (some .boolean))
def mX7_takesFirstDigit : aa_M := (yX7_takesFirstDigit, cX7_takesFirstDigit, 3, (some .boolean))
def mX7_takesNumber : aa_M := (yX7_takesNumber, cX7_takesNumber, 1, (some .boolean))
def mX7_takesTail : aa_M := (yX7_takesTail, cX7_takesTail, 2, (some .boolean))
def mX7_takesLineEnd : aa_M := (yX7_takesLineEnd, cX7_takesLineEnd, 2, (some .boolean))
def mX8_init : aa_M := (yX8_init, cX8_init, 1, none)
def mX8_packed : aa_M := (yX8_packed, cX8_packed, 4, (some .int))
def mX8_victory : aa_M := (yX8_victory, cX8_victory, 2, (some .boolean))
def mX8_winningStone : aa_M := (yX8_winningStone, cX8_winningStone, 2, (some .int))
def mX8_victoryFrom : aa_M := (yX8_victoryFrom, cX8_victoryFrom, 4, (some .boolean))
def mX8_stoneFrom : aa_M := (yX8_stoneFrom, cX8_stoneFrom, 6, (some .int))
def mX8_without : aa_M := (yX8_without, cX8_without, 6, (some .int))
def mX9_init : aa_M := (yX9_init, cX9_init, 2, none)
def mX9_victory : aa_M := (yX9_victory, cX9_victory, 4, (some .boolean))
def mX9_victoryFrom : aa_M := (yX9_victoryFrom, cX9_victoryFrom, 11, (some .boolean))
def mX9_winningSteps : aa_M := (yX9_winningSteps, cX9_winningSteps, 7, (some .int))
def mX9_soonest : aa_M := (yX9_soonest, cX9_soonest, 4, (some .int))
def mX9_wonIn : aa_M := (yX9_wonIn, cX9_wonIn, 2, (some .boolean))
def mX9_soonestFrom : aa_M := (yX9_soonestFrom, cX9_soonestFrom, 14, (some .int))
def mX9_firstSoonest : aa_M := (yX9_firstSoonest, cX9_firstSoonest, 7, (some .int))
def mX9_reach : aa_M := (yX9_reach, cX9_reach, 4, (some .int))
def mX9_lostReached : aa_M := (yX9_lostReached, cX9_lostReached, 1, (some .int))
def mX9_visit : aa_M := (yX9_visit, cX9_visit, 12, none)
def mX9_games : aa_M := (yX9_games, cX9_games, 4, (some .long))
def mX9_gamesFrom : aa_M := (yX9_gamesFrom, cX9_gamesFrom, 9, (some .long))
def mX10_init : aa_M := (yX10_init, cX10_init, 2, none)
def mX10_forget : aa_M := (yX10_forget, cX10_forget, 1, none)
def mX10_more : aa_M := (yX10_more, cX10_more, 3, (some .int))
def mX10_cell : aa_M := (yX10_cell, cX10_cell, 4, (some .long))
def mX10_moreFrom : aa_M := (yX10_moreFrom, cX10_moreFrom, 13, (some .int))
def mX10_firstBest : aa_M := (yX10_firstBest, cX10_firstBest, 7, (some .int))
def mX10_greediest : aa_M := (yX10_greediest, cX10_greediest, 8, (some .int))
def mX11_init : aa_M := (yX11_init, cX11_init, 2, none)
def mX11_sign : aa_M := (yX11_sign, cX11_sign, 2, (some .int))
def mX11_end : aa_M := (yX11_end, cX11_end, 2, (some .boolean))
def mX11_piles : aa_M := (yX11_piles, cX11_piles, 3, (some .int))
def mX11_thing : aa_M := (yX11_thing, cX11_thing, 3, (some .int))
def mX11_ends : aa_M := (yX11_ends, cX11_ends, 3, (some .int))
def mX11_sheet : aa_M := (yX11_sheet, cX11_sheet, 7, (some .int))
def mX11_entry : aa_M := (yX11_entry, cX11_entry, 3, (some .int))
def mX11_may : aa_M := (yX11_may, cX11_may, 2, (some .int))
def mX11_move : aa_M := (yX11_move, cX11_move, 3, (some .int))
def mX11_undo : aa_M := (yX11_undo, cX11_undo, 1, (some .int))
def mX11_begin : aa_M := (yX11_begin, cX11_begin, 2, (some .int))
def mX11_judge : aa_M := (yX11_judge, cX11_judge, 9, (some .int))
def mX11_taken : aa_M := (yX11_taken, cX11_taken, 3, (some .int))
def mX11_wins : aa_M := (yX11_wins, cX11_wins, 2, (some .int))
def mX11_would : aa_M := (yX11_would, cX11_would, 3, (some .int))
def mX11_winner : aa_M := (yX11_winner, cX11_winner, 3, (some .int))
def mX11_soon : aa_M := (yX11_soon, cX11_soon, 1, (some .int))
def mX11_leave : aa_M := (yX11_leave, cX11_leave, 4, (some .int))
def mX11_states : aa_M := (yX11_states, cX11_states, 2, (some .int))
def mX11_lines : aa_M := (yX11_lines, cX11_lines, 2, (some .long))
def mX11_forced : aa_M := (yX11_forced, cX11_forced, 6, (some .int))
def mX11_tempo : aa_M := (yX11_tempo, cX11_tempo, 3, (some .int))
def mX11_value : aa_M := (yX11_value, cX11_value, 1, (some .int))
def mX11_alone : aa_M := (yX11_alone, cX11_alone, 2, (some .int))
def mX11_heap : aa_M := (yX11_heap, cX11_heap, 2, (some .int))
def mX11_isThere : aa_M := (yX11_isThere, cX11_isThere, 2, (some .boolean))
def mX11_heaps : aa_M := (yX11_heaps, cX11_heaps, 4, (some .int))
def mX11_make : aa_M := (yX11_make, cX11_make, 3, (some .int))
def mX11_joined : aa_M := (yX11_joined, cX11_joined, 1, (some .int))
def mX11_alike : aa_M := (yX11_alike, cX11_alike, 3, (some .int))
def mX11_wall : aa_M := (yX11_wall, cX11_wall, 7, (some .int))
def mX11_best : aa_M := (yX11_best, cX11_best, 1, (some .int))
def mX11_gets : aa_M := (yX11_gets, cX11_gets, 3, (some .int))
def mX11_greedy : aa_M := (yX11_greedy, cX11_greedy, 6, (some .int))
def mX11_limits : aa_M := (yX11_limits, cX11_limits, 4, (some .int))
def mX11_mean : aa_M := (yX11_mean, cX11_mean, 1, (some .int))
def mX11_isTooMuch : aa_M := (yX11_isTooMuch, cX11_isTooMuch, 2, (some .boolean))
def mX11_likes : aa_M := (yX11_likes, cX11_likes, 3, (some .boolean))
def mX11_parrot : aa_M := (yX11_parrot, cX11_parrot, 2, (some .int))
def mX11_parrots : aa_M := (yX11_parrots, cX11_parrots, 4, (some .int))
def mX11_out : aa_M := (yX11_out, cX11_out, 3, (some .int))
def mX11_notary : aa_M := (yX11_notary, cX11_notary, 3, (some .int))
def mX11_change : aa_M := (yX11_change, cX11_change, 2, (some .int))
def mX11_single : aa_M := (yX11_single, cX11_single, 3, (some .int))
def mX11_keep : aa_M := (yX11_keep, cX11_keep, 2, (some .boolean))
def mX11_again : aa_M := (yX11_again, cX11_again, 2, (some .boolean))
def mX11_count : aa_M := (yX11_count, cX11_count, 2, (some .int))
def mX11_row : aa_M := (yX11_row, cX11_row, 2, (some .long))
def mX11_tell : aa_M := (yX11_tell, cX11_tell, 3, none)
def mX11_tell_ : aa_M := (yX11_tell_, cX11_tell_, 5, none)
def mX11_tellFraction : aa_M := (yX11_tellFraction, cX11_tellFraction, 7, none)
def mX11_commonDivisor : aa_M := (yX11_commonDivisor, cX11_commonDivisor, 11, (some .long))
def mX12_thrown : aa_M := (yX12_thrown, cX12_thrown, 1, (some .int))
def mX12_refuse : aa_M := (yX12_refuse, cX12_refuse, 1, (some .int))
def mX12_in : aa_M := (yX12_in, cX12_in, 6, (some .boolean))
def mX12_has : aa_M := (yX12_has, cX12_has, 2, (some .boolean))
def mX12_flag : aa_M := (yX12_flag, cX12_flag, 1, (some .int))
def mX12_enters : aa_M := (yX12_enters, cX12_enters, 3, none)
def mX12_common : aa_M := (yX12_common, cX12_common, 10, (some .long))
def mX12_sign : aa_M := (yX12_sign, cX12_sign, 3, (some .int))
def mX12_end : aa_M := (yX12_end, cX12_end, 2, (some .boolean))
def mX12_takes : aa_M := (yX12_takes, cX12_takes, 3, (some .boolean))
def mX12_isDigit : aa_M := (yX12_isDigit, cX12_isDigit, 1, (some .boolean))
def mX12_number : aa_M := (yX12_number, cX12_number, 6, (some .int))
def mX12_readsOn : aa_M := (yX12_readsOn, cX12_readsOn, 5, (some .boolean))
def mX12_readsThing : aa_M := (yX12_readsThing, cX12_readsThing, 2, (some .boolean))
def mX12_piles : aa_M := (yX12_piles, cX12_piles, 6, (some .int))
def mX12_rises : aa_M := (yX12_rises, cX12_rises, 4, none)
def mX12_begins : aa_M := (yX12_begins, cX12_begins, 1, none)
def mX12_isThing : aa_M := (yX12_isThing, cX12_isThing, 2, (some .boolean))
def mX12_isThere : aa_M := (yX12_isThere, cX12_isThere, 2, (some .boolean))
def mX12_backOf : aa_M := (yX12_backOf, cX12_backOf, 3, (some .int))
def mX12_thing : aa_M := (yX12_thing, cX12_thing, 3, (some .int))
def mX12_ends : aa_M := (yX12_ends, cX12_ends, 3, (some .int))
def mX12_sheet : aa_M := (yX12_sheet, cX12_sheet, 9, (some .int))
def mX12_canPut : aa_M := (yX12_canPut, cX12_canPut, 4, (some .boolean))
def mX12_can : aa_M := (yX12_can, cX12_can, 5, (some .boolean))
def mX12_after : aa_M := (yX12_after, cX12_after, 4, (some .int))
def mX12_worthOf : aa_M := (yX12_worthOf, cX12_worthOf, 5, (some .int))
def mX12_movesOf : aa_M := (yX12_movesOf, cX12_movesOf, 5, (some .int))
def mX12_may : aa_M := (yX12_may, cX12_may, 2, (some .int))
def mX12_move : aa_M := (yX12_move, cX12_move, 3, (some .int))
def mX12_undo : aa_M := (yX12_undo, cX12_undo, 1, (some .int))
def mX12_begin : aa_M := (yX12_begin, cX12_begin, 2, (some .int))
def mX12_judge : aa_M := (yX12_judge, cX12_judge, 11, (some .int))
def mX12_taken : aa_M := (yX12_taken, cX12_taken, 2, (some .int))
def mX12_asks : aa_M := (yX12_asks, cX12_asks, 1, none)
def mX12_placeOf : aa_M := (yX12_placeOf, cX12_placeOf, 3, (some .int))
def mX12_isKnown : aa_M := (yX12_isKnown, cX12_isKnown, 2, (some .boolean))
def mX12_keeps : aa_M := (yX12_keeps, cX12_keeps, 3, (some .int))
def mX12_win : aa_M := (yX12_win, cX12_win, 8, (some .int))
def mX12_winner : aa_M := (yX12_winner, cX12_winner, 4, (some .int))
def mX12_wins : aa_M := (yX12_wins, cX12_wins, 4, (some .int))
def mX12_would : aa_M := (yX12_would, cX12_would, 3, (some .int))
def mX12_lasts : aa_M := (yX12_lasts, cX12_lasts, 10, (some .int))
def mX12_soon : aa_M := (yX12_soon, cX12_soon, 2, (some .int))
def mX12_leave : aa_M := (yX12_leave, cX12_leave, 3, (some .int))
def mX12_states : aa_M := (yX12_states, cX12_states, 7, (some .int))
def mX12_lines : aa_M := (yX12_lines, cX12_lines, 6, (some .long))
def mX12_forced : aa_M := (yX12_forced, cX12_forced, 5, (some .int))
def mX12_moves : aa_M := (yX12_moves, cX12_moves, 7, (some .int))
def mX12_tempo : aa_M := (yX12_tempo, cX12_tempo, 3, (some .int))
def mX12_leadsTo : aa_M := (yX12_leadsTo, cX12_leadsTo, 4, (some .int))
def mX12_valueOf : aa_M := (yX12_valueOf, cX12_valueOf, 2, (some .int))
def mX12_value : aa_M := (yX12_value, cX12_value, 2, (some .int))
def mX12_areThings : aa_M := (yX12_areThings, cX12_areThings, 2, (some .boolean))
def mX12_aloneOf : aa_M := (yX12_aloneOf, cX12_aloneOf, 2, (some .int))
def mX12_alone : aa_M := (yX12_alone, cX12_alone, 2, (some .int))
def mX12_heapOf : aa_M := (yX12_heapOf, cX12_heapOf, 7, (some .int))
def mX12_heap : aa_M := (yX12_heap, cX12_heap, 2, (some .int))
def mX12_heaps : aa_M := (yX12_heaps, cX12_heaps, 4, (some .int))
def mX12_make : aa_M := (yX12_make, cX12_make, 3, (some .int))
def mX12_joins : aa_M := (yX12_joins, cX12_joins, 4, (some .int))
def mX12_joined : aa_M := (yX12_joined, cX12_joined, 5, (some .int))
def mX12_pairs : aa_M := (yX12_pairs, cX12_pairs, 8, (some .boolean))
def mX12_alike : aa_M := (yX12_alike, cX12_alike, 6, (some .int))
def mX12_rowOf : aa_M := (yX12_rowOf, cX12_rowOf, 2, (some .int))
def mX12_bites : aa_M := (yX12_bites, cX12_bites, 6, (some .int))
def mX12_winWall : aa_M := (yX12_winWall, cX12_winWall, 5, (some .int))
def mX12_wall : aa_M := (yX12_wall, cX12_wall, 11, (some .int))
def mX12_more : aa_M := (yX12_more, cX12_more, 8, (some .int))
def mX12_best : aa_M := (yX12_best, cX12_best, 2, (some .int))
def mX12_gets : aa_M := (yX12_gets, cX12_gets, 3, (some .int))
def mX12_greedy : aa_M := (yX12_greedy, cX12_greedy, 6, (some .int))
def mX12_reach : aa_M := (yX12_reach, cX12_reach, 5, (some .int))
def mX12_limits : aa_M := (yX12_limits, cX12_limits, 3, (some .int))
def mX12_wholeOfMean : aa_M := (yX12_wholeOfMean, cX12_wholeOfMean, 4, (some .long))
def mX12_means : aa_M := (yX12_means, cX12_means, 13, (some .long))
def mX12_mean : aa_M := (yX12_mean, cX12_mean, 8, (some .int))
def mX12_likes : aa_M := (yX12_likes, cX12_likes, 3, (some .boolean))
def mX12_liking : aa_M := (yX12_liking, cX12_liking, 3, (some .int))
def mX12_keeper : aa_M := (yX12_keeper, cX12_keeper, 9, (some .int))
def mX12_parrot : aa_M := (yX12_parrot, cX12_parrot, 3, (some .int))
def mX12_parrots : aa_M := (yX12_parrots, cX12_parrots, 3, (some .int))
def mX12_keeperOfTwo : aa_M := (yX12_keeperOfTwo, cX12_keeperOfTwo, 10, (some .int))
def mX12_out : aa_M := (yX12_out, cX12_out, 5, (some .int))
def mX12_whole : aa_M := (yX12_whole, cX12_whole, 4, (some .long))
def mX12_chance : aa_M := (yX12_chance, cX12_chance, 20, (some .long))
def mX12_notary : aa_M := (yX12_notary, cX12_notary, 12, (some .int))
def mX12_winWide : aa_M := (yX12_winWide, cX12_winWide, 8, (some .int))
def mX12_changes : aa_M := (yX12_changes, cX12_changes, 5, (some .boolean))
def mX12_clears : aa_M := (yX12_clears, cX12_clears, 1, none)
def mX12_winsNow : aa_M := (yX12_winsNow, cX12_winsNow, 1, (some .boolean))
def mX12_isFew : aa_M := (yX12_isFew, cX12_isFew, 1, (some .boolean))
def mX12_turnsBy : aa_M := (yX12_turnsBy, cX12_turnsBy, 6, (some .boolean))
def mX12_canChange : aa_M := (yX12_canChange, cX12_canChange, 3, (some .boolean))
def mX12_isChange : aa_M := (yX12_isChange, cX12_isChange, 1, (some .boolean))
def mX12_change : aa_M := (yX12_change, cX12_change, 4, (some .int))
def mX12_single : aa_M := (yX12_single, cX12_single, 6, (some .int))
def mX12_keep : aa_M := (yX12_keep, cX12_keep, 4, (some .boolean))
def mX12_again : aa_M := (yX12_again, cX12_again, 4, (some .boolean))
def mX12_putBack : aa_M := (yX12_putBack, cX12_putBack, 3, (some .int))
def mX12_count : aa_M := (yX12_count, cX12_count, 2, (some .int))
def mX12_init : aa_M := (yX12_init, cX12_init, 1, none)
def mX12_row : aa_M := (yX12_row, cX12_row, 2, (some .long))
def mJ6_numberOfTrailingZeros_0f7a4 : aa_M := (yJ6_numberOfTrailingZeros_0f7a4, cJ6_numberOfTrailingZeros_0f7a4, 2, (some .int))
def mJ6_bitCount_0f7a4 : aa_M := (yJ6_bitCount_0f7a4, cJ6_bitCount_0f7a4, 1, (some .int))
def mJ13_bitCount_95d88 : aa_M := (yJ13_bitCount_95d88, cJ13_bitCount_95d88, 2, (some .int))
def mJ9_abs_067f4 : aa_M := (yJ9_abs_067f4, cJ9_abs_067f4, 2, (some .long))
def mJ9_max_7cf53 : aa_M := (yJ9_max_7cf53, cJ9_max_7cf53, 2, (some .int))
def mJ9_max_f86c9 : aa_M := (yJ9_max_f86c9, cJ9_max_f86c9, 4, (some .long))
def mJ9_min_7cf53 : aa_M := (yJ9_min_7cf53, cJ9_min_7cf53, 2, (some .int))
def mJ9_min_f86c9 : aa_M := (yJ9_min_f86c9, cJ9_min_f86c9, 4, (some .long))
theorem lc_X0_init : aa_LC mX0_init 1 := ⟨⟨aa_t2 63 rfl, rfl⟩, ⟨aa_t1 12 rfl, rfl⟩, by decide +kernel, by decide⟩
theorem lc_X0_firstChange : aa_LC mX0_firstChange 0 := ⟨⟨aa_t5 206 rfl, rfl⟩, ⟨aa_t1 12 rfl, rfl⟩, by decide +kernel, by decide⟩
theorem lc_X0_secondChange : aa_LC mX0_secondChange 0 := ⟨⟨aa_t5 210 rfl, rfl⟩, ⟨aa_t1 12 rfl, rfl⟩, by decide +kernel, by decide⟩
theorem lc_X0_look : aa_LC mX0_look 3 := ⟨⟨aa_t5 140 rfl, rfl⟩, ⟨aa_t1 12 rfl, rfl⟩, by decide +kernel, by decide⟩
theorem lc_X0_turning : aa_LC mX0_turning 3 := ⟨⟨aa_t5 218 rfl, rfl⟩, ⟨aa_t1 12 rfl, rfl⟩, by decide +kernel, by decide⟩
theorem lc_X0_fewest : aa_LC mX0_fewest 3 := ⟨⟨aa_t5 136 rfl, rfl⟩, ⟨aa_t1 12 rfl, rfl⟩, by decide +kernel, by decide⟩
theorem lc_X0_secondBehind : aa_LC mX0_secondBehind 2 := ⟨⟨aa_t5 198 rfl, rfl⟩, ⟨aa_t1 12 rfl, rfl⟩, by decide +kernel, by decide⟩
theorem lc_X0_kinds : aa_LC mX0_kinds 0 := ⟨⟨aa_t5 174 rfl, rfl⟩, ⟨aa_t1 12 rfl, rfl⟩, by decide +kernel, by decide⟩
theorem lc_X0_named : aa_LC mX0_named 1 := ⟨⟨aa_t5 190 rfl, rfl⟩, ⟨aa_t1 12 rfl, rfl⟩, by decide +kernel, by decide⟩
theorem lc_X0_stands : aa_LC mX0_stands 2 := ⟨⟨aa_t5 202 rfl, rfl⟩, ⟨aa_t1 12 rfl, rfl⟩, by decide +kernel, by decide⟩
theorem lc_X0_partBy : aa_LC mX0_partBy 2 := ⟨⟨aa_t5 178 rfl, rfl⟩, ⟨aa_t1 12 rfl, rfl⟩, by decide +kernel, by decide⟩
theorem lc_X0_laidBy : aa_LC mX0_laidBy 1 := ⟨⟨aa_t5 182 rfl, rfl⟩, ⟨aa_t1 12 rfl, rfl⟩, by decide +kernel, by decide⟩
theorem lc_X0_turns : aa_LC mX0_turns 3 := ⟨⟨aa_t5 186 rfl, rfl⟩, ⟨aa_t1 12 rfl, rfl⟩, by decide +kernel, by decide⟩
theorem lc_X0_victoryBehind : aa_LC mX0_victoryBehind 5 := ⟨⟨aa_t5 165 rfl, rfl⟩, ⟨aa_t1 12 rfl, rfl⟩, by decide +kernel, by decide⟩
theorem lc_X0_left : aa_LC mX0_left 2 := ⟨⟨aa_t5 168 rfl, rfl⟩, ⟨aa_t1 12 rfl, rfl⟩, by decide +kernel, by decide⟩
theorem lc_X0_victory : aa_LC mX0_victory 5 := ⟨⟨aa_t5 147 rfl, rfl⟩, ⟨aa_t1 12 rfl, rfl⟩, by decide +kernel, by decide⟩
theorem lc_X0_winsByLaid : aa_LC mX0_winsByLaid 5 := ⟨⟨aa_t5 152 rfl, rfl⟩, ⟨aa_t1 12 rfl, rfl⟩, by decide +kernel, by decide⟩
theorem lc_X0_winsByThings : aa_LC mX0_winsByThings 5 := ⟨⟨aa_t5 156 rfl, rfl⟩, ⟨aa_t1 12 rfl, rfl⟩, by decide +kernel, by decide⟩
theorem lc_X1_init : aa_LC mX1_init 1 := ⟨⟨aa_t2 11 rfl, rfl⟩, ⟨aa_t1 10 rfl, rfl⟩, by decide +kernel, by decide⟩
theorem lc_X1_lay : aa_LC mX1_lay 1 := ⟨⟨aa_t4 234 rfl, rfl⟩, ⟨aa_t1 10 rfl, rfl⟩, by decide +kernel, by decide⟩
theorem lc_X1_renumbered : aa_LC mX1_renumbered 1 := ⟨⟨aa_t5 2 rfl, rfl⟩, ⟨aa_t1 10 rfl, rfl⟩, by decide +kernel, by decide⟩
theorem lc_X1_worthOf : aa_LC mX1_worthOf 1 := ⟨⟨aa_t5 23 rfl, rfl⟩, ⟨aa_t1 10 rfl, rfl⟩, by decide +kernel, by decide⟩
theorem lc_X1_many : aa_LC mX1_many 0 := ⟨⟨aa_t5 160 rfl, rfl⟩, ⟨aa_t1 10 rfl, rfl⟩, by decide +kernel, by decide⟩
theorem lc_X1_all : aa_LC mX1_all 0 := ⟨⟨aa_t5 7 rfl, rfl⟩, ⟨aa_t1 10 rfl, rfl⟩, by decide +kernel, by decide⟩
theorem lc_X1_thingAt : aa_LC mX1_thingAt 1 := ⟨⟨aa_t5 194 rfl, rfl⟩, ⟨aa_t1 10 rfl, rfl⟩, by decide +kernel, by decide⟩
theorem lc_X1_takes : aa_LC mX1_takes 2 := ⟨⟨aa_t5 15 rfl, rfl⟩, ⟨aa_t1 10 rfl, rfl⟩, by decide +kernel, by decide⟩
theorem lc_X1_behind : aa_LC mX1_behind 2 := ⟨⟨aa_t5 19 rfl, rfl⟩, ⟨aa_t1 10 rfl, rfl⟩, by decide +kernel, by decide⟩
theorem lc_X1_cell : aa_LC mX1_cell 2 := ⟨⟨aa_t5 32 rfl, rfl⟩, ⟨aa_t1 10 rfl, rfl⟩, by decide +kernel, by decide⟩
theorem lc_X1_set : aa_LC mX1_set 3 := ⟨⟨aa_t5 37 rfl, rfl⟩, ⟨aa_t1 10 rfl, rfl⟩, by decide +kernel, by decide⟩
theorem lc_X1_meanMore : aa_LC mX1_meanMore 2 := ⟨⟨aa_t4 230 rfl, rfl⟩, ⟨aa_t1 10 rfl, rfl⟩, by decide +kernel, by decide⟩
theorem lc_X1_meanOf : aa_LC mX1_meanOf 2 := ⟨⟨aa_t5 11 rfl, rfl⟩, ⟨aa_t1 10 rfl, rfl⟩, by decide +kernel, by decide⟩
theorem lc_X1_hire : aa_LC mX1_hire 3 := ⟨⟨aa_t5 114 rfl, rfl⟩, ⟨aa_t1 10 rfl, rfl⟩, by decide +kernel, by decide⟩
theorem lc_X1_chance : aa_LC mX1_chance 2 := ⟨⟨aa_t5 118 rfl, rfl⟩, ⟨aa_t1 10 rfl, rfl⟩, by decide +kernel, by decide⟩
theorem lc_X1_chanceOf : aa_LC mX1_chanceOf 2 := ⟨⟨aa_t5 122 rfl, rfl⟩, ⟨aa_t1 10 rfl, rfl⟩, by decide +kernel, by decide⟩
theorem lc_X2_init : aa_LC mX2_init 1 := ⟨⟨aa_t1 133 rfl, rfl⟩, ⟨aa_t1 4 rfl, rfl⟩, by decide +kernel, by decide⟩
theorem lc_X2_start : aa_LC mX2_start 0 := ⟨⟨aa_t3 9 rfl, rfl⟩, ⟨aa_t1 4 rfl, rfl⟩, by decide +kernel, by decide⟩
theorem lc_X2_state : aa_LC mX2_state 0 := ⟨⟨aa_t3 63 rfl, rfl⟩, ⟨aa_t1 4 rfl, rfl⟩, by decide +kernel, by decide⟩
theorem lc_X2_there : aa_LC mX2_there 0 := ⟨⟨aa_t4 92 rfl, rfl⟩, ⟨aa_t1 4 rfl, rfl⟩, by decide +kernel, by decide⟩
theorem lc_X2_made : aa_LC mX2_made 0 := ⟨⟨aa_t3 121 rfl, rfl⟩, ⟨aa_t1 4 rfl, rfl⟩, by decide +kernel, by decide⟩
theorem lc_X2_turn : aa_LC mX2_turn 0 := ⟨⟨aa_t3 88 rfl, rfl⟩, ⟨aa_t1 4 rfl, rfl⟩, by decide +kernel, by decide⟩
theorem lc_X2_ending : aa_LC mX2_ending 0 := ⟨⟨aa_t3 21 rfl, rfl⟩, ⟨aa_t1 4 rfl, rfl⟩, by decide +kernel, by decide⟩
theorem lc_X2_endBy : aa_LC mX2_endBy 1 := ⟨⟨aa_t3 25 rfl, rfl⟩, ⟨aa_t1 4 rfl, rfl⟩, by decide +kernel, by decide⟩
theorem lc_X2_go : aa_LC mX2_go 1 := ⟨⟨aa_t3 101 rfl, rfl⟩, ⟨aa_t1 4 rfl, rfl⟩, by decide +kernel, by decide⟩
theorem lc_X2_goBack : aa_LC mX2_goBack 0 := ⟨⟨aa_t3 113 rfl, rfl⟩, ⟨aa_t1 4 rfl, rfl⟩, by decide +kernel, by decide⟩
theorem lc_X2_takenBy : aa_LC mX2_takenBy 1 := ⟨⟨aa_t3 139 rfl, rfl⟩, ⟨aa_t1 4 rfl, rfl⟩, by decide +kernel, by decide⟩
theorem lc_X2_copy : aa_LC mX2_copy 1 := ⟨⟨aa_t5 232 rfl, rfl⟩, ⟨aa_t1 4 rfl, rfl⟩, by decide +kernel, by decide⟩
theorem lc_X3_init : aa_LC mX3_init 1 := ⟨⟨aa_t1 195 rfl, rfl⟩, ⟨aa_t1 7 rfl, rfl⟩, by decide +kernel, by decide⟩
theorem lc_X3_valueOf : aa_LC mX3_valueOf 1 := ⟨⟨aa_t4 51 rfl, rfl⟩, ⟨aa_t1 7 rfl, rfl⟩, by decide +kernel, by decide⟩
theorem lc_X3_valueFrom : aa_LC mX3_valueFrom 2 := ⟨⟨aa_t4 68 rfl, rfl⟩, ⟨aa_t1 7 rfl, rfl⟩, by decide +kernel, by decide⟩
theorem lc_X3_valuesBehind : aa_LC mX3_valuesBehind 1 := ⟨⟨aa_t4 44 rfl, rfl⟩, ⟨aa_t1 7 rfl, rfl⟩, by decide +kernel, by decide⟩
theorem lc_X3_firstTo : aa_LC mX3_firstTo 2 := ⟨⟨aa_t4 106 rfl, rfl⟩, ⟨aa_t1 7 rfl, rfl⟩, by decide +kernel, by decide⟩
theorem lc_X3_byJoining : aa_LC mX3_byJoining 1 := ⟨⟨aa_t4 115 rfl, rfl⟩, ⟨aa_t1 7 rfl, rfl⟩, by decide +kernel, by decide⟩
theorem lc_X3_compare : aa_LC mX3_compare 2 := ⟨⟨aa_t4 128 rfl, rfl⟩, ⟨aa_t1 7 rfl, rfl⟩, by decide +kernel, by decide⟩
theorem lc_X3_list : aa_LC mX3_list 2 := ⟨⟨aa_t4 131 rfl, rfl⟩, ⟨aa_t1 7 rfl, rfl⟩, by decide +kernel, by decide⟩
theorem lc_X3_pairs : aa_LC mX3_pairs 3 := ⟨⟨aa_t4 135 rfl, rfl⟩, ⟨aa_t1 7 rfl, rfl⟩, by decide +kernel, by decide⟩
theorem lc_X3_fits : aa_LC mX3_fits 2 := ⟨⟨aa_t4 139 rfl, rfl⟩, ⟨aa_t1 7 rfl, rfl⟩, by decide +kernel, by decide⟩
theorem lc_X4_init : aa_LC mX4_init 0 := ⟨⟨aa_t1 162 rfl, rfl⟩, ⟨aa_t1 6 rfl, rfl⟩, by decide +kernel, by decide⟩
theorem lc_X4_fit : aa_LC mX4_fit 1 := ⟨⟨aa_t3 159 rfl, rfl⟩, ⟨aa_t1 6 rfl, rfl⟩, by decide +kernel, by decide⟩
theorem lc_X4_at : aa_LC mX4_at 1 := ⟨⟨aa_t3 176 rfl, rfl⟩, ⟨aa_t1 6 rfl, rfl⟩, by decide +kernel, by decide⟩
theorem lc_X4_set : aa_LC mX4_set 2 := ⟨⟨aa_t3 180 rfl, rfl⟩, ⟨aa_t1 6 rfl, rfl⟩, by decide +kernel, by decide⟩
theorem lc_X5_init : aa_LC mX5_init 1 := ⟨⟨aa_t2 45 rfl, rfl⟩, ⟨aa_t1 11 rfl, rfl⟩, by decide +kernel, by decide⟩
theorem lc_X5_next : aa_LC mX5_next 1 := ⟨⟨aa_t5 62 rfl, rfl⟩, ⟨aa_t1 11 rfl, rfl⟩, by decide +kernel, by decide⟩
theorem lc_X5_like : aa_LC mX5_like 2 := ⟨⟨aa_t5 59 rfl, rfl⟩, ⟨aa_t1 11 rfl, rfl⟩, by decide +kernel, by decide⟩
theorem lc_X5_liked : aa_LC mX5_liked 2 := ⟨⟨aa_t5 87 rfl, rfl⟩, ⟨aa_t1 11 rfl, rfl⟩, by decide +kernel, by decide⟩
theorem lc_X5_keeper : aa_LC mX5_keeper 2 := ⟨⟨aa_t5 74 rfl, rfl⟩, ⟨aa_t1 11 rfl, rfl⟩, by decide +kernel, by decide⟩
theorem lc_X5_keeperFrom : aa_LC mX5_keeperFrom 3 := ⟨⟨aa_t5 80 rfl, rfl⟩, ⟨aa_t1 11 rfl, rfl⟩, by decide +kernel, by decide⟩
theorem lc_X5_firstStep : aa_LC mX5_firstStep 2 := ⟨⟨aa_t5 70 rfl, rfl⟩, ⟨aa_t1 11 rfl, rfl⟩, by decide +kernel, by decide⟩
theorem lc_X5_keeperWithout : aa_LC mX5_keeperWithout 2 := ⟨⟨aa_t5 101 rfl, rfl⟩, ⟨aa_t1 11 rfl, rfl⟩, by decide +kernel, by decide⟩
theorem lc_X5_escapes : aa_LC mX5_escapes 4 := ⟨⟨aa_t5 105 rfl, rfl⟩, ⟨aa_t1 11 rfl, rfl⟩, by decide +kernel, by decide⟩
theorem lc_X6_init : aa_LC mX6_init 0 := ⟨⟨aa_t1 78 rfl, rfl⟩, ⟨aa_t1 3 rfl, rfl⟩, by decide +kernel, by decide⟩
theorem lc_X6_lowest : aa_LC mX6_lowest 1 := ⟨⟨aa_t4 26 rfl, rfl⟩, ⟨aa_t1 3 rfl, rfl⟩, by decide +kernel, by decide⟩
theorem lc_X6_add : aa_LC mX6_add 4 := ⟨⟨aa_t2 225 rfl, rfl⟩, ⟨aa_t1 3 rfl, rfl⟩, by decide +kernel, by decide⟩
theorem lc_X6_settle : aa_LC mX6_settle 0 := ⟨⟨aa_t2 229 rfl, rfl⟩, ⟨aa_t1 3 rfl, rfl⟩, by decide +kernel, by decide⟩
theorem lc_X6_splitHeaps : aa_LC mX6_splitHeaps 0 := ⟨⟨aa_t2 233 rfl, rfl⟩, ⟨aa_t1 3 rfl, rfl⟩, by decide +kernel, by decide⟩
theorem lc_X6_addUp : aa_LC mX6_addUp 0 := ⟨⟨aa_t3 5 rfl, rfl⟩, ⟨aa_t1 3 rfl, rfl⟩, by decide +kernel, by decide⟩
theorem lc_X6_worthOf : aa_LC mX6_worthOf 1 := ⟨⟨aa_t3 55 rfl, rfl⟩, ⟨aa_t1 3 rfl, rfl⟩, by decide +kernel, by decide⟩
theorem lc_X6_version : aa_LC mX6_version 0 := ⟨⟨aa_t3 163 rfl, rfl⟩, ⟨aa_t1 3 rfl, rfl⟩, by decide +kernel, by decide⟩
theorem lc_X6_things : aa_LC mX6_things 0 := ⟨⟨aa_t2 171 rfl, rfl⟩, ⟨aa_t1 3 rfl, rfl⟩, by decide +kernel, by decide⟩
theorem lc_X6_backs : aa_LC mX6_backs 0 := ⟨⟨aa_t2 175 rfl, rfl⟩, ⟨aa_t1 3 rfl, rfl⟩, by decide +kernel, by decide⟩
theorem lc_X6_has : aa_LC mX6_has 1 := ⟨⟨aa_t3 45 rfl, rfl⟩, ⟨aa_t1 3 rfl, rfl⟩, by decide +kernel, by decide⟩
theorem lc_X6_worthAt : aa_LC mX6_worthAt 1 := ⟨⟨aa_t5 27 rfl, rfl⟩, ⟨aa_t1 3 rfl, rfl⟩, by decide +kernel, by decide⟩
theorem lc_X6_setWorth : aa_LC mX6_setWorth 2 := ⟨⟨aa_t3 41 rfl, rfl⟩, ⟨aa_t1 3 rfl, rfl⟩, by decide +kernel, by decide⟩
theorem lc_X6_heirsOf : aa_LC mX6_heirsOf 1 := ⟨⟨aa_t6 86 rfl, rfl⟩, ⟨aa_t1 3 rfl, rfl⟩, by decide +kernel, by decide⟩
theorem lc_X6_under : aa_LC mX6_under 1 := ⟨⟨aa_t4 119 rfl, rfl⟩, ⟨aa_t1 3 rfl, rfl⟩, by decide +kernel, by decide⟩
theorem lc_X6_above : aa_LC mX6_above 1 := ⟨⟨aa_t4 238 rfl, rfl⟩, ⟨aa_t1 3 rfl, rfl⟩, by decide +kernel, by decide⟩
theorem lc_X6_isBack : aa_LC mX6_isBack 1 := ⟨⟨aa_t6 92 rfl, rfl⟩, ⟨aa_t1 3 rfl, rfl⟩, by decide +kernel, by decide⟩
theorem lc_X6_full : aa_LC mX6_full 0 := ⟨⟨aa_t2 237 rfl, rfl⟩, ⟨aa_t1 3 rfl, rfl⟩, by decide +kernel, by decide⟩
theorem lc_X6_first : aa_LC mX6_first 0 := ⟨⟨aa_t3 13 rfl, rfl⟩, ⟨aa_t1 3 rfl, rfl⟩, by decide +kernel, by decide⟩
theorem lc_X6_allPutBack : aa_LC mX6_allPutBack 0 := ⟨⟨aa_t4 64 rfl, rfl⟩, ⟨aa_t1 3 rfl, rfl⟩, by decide +kernel, by decide⟩
theorem lc_X6_justThese : aa_LC mX6_justThese 1 := ⟨⟨aa_t4 80 rfl, rfl⟩, ⟨aa_t1 3 rfl, rfl⟩, by decide +kernel, by decide⟩
theorem lc_X6_heapsInAll : aa_LC mX6_heapsInAll 0 := ⟨⟨aa_t4 56 rfl, rfl⟩, ⟨aa_t1 3 rfl, rfl⟩, by decide +kernel, by decide⟩
theorem lc_X6_inHeap : aa_LC mX6_inHeap 2 := ⟨⟨aa_t4 60 rfl, rfl⟩, ⟨aa_t1 3 rfl, rfl⟩, by decide +kernel, by decide⟩
theorem lc_X6_size : aa_LC mX6_size 0 := ⟨⟨aa_t3 167 rfl, rfl⟩, ⟨aa_t1 3 rfl, rfl⟩, by decide +kernel, by decide⟩
theorem lc_X6_putBack : aa_LC mX6_putBack 1 := ⟨⟨aa_t6 4 rfl, rfl⟩, ⟨aa_t1 3 rfl, rfl⟩, by decide +kernel, by decide⟩
theorem lc_X6_takes : aa_LC mX6_takes 2 := ⟨⟨aa_t3 71 rfl, rfl⟩, ⟨aa_t1 3 rfl, rfl⟩, by decide +kernel, by decide⟩
theorem lc_X6_moves : aa_LC mX6_moves 2 := ⟨⟨aa_t3 67 rfl, rfl⟩, ⟨aa_t1 3 rfl, rfl⟩, by decide +kernel, by decide⟩
theorem lc_X6_steps : aa_LC mX6_steps 0 := ⟨⟨aa_t3 96 rfl, rfl⟩, ⟨aa_t1 3 rfl, rfl⟩, by decide +kernel, by decide⟩
theorem lc_X6_can : aa_LC mX6_can 3 := ⟨⟨aa_t3 92 rfl, rfl⟩, ⟨aa_t1 3 rfl, rfl⟩, by decide +kernel, by decide⟩
theorem lc_X6_behind : aa_LC mX6_behind 2 := ⟨⟨aa_t3 105 rfl, rfl⟩, ⟨aa_t1 3 rfl, rfl⟩, by decide +kernel, by decide⟩
theorem lc_X6_step : aa_LC mX6_step 1 := ⟨⟨aa_t3 84 rfl, rfl⟩, ⟨aa_t1 3 rfl, rfl⟩, by decide +kernel, by decide⟩
theorem lc_X6_moveOf : aa_LC mX6_moveOf 1 := ⟨⟨aa_t3 218 rfl, rfl⟩, ⟨aa_t1 3 rfl, rfl⟩, by decide +kernel, by decide⟩
theorem lc_X6_named : aa_LC mX6_named 1 := ⟨⟨aa_t3 75 rfl, rfl⟩, ⟨aa_t1 3 rfl, rfl⟩, by decide +kernel, by decide⟩
theorem lc_X6_lowestOf : aa_LC mX6_lowestOf 1 := ⟨⟨aa_t4 36 rfl, rfl⟩, ⟨aa_t1 3 rfl, rfl⟩, by decide +kernel, by decide⟩
theorem lc_X6_withAbove : aa_LC mX6_withAbove 2 := ⟨⟨aa_t4 218 rfl, rfl⟩, ⟨aa_t1 3 rfl, rfl⟩, by decide +kernel, by decide⟩
theorem lc_X6_heapOf : aa_LC mX6_heapOf 2 := ⟨⟨aa_t3 1 rfl, rfl⟩, ⟨aa_t1 3 rfl, rfl⟩, by decide +kernel, by decide⟩
theorem lc_X7_init : aa_LC mX7_init 0 := ⟨⟨aa_t1 33 rfl, rfl⟩, ⟨aa_t1 2 rfl, rfl⟩, by decide +kernel, by decide⟩
theorem lc_X7_length : aa_LC mX7_length 0 := ⟨⟨aa_t6 8 rfl, rfl⟩, ⟨aa_t1 2 rfl, rfl⟩, by decide +kernel, by decide⟩
theorem lc_X7_append : aa_LC mX7_append 1 := ⟨⟨aa_t2 151 rfl, rfl⟩, ⟨aa_t1 2 rfl, rfl⟩, by decide +kernel, by decide⟩
theorem lc_X7_cut : aa_LC mX7_cut 1 := ⟨⟨aa_t2 159 rfl, rfl⟩, ⟨aa_t1 2 rfl, rfl⟩, by decide +kernel, by decide⟩
theorem lc_X7_read : aa_LC mX7_read 1 := ⟨⟨aa_t2 167 rfl, rfl⟩, ⟨aa_t1 2 rfl, rfl⟩, by decide +kernel, by decide⟩
theorem lc_X7_layOn : aa_LC mX7_layOn 1 := ⟨⟨aa_t2 221 rfl, rfl⟩, ⟨aa_t1 2 rfl, rfl⟩, by decide +kernel, by decide⟩
theorem lc_X7_isDigit : aa_LC mX7_isDigit 1 := ⟨⟨aa_t2 181 rfl, rfl⟩, ⟨aa_t1 2 rfl, rfl⟩, by decide +kernel, by decide⟩
theorem lc_X7_mayEnd : aa_LC mX7_mayEnd 0 := ⟨⟨aa_t2 217 rfl, rfl⟩, ⟨aa_t1 2 rfl, rfl⟩, by decide +kernel, by decide⟩
theorem lc_X7_takes : aa_LC mX7_takes 2 := ⟨⟨aa_t2 185 rfl, rfl⟩, ⟨aa_t1 2 rfl, rfl⟩, by decide +kernel, by decide⟩
theorem lc_X7_takesWorth : aa_LC mX7_takesWorth 1 := ⟨⟨aa_t2 189 rfl, rfl⟩, ⟨aa_t1 2 rfl, rfl⟩, by decide +kernel, by decide⟩
theorem lc_X7_takesHeirs : aa_LC mX7_takesHeirs 1 := ⟨⟨aa_t2 193 rfl, rfl⟩, ⟨aa_t1 2 rfl, rfl⟩, by decide +kernel, by decide⟩
theorem lc_X7_takesOn : aa_LC mX7_takesOn 2 := ⟨⟨aa_t2 197 rfl, rfl⟩, ⟨aa_t1 2 rfl, rfl⟩, by decide +kernel, by decide⟩
theorem lc_X7_takesFirstDigit : aa_LC mX7_takesFirstDigit 2 := ⟨⟨aa_t2 209 rfl, rfl⟩, ⟨aa_t1 2 rfl, rfl⟩, by decide +kernel, by decide⟩
theorem lc_X7_takesNumber : aa_LC mX7_takesNumber 0 := ⟨⟨aa_t2 213 rfl, rfl⟩, ⟨aa_t1 2 rfl, rfl⟩, by decide +kernel, by decide⟩
theorem lc_X7_takesTail : aa_LC mX7_takesTail 1 := ⟨⟨aa_t2 201 rfl, rfl⟩, ⟨aa_t1 2 rfl, rfl⟩, by decide +kernel, by decide⟩
theorem lc_X7_takesLineEnd : aa_LC mX7_takesLineEnd 1 := ⟨⟨aa_t2 205 rfl, rfl⟩, ⟨aa_t1 2 rfl, rfl⟩, by decide +kernel, by decide⟩
theorem lc_X8_init : aa_LC mX8_init 0 := ⟨⟨aa_t1 222 rfl, rfl⟩, ⟨aa_t1 8 rfl, rfl⟩, by decide +kernel, by decide⟩
theorem lc_X8_packed : aa_LC mX8_packed 4 := ⟨⟨aa_t4 146 rfl, rfl⟩, ⟨aa_t1 8 rfl, rfl⟩, by decide +kernel, by decide⟩
theorem lc_X8_victory : aa_LC mX8_victory 1 := ⟨⟨aa_t4 154 rfl, rfl⟩, ⟨aa_t1 8 rfl, rfl⟩, by decide +kernel, by decide⟩
theorem lc_X8_winningStone : aa_LC mX8_winningStone 1 := ⟨⟨aa_t4 150 rfl, rfl⟩, ⟨aa_t1 8 rfl, rfl⟩, by decide +kernel, by decide⟩
theorem lc_X8_victoryFrom : aa_LC mX8_victoryFrom 2 := ⟨⟨aa_t4 165 rfl, rfl⟩, ⟨aa_t1 8 rfl, rfl⟩, by decide +kernel, by decide⟩
theorem lc_X8_stoneFrom : aa_LC mX8_stoneFrom 2 := ⟨⟨aa_t4 158 rfl, rfl⟩, ⟨aa_t1 8 rfl, rfl⟩, by decide +kernel, by decide⟩
theorem lc_X8_without : aa_LC mX8_without 3 := ⟨⟨aa_t4 161 rfl, rfl⟩, ⟨aa_t1 8 rfl, rfl⟩, by decide +kernel, by decide⟩
theorem lc_X9_init : aa_LC mX9_init 1 := ⟨⟨aa_t1 156 rfl, rfl⟩, ⟨aa_t1 5 rfl, rfl⟩, by decide +kernel, by decide⟩
theorem lc_X9_victory : aa_LC mX9_victory 3 := ⟨⟨aa_t3 155 rfl, rfl⟩, ⟨aa_t1 5 rfl, rfl⟩, by decide +kernel, by decide⟩
theorem lc_X9_victoryFrom : aa_LC mX9_victoryFrom 4 := ⟨⟨aa_t3 172 rfl, rfl⟩, ⟨aa_t1 5 rfl, rfl⟩, by decide +kernel, by decide⟩
theorem lc_X9_winningSteps : aa_LC mX9_winningSteps 3 := ⟨⟨aa_t3 148 rfl, rfl⟩, ⟨aa_t1 5 rfl, rfl⟩, by decide +kernel, by decide⟩
theorem lc_X9_soonest : aa_LC mX9_soonest 3 := ⟨⟨aa_t3 205 rfl, rfl⟩, ⟨aa_t1 5 rfl, rfl⟩, by decide +kernel, by decide⟩
theorem lc_X9_wonIn : aa_LC mX9_wonIn 2 := ⟨⟨aa_t3 212 rfl, rfl⟩, ⟨aa_t1 5 rfl, rfl⟩, by decide +kernel, by decide⟩
theorem lc_X9_soonestFrom : aa_LC mX9_soonestFrom 4 := ⟨⟨aa_t3 209 rfl, rfl⟩, ⟨aa_t1 5 rfl, rfl⟩, by decide +kernel, by decide⟩
theorem lc_X9_firstSoonest : aa_LC mX9_firstSoonest 3 := ⟨⟨aa_t3 201 rfl, rfl⟩, ⟨aa_t1 5 rfl, rfl⟩, by decide +kernel, by decide⟩
theorem lc_X9_reach : aa_LC mX9_reach 3 := ⟨⟨aa_t3 231 rfl, rfl⟩, ⟨aa_t1 5 rfl, rfl⟩, by decide +kernel, by decide⟩
theorem lc_X9_lostReached : aa_LC mX9_lostReached 0 := ⟨⟨aa_t3 239 rfl, rfl⟩, ⟨aa_t1 5 rfl, rfl⟩, by decide +kernel, by decide⟩
theorem lc_X9_visit : aa_LC mX9_visit 4 := ⟨⟨aa_t3 235 rfl, rfl⟩, ⟨aa_t1 5 rfl, rfl⟩, by decide +kernel, by decide⟩
theorem lc_X9_games : aa_LC mX9_games 3 := ⟨⟨aa_t4 7 rfl, rfl⟩, ⟨aa_t1 5 rfl, rfl⟩, by decide +kernel, by decide⟩
theorem lc_X9_gamesFrom : aa_LC mX9_gamesFrom 3 := ⟨⟨aa_t4 12 rfl, rfl⟩, ⟨aa_t1 5 rfl, rfl⟩, by decide +kernel, by decide⟩
theorem lc_X10_init : aa_LC mX10_init 1 := ⟨⟨aa_t1 233 rfl, rfl⟩, ⟨aa_t1 9 rfl, rfl⟩, by decide +kernel, by decide⟩
theorem lc_X10_forget : aa_LC mX10_forget 0 := ⟨⟨aa_t3 50 rfl, rfl⟩, ⟨aa_t1 9 rfl, rfl⟩, by decide +kernel, by decide⟩
theorem lc_X10_more : aa_LC mX10_more 2 := ⟨⟨aa_t4 179 rfl, rfl⟩, ⟨aa_t1 9 rfl, rfl⟩, by decide +kernel, by decide⟩
theorem lc_X10_cell : aa_LC mX10_cell 1 := ⟨⟨aa_t4 194 rfl, rfl⟩, ⟨aa_t1 9 rfl, rfl⟩, by decide +kernel, by decide⟩
theorem lc_X10_moreFrom : aa_LC mX10_moreFrom 3 := ⟨⟨aa_t4 184 rfl, rfl⟩, ⟨aa_t1 9 rfl, rfl⟩, by decide +kernel, by decide⟩
theorem lc_X10_firstBest : aa_LC mX10_firstBest 2 := ⟨⟨aa_t4 175 rfl, rfl⟩, ⟨aa_t1 9 rfl, rfl⟩, by decide +kernel, by decide⟩
theorem lc_X10_greediest : aa_LC mX10_greediest 2 := ⟨⟨aa_t4 208 rfl, rfl⟩, ⟨aa_t1 9 rfl, rfl⟩, by decide +kernel, by decide⟩
theorem lc_X11_init : aa_LC mX11_init 0 := ⟨⟨aa_t1 25 rfl, rfl⟩, ⟨aa_t1 1 rfl, rfl⟩, by decide +kernel, by decide⟩
theorem lc_X11_sign : aa_LC mX11_sign 1 := ⟨⟨aa_t2 147 rfl, rfl⟩, ⟨aa_t1 1 rfl, rfl⟩, by decide +kernel, by decide⟩
theorem lc_X11_end : aa_LC mX11_end 1 := ⟨⟨aa_t2 155 rfl, rfl⟩, ⟨aa_t1 1 rfl, rfl⟩, by decide +kernel, by decide⟩
theorem lc_X11_piles : aa_LC mX11_piles 0 := ⟨⟨aa_t2 163 rfl, rfl⟩, ⟨aa_t1 1 rfl, rfl⟩, by decide +kernel, by decide⟩
theorem lc_X11_thing : aa_LC mX11_thing 2 := ⟨⟨aa_t6 16 rfl, rfl⟩, ⟨aa_t1 1 rfl, rfl⟩, by decide +kernel, by decide⟩
theorem lc_X11_ends : aa_LC mX11_ends 1 := ⟨⟨aa_t3 17 rfl, rfl⟩, ⟨aa_t1 1 rfl, rfl⟩, by decide +kernel, by decide⟩
theorem lc_X11_sheet : aa_LC mX11_sheet 4 := ⟨⟨aa_t3 29 rfl, rfl⟩, ⟨aa_t1 1 rfl, rfl⟩, by decide +kernel, by decide⟩
theorem lc_X11_entry : aa_LC mX11_entry 2 := ⟨⟨aa_t3 33 rfl, rfl⟩, ⟨aa_t1 1 rfl, rfl⟩, by decide +kernel, by decide⟩
theorem lc_X11_may : aa_LC mX11_may 1 := ⟨⟨aa_t3 59 rfl, rfl⟩, ⟨aa_t1 1 rfl, rfl⟩, by decide +kernel, by decide⟩
theorem lc_X11_move : aa_LC mX11_move 1 := ⟨⟨aa_t3 79 rfl, rfl⟩, ⟨aa_t1 1 rfl, rfl⟩, by decide +kernel, by decide⟩
theorem lc_X11_undo : aa_LC mX11_undo 0 := ⟨⟨aa_t3 109 rfl, rfl⟩, ⟨aa_t1 1 rfl, rfl⟩, by decide +kernel, by decide⟩
theorem lc_X11_begin : aa_LC mX11_begin 0 := ⟨⟨aa_t3 117 rfl, rfl⟩, ⟨aa_t1 1 rfl, rfl⟩, by decide +kernel, by decide⟩
theorem lc_X11_judge : aa_LC mX11_judge 4 := ⟨⟨aa_t3 125 rfl, rfl⟩, ⟨aa_t1 1 rfl, rfl⟩, by decide +kernel, by decide⟩
theorem lc_X11_taken : aa_LC mX11_taken 0 := ⟨⟨aa_t3 135 rfl, rfl⟩, ⟨aa_t1 1 rfl, rfl⟩, by decide +kernel, by decide⟩
theorem lc_X11_wins : aa_LC mX11_wins 0 := ⟨⟨aa_t3 144 rfl, rfl⟩, ⟨aa_t1 1 rfl, rfl⟩, by decide +kernel, by decide⟩
theorem lc_X11_would : aa_LC mX11_would 2 := ⟨⟨aa_t3 193 rfl, rfl⟩, ⟨aa_t1 1 rfl, rfl⟩, by decide +kernel, by decide⟩
theorem lc_X11_winner : aa_LC mX11_winner 2 := ⟨⟨aa_t3 188 rfl, rfl⟩, ⟨aa_t1 1 rfl, rfl⟩, by decide +kernel, by decide⟩
theorem lc_X11_soon : aa_LC mX11_soon 0 := ⟨⟨aa_t3 197 rfl, rfl⟩, ⟨aa_t1 1 rfl, rfl⟩, by decide +kernel, by decide⟩
theorem lc_X11_leave : aa_LC mX11_leave 0 := ⟨⟨aa_t3 223 rfl, rfl⟩, ⟨aa_t1 1 rfl, rfl⟩, by decide +kernel, by decide⟩
theorem lc_X11_states : aa_LC mX11_states 0 := ⟨⟨aa_t3 227 rfl, rfl⟩, ⟨aa_t1 1 rfl, rfl⟩, by decide +kernel, by decide⟩
theorem lc_X11_lines : aa_LC mX11_lines 1 := ⟨⟨aa_t4 3 rfl, rfl⟩, ⟨aa_t1 1 rfl, rfl⟩, by decide +kernel, by decide⟩
theorem lc_X11_forced : aa_LC mX11_forced 0 := ⟨⟨aa_t4 22 rfl, rfl⟩, ⟨aa_t1 1 rfl, rfl⟩, by decide +kernel, by decide⟩
theorem lc_X11_tempo : aa_LC mX11_tempo 1 := ⟨⟨aa_t4 31 rfl, rfl⟩, ⟨aa_t1 1 rfl, rfl⟩, by decide +kernel, by decide⟩
theorem lc_X11_value : aa_LC mX11_value 0 := ⟨⟨aa_t4 40 rfl, rfl⟩, ⟨aa_t1 1 rfl, rfl⟩, by decide +kernel, by decide⟩
theorem lc_X11_alone : aa_LC mX11_alone 1 := ⟨⟨aa_t4 76 rfl, rfl⟩, ⟨aa_t1 1 rfl, rfl⟩, by decide +kernel, by decide⟩
theorem lc_X11_heap : aa_LC mX11_heap 1 := ⟨⟨aa_t4 84 rfl, rfl⟩, ⟨aa_t1 1 rfl, rfl⟩, by decide +kernel, by decide⟩
theorem lc_X11_isThere : aa_LC mX11_isThere 1 := ⟨⟨aa_t4 88 rfl, rfl⟩, ⟨aa_t1 1 rfl, rfl⟩, by decide +kernel, by decide⟩
theorem lc_X11_heaps : aa_LC mX11_heaps 0 := ⟨⟨aa_t4 98 rfl, rfl⟩, ⟨aa_t1 1 rfl, rfl⟩, by decide +kernel, by decide⟩
theorem lc_X11_make : aa_LC mX11_make 1 := ⟨⟨aa_t4 102 rfl, rfl⟩, ⟨aa_t1 1 rfl, rfl⟩, by decide +kernel, by decide⟩
theorem lc_X11_joined : aa_LC mX11_joined 0 := ⟨⟨aa_t4 110 rfl, rfl⟩, ⟨aa_t1 1 rfl, rfl⟩, by decide +kernel, by decide⟩
theorem lc_X11_alike : aa_LC mX11_alike 2 := ⟨⟨aa_t4 124 rfl, rfl⟩, ⟨aa_t1 1 rfl, rfl⟩, by decide +kernel, by decide⟩
theorem lc_X11_wall : aa_LC mX11_wall 4 := ⟨⟨aa_t4 143 rfl, rfl⟩, ⟨aa_t1 1 rfl, rfl⟩, by decide +kernel, by decide⟩
theorem lc_X11_best : aa_LC mX11_best 0 := ⟨⟨aa_t4 171 rfl, rfl⟩, ⟨aa_t1 1 rfl, rfl⟩, by decide +kernel, by decide⟩
theorem lc_X11_gets : aa_LC mX11_gets 2 := ⟨⟨aa_t4 200 rfl, rfl⟩, ⟨aa_t1 1 rfl, rfl⟩, by decide +kernel, by decide⟩
theorem lc_X11_greedy : aa_LC mX11_greedy 0 := ⟨⟨aa_t4 204 rfl, rfl⟩, ⟨aa_t1 1 rfl, rfl⟩, by decide +kernel, by decide⟩
theorem lc_X11_limits : aa_LC mX11_limits 0 := ⟨⟨aa_t4 214 rfl, rfl⟩, ⟨aa_t1 1 rfl, rfl⟩, by decide +kernel, by decide⟩
theorem lc_X11_mean : aa_LC mX11_mean 0 := ⟨⟨aa_t4 222 rfl, rfl⟩, ⟨aa_t1 1 rfl, rfl⟩, by decide +kernel, by decide⟩
theorem lc_X11_isTooMuch : aa_LC mX11_isTooMuch 1 := ⟨⟨aa_t4 226 rfl, rfl⟩, ⟨aa_t1 1 rfl, rfl⟩, by decide +kernel, by decide⟩
theorem lc_X11_likes : aa_LC mX11_likes 2 := ⟨⟨aa_t5 55 rfl, rfl⟩, ⟨aa_t1 1 rfl, rfl⟩, by decide +kernel, by decide⟩
theorem lc_X11_parrot : aa_LC mX11_parrot 1 := ⟨⟨aa_t5 66 rfl, rfl⟩, ⟨aa_t1 1 rfl, rfl⟩, by decide +kernel, by decide⟩
theorem lc_X11_parrots : aa_LC mX11_parrots 0 := ⟨⟨aa_t5 93 rfl, rfl⟩, ⟨aa_t1 1 rfl, rfl⟩, by decide +kernel, by decide⟩
theorem lc_X11_out : aa_LC mX11_out 1 := ⟨⟨aa_t5 97 rfl, rfl⟩, ⟨aa_t1 1 rfl, rfl⟩, by decide +kernel, by decide⟩
theorem lc_X11_notary : aa_LC mX11_notary 2 := ⟨⟨aa_t5 110 rfl, rfl⟩, ⟨aa_t1 1 rfl, rfl⟩, by decide +kernel, by decide⟩
theorem lc_X11_change : aa_LC mX11_change 0 := ⟨⟨aa_t5 132 rfl, rfl⟩, ⟨aa_t1 1 rfl, rfl⟩, by decide +kernel, by decide⟩
theorem lc_X11_single : aa_LC mX11_single 0 := ⟨⟨aa_t5 214 rfl, rfl⟩, ⟨aa_t1 1 rfl, rfl⟩, by decide +kernel, by decide⟩
theorem lc_X11_keep : aa_LC mX11_keep 1 := ⟨⟨aa_t5 228 rfl, rfl⟩, ⟨aa_t1 1 rfl, rfl⟩, by decide +kernel, by decide⟩
theorem lc_X11_again : aa_LC mX11_again 1 := ⟨⟨aa_t5 236 rfl, rfl⟩, ⟨aa_t1 1 rfl, rfl⟩, by decide +kernel, by decide⟩
theorem lc_X11_count : aa_LC mX11_count 1 := ⟨⟨aa_t6 0 rfl, rfl⟩, ⟨aa_t1 1 rfl, rfl⟩, by decide +kernel, by decide⟩
theorem lc_X11_row : aa_LC mX11_row 1 := ⟨⟨aa_t6 99 rfl, rfl⟩, ⟨aa_t1 1 rfl, rfl⟩, by decide +kernel, by decide⟩
theorem lc_X11_tell : aa_LC mX11_tell 1 := ⟨⟨aa_t3 184 rfl, rfl⟩, ⟨aa_t1 1 rfl, rfl⟩, by decide +kernel, by decide⟩
theorem lc_X11_tell_ : aa_LC mX11_tell_ 2 := ⟨⟨aa_t3 129 rfl, rfl⟩, ⟨aa_t1 1 rfl, rfl⟩, by decide +kernel, by decide⟩
theorem lc_X11_tellFraction : aa_LC mX11_tellFraction 2 := ⟨⟨aa_t5 42 rfl, rfl⟩, ⟨aa_t1 1 rfl, rfl⟩, by decide +kernel, by decide⟩
theorem lc_X11_commonDivisor : aa_LC mX11_commonDivisor 2 := ⟨⟨aa_t5 48 rfl, rfl⟩, ⟨aa_t1 1 rfl, rfl⟩, by decide +kernel, by decide⟩
theorem lc_X12_thrown : aa_LC mX12_thrown 0 := ⟨⟨aa_t6 104 rfl, rfl⟩, ⟨aa_t1 13 rfl, rfl⟩, by decide +kernel, by decide⟩
theorem lc_X12_refuse : aa_LC mX12_refuse 0 := ⟨⟨aa_t6 170 rfl, rfl⟩, ⟨aa_t1 13 rfl, rfl⟩, by decide +kernel, by decide⟩
theorem lc_X12_in : aa_LC mX12_in 3 := ⟨⟨aa_t6 115 rfl, rfl⟩, ⟨aa_t1 13 rfl, rfl⟩, by decide +kernel, by decide⟩
theorem lc_X12_has : aa_LC mX12_has 2 := ⟨⟨aa_t6 153 rfl, rfl⟩, ⟨aa_t1 13 rfl, rfl⟩, by decide +kernel, by decide⟩
theorem lc_X12_flag : aa_LC mX12_flag 1 := ⟨⟨aa_t6 142 rfl, rfl⟩, ⟨aa_t1 13 rfl, rfl⟩, by decide +kernel, by decide⟩
theorem lc_X12_enters : aa_LC mX12_enters 1 := ⟨⟨aa_t6 235 rfl, rfl⟩, ⟨aa_t1 13 rfl, rfl⟩, by decide +kernel, by decide⟩
theorem lc_X12_common : aa_LC mX12_common 2 := ⟨⟨aa_t7 184 rfl, rfl⟩, ⟨aa_t1 13 rfl, rfl⟩, by decide +kernel, by decide⟩
theorem lc_X12_sign : aa_LC mX12_sign 1 := ⟨⟨aa_t6 108 rfl, rfl⟩, ⟨aa_t1 13 rfl, rfl⟩, by decide +kernel, by decide⟩
theorem lc_X12_end : aa_LC mX12_end 1 := ⟨⟨aa_t6 112 rfl, rfl⟩, ⟨aa_t1 13 rfl, rfl⟩, by decide +kernel, by decide⟩
theorem lc_X12_takes : aa_LC mX12_takes 1 := ⟨⟨aa_t6 139 rfl, rfl⟩, ⟨aa_t1 13 rfl, rfl⟩, by decide +kernel, by decide⟩
theorem lc_X12_isDigit : aa_LC mX12_isDigit 0 := ⟨⟨aa_t6 133 rfl, rfl⟩, ⟨aa_t1 13 rfl, rfl⟩, by decide +kernel, by decide⟩
theorem lc_X12_number : aa_LC mX12_number 3 := ⟨⟨aa_t6 129 rfl, rfl⟩, ⟨aa_t1 13 rfl, rfl⟩, by decide +kernel, by decide⟩
theorem lc_X12_readsOn : aa_LC mX12_readsOn 1 := ⟨⟨aa_t6 146 rfl, rfl⟩, ⟨aa_t1 13 rfl, rfl⟩, by decide +kernel, by decide⟩
theorem lc_X12_readsThing : aa_LC mX12_readsThing 1 := ⟨⟨aa_t6 125 rfl, rfl⟩, ⟨aa_t1 13 rfl, rfl⟩, by decide +kernel, by decide⟩
theorem lc_X12_piles : aa_LC mX12_piles 0 := ⟨⟨aa_t6 119 rfl, rfl⟩, ⟨aa_t1 13 rfl, rfl⟩, by decide +kernel, by decide⟩
theorem lc_X12_rises : aa_LC mX12_rises 1 := ⟨⟨aa_t6 150 rfl, rfl⟩, ⟨aa_t1 13 rfl, rfl⟩, by decide +kernel, by decide⟩
theorem lc_X12_begins : aa_LC mX12_begins 0 := ⟨⟨aa_t6 157 rfl, rfl⟩, ⟨aa_t1 13 rfl, rfl⟩, by decide +kernel, by decide⟩
theorem lc_X12_isThing : aa_LC mX12_isThing 1 := ⟨⟨aa_t6 165 rfl, rfl⟩, ⟨aa_t1 13 rfl, rfl⟩, by decide +kernel, by decide⟩
theorem lc_X12_isThere : aa_LC mX12_isThere 1 := ⟨⟨aa_t6 178 rfl, rfl⟩, ⟨aa_t1 13 rfl, rfl⟩, by decide +kernel, by decide⟩
theorem lc_X12_backOf : aa_LC mX12_backOf 1 := ⟨⟨aa_t6 174 rfl, rfl⟩, ⟨aa_t1 13 rfl, rfl⟩, by decide +kernel, by decide⟩
theorem lc_X12_thing : aa_LC mX12_thing 2 := ⟨⟨aa_t6 161 rfl, rfl⟩, ⟨aa_t1 13 rfl, rfl⟩, by decide +kernel, by decide⟩
theorem lc_X12_ends : aa_LC mX12_ends 1 := ⟨⟨aa_t6 182 rfl, rfl⟩, ⟨aa_t1 13 rfl, rfl⟩, by decide +kernel, by decide⟩
theorem lc_X12_sheet : aa_LC mX12_sheet 4 := ⟨⟨aa_t6 186 rfl, rfl⟩, ⟨aa_t1 13 rfl, rfl⟩, by decide +kernel, by decide⟩
theorem lc_X12_canPut : aa_LC mX12_canPut 2 := ⟨⟨aa_t6 206 rfl, rfl⟩, ⟨aa_t1 13 rfl, rfl⟩, by decide +kernel, by decide⟩
theorem lc_X12_can : aa_LC mX12_can 3 := ⟨⟨aa_t6 201 rfl, rfl⟩, ⟨aa_t1 13 rfl, rfl⟩, by decide +kernel, by decide⟩
theorem lc_X12_after : aa_LC mX12_after 2 := ⟨⟨aa_t6 214 rfl, rfl⟩, ⟨aa_t1 13 rfl, rfl⟩, by decide +kernel, by decide⟩
theorem lc_X12_worthOf : aa_LC mX12_worthOf 2 := ⟨⟨aa_t6 231 rfl, rfl⟩, ⟨aa_t1 13 rfl, rfl⟩, by decide +kernel, by decide⟩
theorem lc_X12_movesOf : aa_LC mX12_movesOf 2 := ⟨⟨aa_t6 197 rfl, rfl⟩, ⟨aa_t1 13 rfl, rfl⟩, by decide +kernel, by decide⟩
theorem lc_X12_may : aa_LC mX12_may 1 := ⟨⟨aa_t6 192 rfl, rfl⟩, ⟨aa_t1 13 rfl, rfl⟩, by decide +kernel, by decide⟩
theorem lc_X12_move : aa_LC mX12_move 1 := ⟨⟨aa_t6 210 rfl, rfl⟩, ⟨aa_t1 13 rfl, rfl⟩, by decide +kernel, by decide⟩
theorem lc_X12_undo : aa_LC mX12_undo 0 := ⟨⟨aa_t6 218 rfl, rfl⟩, ⟨aa_t1 13 rfl, rfl⟩, by decide +kernel, by decide⟩
theorem lc_X12_begin : aa_LC mX12_begin 0 := ⟨⟨aa_t6 222 rfl, rfl⟩, ⟨aa_t1 13 rfl, rfl⟩, by decide +kernel, by decide⟩
theorem lc_X12_judge : aa_LC mX12_judge 4 := ⟨⟨aa_t6 226 rfl, rfl⟩, ⟨aa_t1 13 rfl, rfl⟩, by decide +kernel, by decide⟩
theorem lc_X12_taken : aa_LC mX12_taken 0 := ⟨⟨aa_t6 239 rfl, rfl⟩, ⟨aa_t1 13 rfl, rfl⟩, by decide +kernel, by decide⟩
theorem lc_X12_asks : aa_LC mX12_asks 0 := ⟨⟨aa_t7 11 rfl, rfl⟩, ⟨aa_t1 13 rfl, rfl⟩, by decide +kernel, by decide⟩
theorem lc_X12_placeOf : aa_LC mX12_placeOf 2 := ⟨⟨aa_t7 19 rfl, rfl⟩, ⟨aa_t1 13 rfl, rfl⟩, by decide +kernel, by decide⟩
theorem lc_X12_isKnown : aa_LC mX12_isKnown 1 := ⟨⟨aa_t7 24 rfl, rfl⟩, ⟨aa_t1 13 rfl, rfl⟩, by decide +kernel, by decide⟩
theorem lc_X12_keeps : aa_LC mX12_keeps 2 := ⟨⟨aa_t7 28 rfl, rfl⟩, ⟨aa_t1 13 rfl, rfl⟩, by decide +kernel, by decide⟩
theorem lc_X12_win : aa_LC mX12_win 3 := ⟨⟨aa_t7 15 rfl, rfl⟩, ⟨aa_t1 13 rfl, rfl⟩, by decide +kernel, by decide⟩
theorem lc_X12_winner : aa_LC mX12_winner 3 := ⟨⟨aa_t7 7 rfl, rfl⟩, ⟨aa_t1 13 rfl, rfl⟩, by decide +kernel, by decide⟩
theorem lc_X12_wins : aa_LC mX12_wins 0 := ⟨⟨aa_t7 3 rfl, rfl⟩, ⟨aa_t1 13 rfl, rfl⟩, by decide +kernel, by decide⟩
theorem lc_X12_would : aa_LC mX12_would 2 := ⟨⟨aa_t7 32 rfl, rfl⟩, ⟨aa_t1 13 rfl, rfl⟩, by decide +kernel, by decide⟩
theorem lc_X12_lasts : aa_LC mX12_lasts 2 := ⟨⟨aa_t7 40 rfl, rfl⟩, ⟨aa_t1 13 rfl, rfl⟩, by decide +kernel, by decide⟩
theorem lc_X12_soon : aa_LC mX12_soon 0 := ⟨⟨aa_t7 36 rfl, rfl⟩, ⟨aa_t1 13 rfl, rfl⟩, by decide +kernel, by decide⟩
theorem lc_X12_leave : aa_LC mX12_leave 0 := ⟨⟨aa_t7 44 rfl, rfl⟩, ⟨aa_t1 13 rfl, rfl⟩, by decide +kernel, by decide⟩
theorem lc_X12_states : aa_LC mX12_states 0 := ⟨⟨aa_t7 48 rfl, rfl⟩, ⟨aa_t1 13 rfl, rfl⟩, by decide +kernel, by decide⟩
theorem lc_X12_lines : aa_LC mX12_lines 1 := ⟨⟨aa_t7 52 rfl, rfl⟩, ⟨aa_t1 13 rfl, rfl⟩, by decide +kernel, by decide⟩
theorem lc_X12_forced : aa_LC mX12_forced 0 := ⟨⟨aa_t7 57 rfl, rfl⟩, ⟨aa_t1 13 rfl, rfl⟩, by decide +kernel, by decide⟩
theorem lc_X12_moves : aa_LC mX12_moves 3 := ⟨⟨aa_t7 70 rfl, rfl⟩, ⟨aa_t1 13 rfl, rfl⟩, by decide +kernel, by decide⟩
theorem lc_X12_tempo : aa_LC mX12_tempo 1 := ⟨⟨aa_t7 66 rfl, rfl⟩, ⟨aa_t1 13 rfl, rfl⟩, by decide +kernel, by decide⟩
theorem lc_X12_leadsTo : aa_LC mX12_leadsTo 1 := ⟨⟨aa_t7 82 rfl, rfl⟩, ⟨aa_t1 13 rfl, rfl⟩, by decide +kernel, by decide⟩
theorem lc_X12_valueOf : aa_LC mX12_valueOf 1 := ⟨⟨aa_t7 78 rfl, rfl⟩, ⟨aa_t1 13 rfl, rfl⟩, by decide +kernel, by decide⟩
theorem lc_X12_value : aa_LC mX12_value 0 := ⟨⟨aa_t7 74 rfl, rfl⟩, ⟨aa_t1 13 rfl, rfl⟩, by decide +kernel, by decide⟩
theorem lc_X12_areThings : aa_LC mX12_areThings 1 := ⟨⟨aa_t7 90 rfl, rfl⟩, ⟨aa_t1 13 rfl, rfl⟩, by decide +kernel, by decide⟩
theorem lc_X12_aloneOf : aa_LC mX12_aloneOf 1 := ⟨⟨aa_t7 94 rfl, rfl⟩, ⟨aa_t1 13 rfl, rfl⟩, by decide +kernel, by decide⟩
theorem lc_X12_alone : aa_LC mX12_alone 1 := ⟨⟨aa_t7 86 rfl, rfl⟩, ⟨aa_t1 13 rfl, rfl⟩, by decide +kernel, by decide⟩
theorem lc_X12_heapOf : aa_LC mX12_heapOf 1 := ⟨⟨aa_t7 103 rfl, rfl⟩, ⟨aa_t1 13 rfl, rfl⟩, by decide +kernel, by decide⟩
theorem lc_X12_heap : aa_LC mX12_heap 1 := ⟨⟨aa_t7 99 rfl, rfl⟩, ⟨aa_t1 13 rfl, rfl⟩, by decide +kernel, by decide⟩
theorem lc_X12_heaps : aa_LC mX12_heaps 0 := ⟨⟨aa_t7 107 rfl, rfl⟩, ⟨aa_t1 13 rfl, rfl⟩, by decide +kernel, by decide⟩
theorem lc_X12_make : aa_LC mX12_make 1 := ⟨⟨aa_t7 111 rfl, rfl⟩, ⟨aa_t1 13 rfl, rfl⟩, by decide +kernel, by decide⟩
theorem lc_X12_joins : aa_LC mX12_joins 1 := ⟨⟨aa_t7 120 rfl, rfl⟩, ⟨aa_t1 13 rfl, rfl⟩, by decide +kernel, by decide⟩
theorem lc_X12_joined : aa_LC mX12_joined 0 := ⟨⟨aa_t7 116 rfl, rfl⟩, ⟨aa_t1 13 rfl, rfl⟩, by decide +kernel, by decide⟩
theorem lc_X12_pairs : aa_LC mX12_pairs 2 := ⟨⟨aa_t7 128 rfl, rfl⟩, ⟨aa_t1 13 rfl, rfl⟩, by decide +kernel, by decide⟩
theorem lc_X12_alike : aa_LC mX12_alike 2 := ⟨⟨aa_t7 124 rfl, rfl⟩, ⟨aa_t1 13 rfl, rfl⟩, by decide +kernel, by decide⟩
theorem lc_X12_rowOf : aa_LC mX12_rowOf 2 := ⟨⟨aa_t7 140 rfl, rfl⟩, ⟨aa_t1 13 rfl, rfl⟩, by decide +kernel, by decide⟩
theorem lc_X12_bites : aa_LC mX12_bites 3 := ⟨⟨aa_t7 143 rfl, rfl⟩, ⟨aa_t1 13 rfl, rfl⟩, by decide +kernel, by decide⟩
theorem lc_X12_winWall : aa_LC mX12_winWall 1 := ⟨⟨aa_t7 137 rfl, rfl⟩, ⟨aa_t1 13 rfl, rfl⟩, by decide +kernel, by decide⟩
theorem lc_X12_wall : aa_LC mX12_wall 4 := ⟨⟨aa_t7 132 rfl, rfl⟩, ⟨aa_t1 13 rfl, rfl⟩, by decide +kernel, by decide⟩
theorem lc_X12_more : aa_LC mX12_more 2 := ⟨⟨aa_t7 151 rfl, rfl⟩, ⟨aa_t1 13 rfl, rfl⟩, by decide +kernel, by decide⟩
theorem lc_X12_best : aa_LC mX12_best 0 := ⟨⟨aa_t7 147 rfl, rfl⟩, ⟨aa_t1 13 rfl, rfl⟩, by decide +kernel, by decide⟩
theorem lc_X12_gets : aa_LC mX12_gets 2 := ⟨⟨aa_t7 155 rfl, rfl⟩, ⟨aa_t1 13 rfl, rfl⟩, by decide +kernel, by decide⟩
theorem lc_X12_greedy : aa_LC mX12_greedy 0 := ⟨⟨aa_t7 159 rfl, rfl⟩, ⟨aa_t1 13 rfl, rfl⟩, by decide +kernel, by decide⟩
theorem lc_X12_reach : aa_LC mX12_reach 1 := ⟨⟨aa_t7 167 rfl, rfl⟩, ⟨aa_t1 13 rfl, rfl⟩, by decide +kernel, by decide⟩
theorem lc_X12_limits : aa_LC mX12_limits 0 := ⟨⟨aa_t7 163 rfl, rfl⟩, ⟨aa_t1 13 rfl, rfl⟩, by decide +kernel, by decide⟩
theorem lc_X12_wholeOfMean : aa_LC mX12_wholeOfMean 1 := ⟨⟨aa_t7 178 rfl, rfl⟩, ⟨aa_t1 13 rfl, rfl⟩, by decide +kernel, by decide⟩
theorem lc_X12_means : aa_LC mX12_means 2 := ⟨⟨aa_t7 175 rfl, rfl⟩, ⟨aa_t1 13 rfl, rfl⟩, by decide +kernel, by decide⟩
theorem lc_X12_mean : aa_LC mX12_mean 0 := ⟨⟨aa_t7 171 rfl, rfl⟩, ⟨aa_t1 13 rfl, rfl⟩, by decide +kernel, by decide⟩
theorem lc_X12_likes : aa_LC mX12_likes 2 := ⟨⟨aa_t7 188 rfl, rfl⟩, ⟨aa_t1 13 rfl, rfl⟩, by decide +kernel, by decide⟩
theorem lc_X12_liking : aa_LC mX12_liking 2 := ⟨⟨aa_t7 200 rfl, rfl⟩, ⟨aa_t1 13 rfl, rfl⟩, by decide +kernel, by decide⟩
theorem lc_X12_keeper : aa_LC mX12_keeper 3 := ⟨⟨aa_t7 196 rfl, rfl⟩, ⟨aa_t1 13 rfl, rfl⟩, by decide +kernel, by decide⟩
theorem lc_X12_parrot : aa_LC mX12_parrot 1 := ⟨⟨aa_t7 192 rfl, rfl⟩, ⟨aa_t1 13 rfl, rfl⟩, by decide +kernel, by decide⟩
theorem lc_X12_parrots : aa_LC mX12_parrots 0 := ⟨⟨aa_t7 204 rfl, rfl⟩, ⟨aa_t1 13 rfl, rfl⟩, by decide +kernel, by decide⟩
theorem lc_X12_keeperOfTwo : aa_LC mX12_keeperOfTwo 4 := ⟨⟨aa_t7 212 rfl, rfl⟩, ⟨aa_t1 13 rfl, rfl⟩, by decide +kernel, by decide⟩
theorem lc_X12_out : aa_LC mX12_out 1 := ⟨⟨aa_t7 208 rfl, rfl⟩, ⟨aa_t1 13 rfl, rfl⟩, by decide +kernel, by decide⟩
theorem lc_X12_whole : aa_LC mX12_whole 1 := ⟨⟨aa_t7 224 rfl, rfl⟩, ⟨aa_t1 13 rfl, rfl⟩, by decide +kernel, by decide⟩
theorem lc_X12_chance : aa_LC mX12_chance 3 := ⟨⟨aa_t7 221 rfl, rfl⟩, ⟨aa_t1 13 rfl, rfl⟩, by decide +kernel, by decide⟩
theorem lc_X12_notary : aa_LC mX12_notary 2 := ⟨⟨aa_t7 216 rfl, rfl⟩, ⟨aa_t1 13 rfl, rfl⟩, by decide +kernel, by decide⟩
theorem lc_X12_winWide : aa_LC mX12_winWide 3 := ⟨⟨aa_t8 5 rfl, rfl⟩, ⟨aa_t1 13 rfl, rfl⟩, by decide +kernel, by decide⟩
theorem lc_X12_changes : aa_LC mX12_changes 1 := ⟨⟨aa_t8 19 rfl, rfl⟩, ⟨aa_t1 13 rfl, rfl⟩, by decide +kernel, by decide⟩
theorem lc_X12_clears : aa_LC mX12_clears 0 := ⟨⟨aa_t7 237 rfl, rfl⟩, ⟨aa_t1 13 rfl, rfl⟩, by decide +kernel, by decide⟩
theorem lc_X12_winsNow : aa_LC mX12_winsNow 0 := ⟨⟨aa_t8 1 rfl, rfl⟩, ⟨aa_t1 13 rfl, rfl⟩, by decide +kernel, by decide⟩
theorem lc_X12_isFew : aa_LC mX12_isFew 0 := ⟨⟨aa_t7 233 rfl, rfl⟩, ⟨aa_t1 13 rfl, rfl⟩, by decide +kernel, by decide⟩
theorem lc_X12_turnsBy : aa_LC mX12_turnsBy 3 := ⟨⟨aa_t8 15 rfl, rfl⟩, ⟨aa_t1 13 rfl, rfl⟩, by decide +kernel, by decide⟩
theorem lc_X12_canChange : aa_LC mX12_canChange 1 := ⟨⟨aa_t8 23 rfl, rfl⟩, ⟨aa_t1 13 rfl, rfl⟩, by decide +kernel, by decide⟩
theorem lc_X12_isChange : aa_LC mX12_isChange 1 := ⟨⟨aa_t8 8 rfl, rfl⟩, ⟨aa_t1 13 rfl, rfl⟩, by decide +kernel, by decide⟩
theorem lc_X12_change : aa_LC mX12_change 0 := ⟨⟨aa_t7 229 rfl, rfl⟩, ⟨aa_t1 13 rfl, rfl⟩, by decide +kernel, by decide⟩
theorem lc_X12_single : aa_LC mX12_single 0 := ⟨⟨aa_t8 27 rfl, rfl⟩, ⟨aa_t1 13 rfl, rfl⟩, by decide +kernel, by decide⟩
theorem lc_X12_keep : aa_LC mX12_keep 1 := ⟨⟨aa_t8 31 rfl, rfl⟩, ⟨aa_t1 13 rfl, rfl⟩, by decide +kernel, by decide⟩
theorem lc_X12_again : aa_LC mX12_again 1 := ⟨⟨aa_t8 35 rfl, rfl⟩, ⟨aa_t1 13 rfl, rfl⟩, by decide +kernel, by decide⟩
theorem lc_X12_putBack : aa_LC mX12_putBack 0 := ⟨⟨aa_t8 43 rfl, rfl⟩, ⟨aa_t1 13 rfl, rfl⟩, by decide +kernel, by decide⟩
theorem lc_X12_count : aa_LC mX12_count 1 := ⟨⟨aa_t8 39 rfl, rfl⟩, ⟨aa_t1 13 rfl, rfl⟩, by decide +kernel, by decide⟩
theorem lc_X12_init : aa_LC mX12_init 0 := ⟨⟨aa_t8 47 rfl, rfl⟩, ⟨aa_t1 13 rfl, rfl⟩, by decide +kernel, by decide⟩
theorem lc_X12_row : aa_LC mX12_row 1 := ⟨⟨aa_t8 169 rfl, rfl⟩, ⟨aa_t1 13 rfl, rfl⟩, by decide +kernel, by decide⟩
theorem lc_J6_numberOfTrailingZeros_0f7a4 : aa_LC mJ6_numberOfTrailingZeros_0f7a4 1 := ⟨⟨aa_t7 61 rfl, rfl⟩, ⟨aa_t1 19 rfl, rfl⟩, by decide +kernel, by decide⟩
theorem lc_J6_bitCount_0f7a4 : aa_LC mJ6_bitCount_0f7a4 1 := ⟨⟨aa_t4 15 rfl, rfl⟩, ⟨aa_t1 19 rfl, rfl⟩, by decide +kernel, by decide⟩
theorem lc_J13_bitCount_95d88 : aa_LC mJ13_bitCount_95d88 1 := ⟨⟨aa_t5 221 rfl, rfl⟩, ⟨aa_t1 20 rfl, rfl⟩, by decide +kernel, by decide⟩
theorem lc_J9_abs_067f4 : aa_LC mJ9_abs_067f4 1 := ⟨⟨aa_t5 45 rfl, rfl⟩, ⟨aa_t1 14 rfl, rfl⟩, by decide +kernel, by decide⟩
theorem lc_J9_max_7cf53 : aa_LC mJ9_max_7cf53 2 := ⟨⟨aa_t3 37 rfl, rfl⟩, ⟨aa_t1 14 rfl, rfl⟩, by decide +kernel, by decide⟩
theorem lc_J9_max_f86c9 : aa_LC mJ9_max_f86c9 2 := ⟨⟨aa_t5 51 rfl, rfl⟩, ⟨aa_t1 14 rfl, rfl⟩, by decide +kernel, by decide⟩
theorem lc_J9_min_7cf53 : aa_LC mJ9_min_7cf53 2 := ⟨⟨aa_t2 178 rfl, rfl⟩, ⟨aa_t1 14 rfl, rfl⟩, by decide +kernel, by decide⟩
theorem lc_J9_min_f86c9 : aa_LC mJ9_min_f86c9 2 := ⟨⟨aa_t5 127 rfl, rfl⟩, ⟨aa_t1 14 rfl, rfl⟩, by decide +kernel, by decide⟩
theorem lk_L_7 : aa_LV RL 7 mX11_thing := ⟨⟨aa_t6 13 rfl, rfl⟩, ⟨aa_t6 14 rfl, rfl⟩, ⟨aa_t6 15 rfl, rfl⟩⟩
theorem lk_L_15 : aa_LV RL 15 mX11_row := ⟨⟨aa_t6 96 rfl, rfl⟩, ⟨aa_t6 97 rfl, rfl⟩, ⟨aa_t6 98 rfl, rfl⟩⟩
theorem lk_L_19 : aa_LI RL 19 mX11_init := ⟨⟨aa_t1 23 rfl, rfl⟩, ⟨aa_t1 24 rfl, rfl⟩, rfl, rfl⟩
theorem lk_L_22 : aa_LI RL 22 mX12_init := ⟨⟨aa_t8 45 rfl, rfl⟩, ⟨aa_t8 46 rfl, rfl⟩, rfl, rfl⟩
theorem lk_L_23 : aa_LV RL 23 mX11_sign := ⟨⟨aa_t2 144 rfl, rfl⟩, ⟨aa_t2 145 rfl, rfl⟩, ⟨aa_t2 146 rfl, rfl⟩⟩
theorem lk_L_27 : aa_LV RL 27 mX12_sign := ⟨⟨aa_t6 105 rfl, rfl⟩, ⟨aa_t6 106 rfl, rfl⟩, ⟨aa_t6 107 rfl, rfl⟩⟩
theorem lk_L_28 : aa_LV RL 28 mX11_end := ⟨⟨aa_t2 152 rfl, rfl⟩, ⟨aa_t2 153 rfl, rfl⟩, ⟨aa_t2 154 rfl, rfl⟩⟩
theorem lk_L_32 : aa_LV RL 32 mX12_end := ⟨⟨aa_t6 109 rfl, rfl⟩, ⟨aa_t6 110 rfl, rfl⟩, ⟨aa_t6 111 rfl, rfl⟩⟩
theorem lk_L_33 : aa_LV RL 33 mX11_piles := ⟨⟨aa_t2 160 rfl, rfl⟩, ⟨aa_t2 161 rfl, rfl⟩, ⟨aa_t2 162 rfl, rfl⟩⟩
theorem lk_L_37 : aa_LV RL 37 mX12_piles := ⟨⟨aa_t6 116 rfl, rfl⟩, ⟨aa_t6 117 rfl, rfl⟩, ⟨aa_t6 118 rfl, rfl⟩⟩
theorem lk_L_43 : aa_LV RL 43 mX12_thing := ⟨⟨aa_t6 158 rfl, rfl⟩, ⟨aa_t6 159 rfl, rfl⟩, ⟨aa_t6 160 rfl, rfl⟩⟩
theorem lk_L_44 : aa_LV RL 44 mX12_thrown := ⟨⟨aa_t6 101 rfl, rfl⟩, ⟨aa_t6 102 rfl, rfl⟩, ⟨aa_t6 103 rfl, rfl⟩⟩
theorem lk_L_47 : aa_LV RL 47 mX11_ends := ⟨⟨aa_t3 14 rfl, rfl⟩, ⟨aa_t3 15 rfl, rfl⟩, ⟨aa_t3 16 rfl, rfl⟩⟩
theorem lk_L_50 : aa_LV RL 50 mX12_ends := ⟨⟨aa_t6 179 rfl, rfl⟩, ⟨aa_t6 180 rfl, rfl⟩, ⟨aa_t6 181 rfl, rfl⟩⟩
theorem lk_L_51 : aa_LV RL 51 mX11_sheet := ⟨⟨aa_t3 26 rfl, rfl⟩, ⟨aa_t3 27 rfl, rfl⟩, ⟨aa_t3 28 rfl, rfl⟩⟩
theorem lk_L_55 : aa_LV RL 55 mX12_sheet := ⟨⟨aa_t6 183 rfl, rfl⟩, ⟨aa_t6 184 rfl, rfl⟩, ⟨aa_t6 185 rfl, rfl⟩⟩
theorem lk_L_56 : aa_LV RL 56 mX11_may := ⟨⟨aa_t3 56 rfl, rfl⟩, ⟨aa_t3 57 rfl, rfl⟩, ⟨aa_t3 58 rfl, rfl⟩⟩
theorem lk_L_59 : aa_LV RL 59 mX12_may := ⟨⟨aa_t6 189 rfl, rfl⟩, ⟨aa_t6 190 rfl, rfl⟩, ⟨aa_t6 191 rfl, rfl⟩⟩
theorem lk_L_60 : aa_LV RL 60 mX11_move := ⟨⟨aa_t3 76 rfl, rfl⟩, ⟨aa_t3 77 rfl, rfl⟩, ⟨aa_t3 78 rfl, rfl⟩⟩
theorem lk_L_63 : aa_LV RL 63 mX12_move := ⟨⟨aa_t6 207 rfl, rfl⟩, ⟨aa_t6 208 rfl, rfl⟩, ⟨aa_t6 209 rfl, rfl⟩⟩
theorem lk_L_64 : aa_LV RL 64 mX11_undo := ⟨⟨aa_t3 106 rfl, rfl⟩, ⟨aa_t3 107 rfl, rfl⟩, ⟨aa_t3 108 rfl, rfl⟩⟩
theorem lk_L_67 : aa_LV RL 67 mX12_undo := ⟨⟨aa_t6 215 rfl, rfl⟩, ⟨aa_t6 216 rfl, rfl⟩, ⟨aa_t6 217 rfl, rfl⟩⟩
theorem lk_L_68 : aa_LV RL 68 mX11_begin := ⟨⟨aa_t3 114 rfl, rfl⟩, ⟨aa_t3 115 rfl, rfl⟩, ⟨aa_t3 116 rfl, rfl⟩⟩
theorem lk_L_71 : aa_LV RL 71 mX12_begin := ⟨⟨aa_t6 219 rfl, rfl⟩, ⟨aa_t6 220 rfl, rfl⟩, ⟨aa_t6 221 rfl, rfl⟩⟩
theorem lk_L_72 : aa_LV RL 72 mX11_judge := ⟨⟨aa_t3 122 rfl, rfl⟩, ⟨aa_t3 123 rfl, rfl⟩, ⟨aa_t3 124 rfl, rfl⟩⟩
theorem lk_L_75 : aa_LV RL 75 mX12_judge := ⟨⟨aa_t6 223 rfl, rfl⟩, ⟨aa_t6 224 rfl, rfl⟩, ⟨aa_t6 225 rfl, rfl⟩⟩
theorem lk_L_76 : aa_LV RL 76 mX11_taken := ⟨⟨aa_t3 132 rfl, rfl⟩, ⟨aa_t3 133 rfl, rfl⟩, ⟨aa_t3 134 rfl, rfl⟩⟩
theorem lk_L_79 : aa_LV RL 79 mX12_taken := ⟨⟨aa_t6 236 rfl, rfl⟩, ⟨aa_t6 237 rfl, rfl⟩, ⟨aa_t6 238 rfl, rfl⟩⟩
theorem lk_L_80 : aa_LV RL 80 mX11_wins := ⟨⟨aa_t3 141 rfl, rfl⟩, ⟨aa_t3 142 rfl, rfl⟩, ⟨aa_t3 143 rfl, rfl⟩⟩
theorem lk_L_83 : aa_LV RL 83 mX12_wins := ⟨⟨aa_t7 0 rfl, rfl⟩, ⟨aa_t7 1 rfl, rfl⟩, ⟨aa_t7 2 rfl, rfl⟩⟩
theorem lk_L_84 : aa_LV RL 84 mX11_would := ⟨⟨aa_t3 190 rfl, rfl⟩, ⟨aa_t3 191 rfl, rfl⟩, ⟨aa_t3 192 rfl, rfl⟩⟩
theorem lk_L_87 : aa_LV RL 87 mX12_would := ⟨⟨aa_t7 29 rfl, rfl⟩, ⟨aa_t7 30 rfl, rfl⟩, ⟨aa_t7 31 rfl, rfl⟩⟩
theorem lk_L_88 : aa_LV RL 88 mX11_soon := ⟨⟨aa_t3 194 rfl, rfl⟩, ⟨aa_t3 195 rfl, rfl⟩, ⟨aa_t3 196 rfl, rfl⟩⟩
theorem lk_L_91 : aa_LV RL 91 mX12_soon := ⟨⟨aa_t7 33 rfl, rfl⟩, ⟨aa_t7 34 rfl, rfl⟩, ⟨aa_t7 35 rfl, rfl⟩⟩
theorem lk_L_92 : aa_LV RL 92 mX11_leave := ⟨⟨aa_t3 220 rfl, rfl⟩, ⟨aa_t3 221 rfl, rfl⟩, ⟨aa_t3 222 rfl, rfl⟩⟩
theorem lk_L_95 : aa_LV RL 95 mX12_leave := ⟨⟨aa_t7 41 rfl, rfl⟩, ⟨aa_t7 42 rfl, rfl⟩, ⟨aa_t7 43 rfl, rfl⟩⟩
theorem lk_L_96 : aa_LV RL 96 mX11_states := ⟨⟨aa_t3 224 rfl, rfl⟩, ⟨aa_t3 225 rfl, rfl⟩, ⟨aa_t3 226 rfl, rfl⟩⟩
theorem lk_L_99 : aa_LV RL 99 mX12_states := ⟨⟨aa_t7 45 rfl, rfl⟩, ⟨aa_t7 46 rfl, rfl⟩, ⟨aa_t7 47 rfl, rfl⟩⟩
theorem lk_L_100 : aa_LV RL 100 mX11_lines := ⟨⟨aa_t4 0 rfl, rfl⟩, ⟨aa_t4 1 rfl, rfl⟩, ⟨aa_t4 2 rfl, rfl⟩⟩
theorem lk_L_103 : aa_LV RL 103 mX12_lines := ⟨⟨aa_t7 49 rfl, rfl⟩, ⟨aa_t7 50 rfl, rfl⟩, ⟨aa_t7 51 rfl, rfl⟩⟩
theorem lk_L_104 : aa_LV RL 104 mX11_forced := ⟨⟨aa_t4 19 rfl, rfl⟩, ⟨aa_t4 20 rfl, rfl⟩, ⟨aa_t4 21 rfl, rfl⟩⟩
theorem lk_L_107 : aa_LV RL 107 mX12_forced := ⟨⟨aa_t7 54 rfl, rfl⟩, ⟨aa_t7 55 rfl, rfl⟩, ⟨aa_t7 56 rfl, rfl⟩⟩
theorem lk_L_108 : aa_LV RL 108 mX11_tempo := ⟨⟨aa_t4 28 rfl, rfl⟩, ⟨aa_t4 29 rfl, rfl⟩, ⟨aa_t4 30 rfl, rfl⟩⟩
theorem lk_L_111 : aa_LV RL 111 mX12_tempo := ⟨⟨aa_t7 63 rfl, rfl⟩, ⟨aa_t7 64 rfl, rfl⟩, ⟨aa_t7 65 rfl, rfl⟩⟩
theorem lk_L_112 : aa_LV RL 112 mX11_value := ⟨⟨aa_t4 37 rfl, rfl⟩, ⟨aa_t4 38 rfl, rfl⟩, ⟨aa_t4 39 rfl, rfl⟩⟩
theorem lk_L_115 : aa_LV RL 115 mX12_value := ⟨⟨aa_t7 71 rfl, rfl⟩, ⟨aa_t7 72 rfl, rfl⟩, ⟨aa_t7 73 rfl, rfl⟩⟩
theorem lk_L_116 : aa_LV RL 116 mX11_alone := ⟨⟨aa_t4 73 rfl, rfl⟩, ⟨aa_t4 74 rfl, rfl⟩, ⟨aa_t4 75 rfl, rfl⟩⟩
theorem lk_L_119 : aa_LV RL 119 mX12_alone := ⟨⟨aa_t7 83 rfl, rfl⟩, ⟨aa_t7 84 rfl, rfl⟩, ⟨aa_t7 85 rfl, rfl⟩⟩
theorem lk_L_120 : aa_LV RL 120 mX11_heap := ⟨⟨aa_t4 81 rfl, rfl⟩, ⟨aa_t4 82 rfl, rfl⟩, ⟨aa_t4 83 rfl, rfl⟩⟩
theorem lk_L_123 : aa_LV RL 123 mX12_heap := ⟨⟨aa_t7 96 rfl, rfl⟩, ⟨aa_t7 97 rfl, rfl⟩, ⟨aa_t7 98 rfl, rfl⟩⟩
theorem lk_L_124 : aa_LV RL 124 mX11_heaps := ⟨⟨aa_t4 95 rfl, rfl⟩, ⟨aa_t4 96 rfl, rfl⟩, ⟨aa_t4 97 rfl, rfl⟩⟩
theorem lk_L_127 : aa_LV RL 127 mX12_heaps := ⟨⟨aa_t7 104 rfl, rfl⟩, ⟨aa_t7 105 rfl, rfl⟩, ⟨aa_t7 106 rfl, rfl⟩⟩
theorem lk_L_128 : aa_LV RL 128 mX11_make := ⟨⟨aa_t4 99 rfl, rfl⟩, ⟨aa_t4 100 rfl, rfl⟩, ⟨aa_t4 101 rfl, rfl⟩⟩
theorem lk_L_131 : aa_LV RL 131 mX12_make := ⟨⟨aa_t7 108 rfl, rfl⟩, ⟨aa_t7 109 rfl, rfl⟩, ⟨aa_t7 110 rfl, rfl⟩⟩
theorem lk_L_132 : aa_LV RL 132 mX11_joined := ⟨⟨aa_t4 107 rfl, rfl⟩, ⟨aa_t4 108 rfl, rfl⟩, ⟨aa_t4 109 rfl, rfl⟩⟩
theorem lk_L_135 : aa_LV RL 135 mX12_joined := ⟨⟨aa_t7 113 rfl, rfl⟩, ⟨aa_t7 114 rfl, rfl⟩, ⟨aa_t7 115 rfl, rfl⟩⟩
theorem lk_L_136 : aa_LV RL 136 mX11_alike := ⟨⟨aa_t4 121 rfl, rfl⟩, ⟨aa_t4 122 rfl, rfl⟩, ⟨aa_t4 123 rfl, rfl⟩⟩
theorem lk_L_139 : aa_LV RL 139 mX12_alike := ⟨⟨aa_t7 121 rfl, rfl⟩, ⟨aa_t7 122 rfl, rfl⟩, ⟨aa_t7 123 rfl, rfl⟩⟩
theorem lk_L_140 : aa_LV RL 140 mX11_wall := ⟨⟨aa_t4 140 rfl, rfl⟩, ⟨aa_t4 141 rfl, rfl⟩, ⟨aa_t4 142 rfl, rfl⟩⟩
theorem lk_L_143 : aa_LV RL 143 mX12_wall := ⟨⟨aa_t7 129 rfl, rfl⟩, ⟨aa_t7 130 rfl, rfl⟩, ⟨aa_t7 131 rfl, rfl⟩⟩
theorem lk_L_144 : aa_LV RL 144 mX11_best := ⟨⟨aa_t4 168 rfl, rfl⟩, ⟨aa_t4 169 rfl, rfl⟩, ⟨aa_t4 170 rfl, rfl⟩⟩
theorem lk_L_147 : aa_LV RL 147 mX12_best := ⟨⟨aa_t7 144 rfl, rfl⟩, ⟨aa_t7 145 rfl, rfl⟩, ⟨aa_t7 146 rfl, rfl⟩⟩
theorem lk_L_148 : aa_LV RL 148 mX11_gets := ⟨⟨aa_t4 197 rfl, rfl⟩, ⟨aa_t4 198 rfl, rfl⟩, ⟨aa_t4 199 rfl, rfl⟩⟩
theorem lk_L_151 : aa_LV RL 151 mX12_gets := ⟨⟨aa_t7 152 rfl, rfl⟩, ⟨aa_t7 153 rfl, rfl⟩, ⟨aa_t7 154 rfl, rfl⟩⟩
theorem lk_L_152 : aa_LV RL 152 mX11_greedy := ⟨⟨aa_t4 201 rfl, rfl⟩, ⟨aa_t4 202 rfl, rfl⟩, ⟨aa_t4 203 rfl, rfl⟩⟩
theorem lk_L_155 : aa_LV RL 155 mX12_greedy := ⟨⟨aa_t7 156 rfl, rfl⟩, ⟨aa_t7 157 rfl, rfl⟩, ⟨aa_t7 158 rfl, rfl⟩⟩
theorem lk_L_156 : aa_LV RL 156 mX11_limits := ⟨⟨aa_t4 211 rfl, rfl⟩, ⟨aa_t4 212 rfl, rfl⟩, ⟨aa_t4 213 rfl, rfl⟩⟩
theorem lk_L_159 : aa_LV RL 159 mX12_limits := ⟨⟨aa_t7 160 rfl, rfl⟩, ⟨aa_t7 161 rfl, rfl⟩, ⟨aa_t7 162 rfl, rfl⟩⟩
theorem lk_L_160 : aa_LV RL 160 mX11_mean := ⟨⟨aa_t4 219 rfl, rfl⟩, ⟨aa_t4 220 rfl, rfl⟩, ⟨aa_t4 221 rfl, rfl⟩⟩
theorem lk_L_163 : aa_LV RL 163 mX12_mean := ⟨⟨aa_t7 168 rfl, rfl⟩, ⟨aa_t7 169 rfl, rfl⟩, ⟨aa_t7 170 rfl, rfl⟩⟩
theorem lk_L_164 : aa_LV RL 164 mX11_likes := ⟨⟨aa_t5 52 rfl, rfl⟩, ⟨aa_t5 53 rfl, rfl⟩, ⟨aa_t5 54 rfl, rfl⟩⟩
theorem lk_L_168 : aa_LV RL 168 mX12_likes := ⟨⟨aa_t7 185 rfl, rfl⟩, ⟨aa_t7 186 rfl, rfl⟩, ⟨aa_t7 187 rfl, rfl⟩⟩
theorem lk_L_169 : aa_LV RL 169 mX11_parrot := ⟨⟨aa_t5 63 rfl, rfl⟩, ⟨aa_t5 64 rfl, rfl⟩, ⟨aa_t5 65 rfl, rfl⟩⟩
theorem lk_L_172 : aa_LV RL 172 mX12_parrot := ⟨⟨aa_t7 189 rfl, rfl⟩, ⟨aa_t7 190 rfl, rfl⟩, ⟨aa_t7 191 rfl, rfl⟩⟩
theorem lk_L_173 : aa_LV RL 173 mX11_parrots := ⟨⟨aa_t5 90 rfl, rfl⟩, ⟨aa_t5 91 rfl, rfl⟩, ⟨aa_t5 92 rfl, rfl⟩⟩
theorem lk_L_176 : aa_LV RL 176 mX12_parrots := ⟨⟨aa_t7 201 rfl, rfl⟩, ⟨aa_t7 202 rfl, rfl⟩, ⟨aa_t7 203 rfl, rfl⟩⟩
theorem lk_L_177 : aa_LV RL 177 mX11_out := ⟨⟨aa_t5 94 rfl, rfl⟩, ⟨aa_t5 95 rfl, rfl⟩, ⟨aa_t5 96 rfl, rfl⟩⟩
theorem lk_L_180 : aa_LV RL 180 mX12_out := ⟨⟨aa_t7 205 rfl, rfl⟩, ⟨aa_t7 206 rfl, rfl⟩, ⟨aa_t7 207 rfl, rfl⟩⟩
theorem lk_L_181 : aa_LV RL 181 mX11_notary := ⟨⟨aa_t5 107 rfl, rfl⟩, ⟨aa_t5 108 rfl, rfl⟩, ⟨aa_t5 109 rfl, rfl⟩⟩
theorem lk_L_184 : aa_LV RL 184 mX12_notary := ⟨⟨aa_t7 213 rfl, rfl⟩, ⟨aa_t7 214 rfl, rfl⟩, ⟨aa_t7 215 rfl, rfl⟩⟩
theorem lk_L_185 : aa_LV RL 185 mX11_change := ⟨⟨aa_t5 129 rfl, rfl⟩, ⟨aa_t5 130 rfl, rfl⟩, ⟨aa_t5 131 rfl, rfl⟩⟩
theorem lk_L_188 : aa_LV RL 188 mX12_change := ⟨⟨aa_t7 226 rfl, rfl⟩, ⟨aa_t7 227 rfl, rfl⟩, ⟨aa_t7 228 rfl, rfl⟩⟩
theorem lk_L_189 : aa_LV RL 189 mX11_single := ⟨⟨aa_t5 211 rfl, rfl⟩, ⟨aa_t5 212 rfl, rfl⟩, ⟨aa_t5 213 rfl, rfl⟩⟩
theorem lk_L_192 : aa_LV RL 192 mX12_single := ⟨⟨aa_t8 24 rfl, rfl⟩, ⟨aa_t8 25 rfl, rfl⟩, ⟨aa_t8 26 rfl, rfl⟩⟩
theorem lk_L_193 : aa_LV RL 193 mX11_keep := ⟨⟨aa_t5 225 rfl, rfl⟩, ⟨aa_t5 226 rfl, rfl⟩, ⟨aa_t5 227 rfl, rfl⟩⟩
theorem lk_L_196 : aa_LV RL 196 mX12_keep := ⟨⟨aa_t8 28 rfl, rfl⟩, ⟨aa_t8 29 rfl, rfl⟩, ⟨aa_t8 30 rfl, rfl⟩⟩
theorem lk_L_197 : aa_LV RL 197 mX11_again := ⟨⟨aa_t5 233 rfl, rfl⟩, ⟨aa_t5 234 rfl, rfl⟩, ⟨aa_t5 235 rfl, rfl⟩⟩
theorem lk_L_200 : aa_LV RL 200 mX12_again := ⟨⟨aa_t8 32 rfl, rfl⟩, ⟨aa_t8 33 rfl, rfl⟩, ⟨aa_t8 34 rfl, rfl⟩⟩
theorem lk_L_201 : aa_LV RL 201 mX11_count := ⟨⟨aa_t5 237 rfl, rfl⟩, ⟨aa_t5 238 rfl, rfl⟩, ⟨aa_t5 239 rfl, rfl⟩⟩
theorem lk_L_204 : aa_LV RL 204 mX12_count := ⟨⟨aa_t8 36 rfl, rfl⟩, ⟨aa_t8 37 rfl, rfl⟩, ⟨aa_t8 38 rfl, rfl⟩⟩
theorem lk_L_208 : aa_LV RL 208 mX12_row := ⟨⟨aa_t8 166 rfl, rfl⟩, ⟨aa_t8 167 rfl, rfl⟩, ⟨aa_t8 168 rfl, rfl⟩⟩
theorem lk_X0_47 : aa_LI RX0 47 mX1_init := ⟨⟨aa_t2 66 rfl, rfl⟩, ⟨aa_t2 10 rfl, rfl⟩, rfl, rfl⟩
theorem lk_X0_54 : aa_LV RX0 54 mX6_version := ⟨⟨aa_t5 141 rfl, rfl⟩, ⟨aa_t3 161 rfl, rfl⟩, ⟨aa_t3 162 rfl, rfl⟩⟩
theorem lk_X0_59 : aa_LV RX0 59 mX1_lay := ⟨⟨aa_t5 142 rfl, rfl⟩, ⟨aa_t4 232 rfl, rfl⟩, ⟨aa_t4 233 rfl, rfl⟩⟩
theorem lk_X0_63 : aa_LV RX0 63 mX1_all := ⟨⟨aa_t5 143 rfl, rfl⟩, ⟨aa_t5 5 rfl, rfl⟩, ⟨aa_t5 6 rfl, rfl⟩⟩
theorem lk_X0_66 : aa_LV RX0 66 mX0_victory := ⟨⟨aa_t5 144 rfl, rfl⟩, ⟨aa_t5 146 rfl, rfl⟩, ⟨aa_tp 38 rfl, rfl⟩⟩
theorem lk_X0_70 : aa_LV RX0 70 mX0_look := ⟨⟨aa_t5 137 rfl, rfl⟩, ⟨aa_t5 139 rfl, rfl⟩, ⟨aa_tp 37 rfl, rfl⟩⟩
theorem lk_X0_74 : aa_LV RX0 74 mX0_kinds := ⟨⟨aa_t5 171 rfl, rfl⟩, ⟨aa_t5 173 rfl, rfl⟩, ⟨aa_tp 42 rfl, rfl⟩⟩
theorem lk_X0_77 : aa_LV RX0 77 mX0_partBy := ⟨⟨aa_t5 175 rfl, rfl⟩, ⟨aa_t5 177 rfl, rfl⟩, ⟨aa_tp 43 rfl, rfl⟩⟩
theorem lk_X0_81 : aa_LV RX0 81 mX0_laidBy := ⟨⟨aa_t5 179 rfl, rfl⟩, ⟨aa_t5 181 rfl, rfl⟩, ⟨aa_tp 44 rfl, rfl⟩⟩
theorem lk_X0_85 : aa_LV RX0 85 mX0_turns := ⟨⟨aa_t5 183 rfl, rfl⟩, ⟨aa_t5 185 rfl, rfl⟩, ⟨aa_tp 45 rfl, rfl⟩⟩
theorem lk_X0_89 : aa_LV RX0 89 mX0_named := ⟨⟨aa_t5 187 rfl, rfl⟩, ⟨aa_t5 189 rfl, rfl⟩, ⟨aa_tp 46 rfl, rfl⟩⟩
theorem lk_X0_92 : aa_LV RX0 92 mX0_secondBehind := ⟨⟨aa_t5 195 rfl, rfl⟩, ⟨aa_t5 197 rfl, rfl⟩, ⟨aa_tp 47 rfl, rfl⟩⟩
theorem lk_X0_95 : aa_LV RX0 95 mX0_stands := ⟨⟨aa_t5 199 rfl, rfl⟩, ⟨aa_t5 201 rfl, rfl⟩, ⟨aa_tp 48 rfl, rfl⟩⟩
theorem lk_X0_99 : aa_LV RX0 99 mX1_many := ⟨⟨aa_t5 157 rfl, rfl⟩, ⟨aa_t5 158 rfl, rfl⟩, ⟨aa_t5 159 rfl, rfl⟩⟩
theorem lk_X0_102 : aa_LV RX0 102 mX1_thingAt := ⟨⟨aa_t5 191 rfl, rfl⟩, ⟨aa_t5 192 rfl, rfl⟩, ⟨aa_t5 193 rfl, rfl⟩⟩
theorem lk_X0_105 : aa_LV RX0 105 mX1_behind := ⟨⟨aa_t5 161 rfl, rfl⟩, ⟨aa_t5 17 rfl, rfl⟩, ⟨aa_t5 18 rfl, rfl⟩⟩
theorem lk_X0_108 : aa_LV RX0 108 mX0_victoryBehind := ⟨⟨aa_t5 162 rfl, rfl⟩, ⟨aa_t5 164 rfl, rfl⟩, ⟨aa_tp 41 rfl, rfl⟩⟩
theorem lk_X0_111 : aa_LS RX0 111 mX0_left := ⟨⟨aa_t5 166 rfl, rfl⟩, ⟨aa_t5 167 rfl, rfl⟩⟩
theorem lk_X0_114 : aa_LS RX0 114 mJ9_min_7cf53 := ⟨⟨aa_t5 169 rfl, rfl⟩, ⟨aa_t2 177 rfl, rfl⟩⟩
theorem lk_X0_119 : aa_LS RX0 119 mJ9_max_7cf53 := ⟨⟨aa_t5 170 rfl, rfl⟩, ⟨aa_t3 36 rfl, rfl⟩⟩
theorem lk_X0_122 : aa_LV RX0 122 mX1_takes := ⟨⟨aa_t5 148 rfl, rfl⟩, ⟨aa_t5 13 rfl, rfl⟩, ⟨aa_t5 14 rfl, rfl⟩⟩
theorem lk_X0_125 : aa_LV RX0 125 mX0_winsByLaid := ⟨⟨aa_t5 149 rfl, rfl⟩, ⟨aa_t5 151 rfl, rfl⟩, ⟨aa_tp 39 rfl, rfl⟩⟩
theorem lk_X0_128 : aa_LV RX0 128 mX0_winsByThings := ⟨⟨aa_t5 153 rfl, rfl⟩, ⟨aa_t5 155 rfl, rfl⟩, ⟨aa_tp 40 rfl, rfl⟩⟩
theorem lk_X1_42 : aa_LV RX1 42 mX6_above := ⟨⟨aa_t4 235 rfl, rfl⟩, ⟨aa_t4 236 rfl, rfl⟩, ⟨aa_t4 237 rfl, rfl⟩⟩
theorem lk_X1_48 : aa_LV RX1 48 mX1_renumbered := ⟨⟨aa_t4 239 rfl, rfl⟩, ⟨aa_t5 1 rfl, rfl⟩, ⟨aa_tp 27 rfl, rfl⟩⟩
theorem lk_X1_51 : aa_LV RX1 51 mX6_takes := ⟨⟨aa_t5 3 rfl, rfl⟩, ⟨aa_t3 69 rfl, rfl⟩, ⟨aa_t3 70 rfl, rfl⟩⟩
theorem lk_X1_55 : aa_LV RX1 55 mX6_worthAt := ⟨⟨aa_t5 24 rfl, rfl⟩, ⟨aa_t5 25 rfl, rfl⟩, ⟨aa_t5 26 rfl, rfl⟩⟩
theorem lk_X1_58 : aa_LV RX1 58 mX1_lay := ⟨⟨aa_t4 231 rfl, rfl⟩, ⟨aa_t4 232 rfl, rfl⟩, ⟨aa_t4 233 rfl, rfl⟩⟩
theorem lk_X1_62 : aa_LV RX1 62 mX1_all := ⟨⟨aa_t5 4 rfl, rfl⟩, ⟨aa_t5 5 rfl, rfl⟩, ⟨aa_t5 6 rfl, rfl⟩⟩
theorem lk_X1_66 : aa_LV RX1 66 mX1_meanOf := ⟨⟨aa_t5 8 rfl, rfl⟩, ⟨aa_t5 10 rfl, rfl⟩, ⟨aa_tp 28 rfl, rfl⟩⟩
theorem lk_X1_70 : aa_LV RX1 70 mX1_set := ⟨⟨aa_t5 34 rfl, rfl⟩, ⟨aa_t5 36 rfl, rfl⟩, ⟨aa_tp 31 rfl, rfl⟩⟩
theorem lk_X1_74 : aa_LV RX1 74 mX1_cell := ⟨⟨aa_t5 29 rfl, rfl⟩, ⟨aa_t5 31 rfl, rfl⟩, ⟨aa_tp 30 rfl, rfl⟩⟩
theorem lk_X1_77 : aa_LV RX1 77 mX1_takes := ⟨⟨aa_t5 12 rfl, rfl⟩, ⟨aa_t5 13 rfl, rfl⟩, ⟨aa_t5 14 rfl, rfl⟩⟩
theorem lk_X1_78 : aa_LV RX1 78 mX1_behind := ⟨⟨aa_t5 16 rfl, rfl⟩, ⟨aa_t5 17 rfl, rfl⟩, ⟨aa_t5 18 rfl, rfl⟩⟩
theorem lk_X1_81 : aa_LV RX1 81 mX1_worthOf := ⟨⟨aa_t5 20 rfl, rfl⟩, ⟨aa_t5 22 rfl, rfl⟩, ⟨aa_tp 29 rfl, rfl⟩⟩
theorem lk_X1_86 : aa_LS RX1 86 mJ6_bitCount_0f7a4 := ⟨⟨aa_t5 33 rfl, rfl⟩, ⟨aa_t4 14 rfl, rfl⟩⟩
theorem lk_X1_91 : aa_LV RX1 91 mX1_chanceOf := ⟨⟨aa_t5 119 rfl, rfl⟩, ⟨aa_t5 121 rfl, rfl⟩, ⟨aa_tp 36 rfl, rfl⟩⟩
theorem lk_X1_96 : aa_LS RX1 96 mJ9_max_f86c9 := ⟨⟨aa_t5 124 rfl, rfl⟩, ⟨aa_t5 50 rfl, rfl⟩⟩
theorem lk_X1_102 : aa_LS RX1 102 mJ9_min_f86c9 := ⟨⟨aa_t5 125 rfl, rfl⟩, ⟨aa_t5 126 rfl, rfl⟩⟩
theorem lk_X10_11 : aa_LN RX10 11 mX4_init "AllAboveIt" := ⟨by decide +kernel, ⟨aa_t1 161 rfl, rfl⟩, rfl, rfl⟩
theorem lk_X10_26 : aa_LV RX10 26 mX4_fit := ⟨⟨aa_t4 180 rfl, rfl⟩, ⟨aa_t3 157 rfl, rfl⟩, ⟨aa_t3 158 rfl, rfl⟩⟩
theorem lk_X10_30 : aa_LV RX10 30 mX10_moreFrom := ⟨⟨aa_t4 181 rfl, rfl⟩, ⟨aa_t4 183 rfl, rfl⟩, ⟨aa_tp 24 rfl, rfl⟩⟩
theorem lk_X10_34 : aa_LV RX10 34 mX4_at := ⟨⟨aa_t4 185 rfl, rfl⟩, ⟨aa_t3 174 rfl, rfl⟩, ⟨aa_t3 175 rfl, rfl⟩⟩
theorem lk_X10_39 : aa_LV RX10 39 mX6_moves := ⟨⟨aa_t4 187 rfl, rfl⟩, ⟨aa_t3 65 rfl, rfl⟩, ⟨aa_t3 66 rfl, rfl⟩⟩
theorem lk_X10_45 : aa_LV RX10 45 mX6_steps := ⟨⟨aa_t4 188 rfl, rfl⟩, ⟨aa_t3 94 rfl, rfl⟩, ⟨aa_t3 95 rfl, rfl⟩⟩
theorem lk_X10_49 : aa_LV RX10 49 mX6_behind := ⟨⟨aa_t4 189 rfl, rfl⟩, ⟨aa_t3 103 rfl, rfl⟩, ⟨aa_t3 104 rfl, rfl⟩⟩
theorem lk_X10_52 : aa_LV RX10 52 mX6_worthOf := ⟨⟨aa_t4 190 rfl, rfl⟩, ⟨aa_t3 53 rfl, rfl⟩, ⟨aa_t3 54 rfl, rfl⟩⟩
theorem lk_X10_56 : aa_LV RX10 56 mX10_cell := ⟨⟨aa_t4 191 rfl, rfl⟩, ⟨aa_t4 193 rfl, rfl⟩, ⟨aa_tp 25 rfl, rfl⟩⟩
theorem lk_X10_59 : aa_LV RX10 59 mX4_set := ⟨⟨aa_t4 195 rfl, rfl⟩, ⟨aa_t3 178 rfl, rfl⟩, ⟨aa_t3 179 rfl, rfl⟩⟩
theorem lk_X10_63 : aa_LV RX10 63 mX10_more := ⟨⟨aa_t4 176 rfl, rfl⟩, ⟨aa_t4 177 rfl, rfl⟩, ⟨aa_t4 178 rfl, rfl⟩⟩
theorem lk_X10_66 : aa_LV RX10 66 mX6_takes := ⟨⟨aa_t4 209 rfl, rfl⟩, ⟨aa_t3 69 rfl, rfl⟩, ⟨aa_t3 70 rfl, rfl⟩⟩
theorem lk_X10_69 : aa_LV RX10 69 mX6_things := ⟨⟨aa_t4 210 rfl, rfl⟩, ⟨aa_t2 169 rfl, rfl⟩, ⟨aa_t2 170 rfl, rfl⟩⟩
theorem lk_X11_11 : aa_LN RX11 11 mX7_init "AllAboveIt" := ⟨by decide +kernel, ⟨aa_t1 32 rfl, rfl⟩, rfl, rfl⟩
theorem lk_X11_18 : aa_LN RX11 18 mX6_init "AllAboveIt" := ⟨by decide +kernel, ⟨aa_t1 77 rfl, rfl⟩, rfl, rfl⟩
theorem lk_X11_25 : aa_LI RX11 25 mX2_init := ⟨⟨aa_t1 131 rfl, rfl⟩, ⟨aa_t1 132 rfl, rfl⟩, rfl, rfl⟩
theorem lk_X11_42 : aa_LI RX11 42 mX9_init := ⟨⟨aa_t1 154 rfl, rfl⟩, ⟨aa_t1 155 rfl, rfl⟩, rfl, rfl⟩
theorem lk_X11_49 : aa_LI RX11 49 mX3_init := ⟨⟨aa_t1 193 rfl, rfl⟩, ⟨aa_t1 194 rfl, rfl⟩, rfl, rfl⟩
theorem lk_X11_56 : aa_LN RX11 56 mX8_init "AllAboveIt" := ⟨by decide +kernel, ⟨aa_t1 221 rfl, rfl⟩, rfl, rfl⟩
theorem lk_X11_63 : aa_LI RX11 63 mX10_init := ⟨⟨aa_t1 231 rfl, rfl⟩, ⟨aa_t1 232 rfl, rfl⟩, rfl, rfl⟩
theorem lk_X11_70 : aa_LI RX11 70 mX1_init := ⟨⟨aa_t2 9 rfl, rfl⟩, ⟨aa_t2 10 rfl, rfl⟩, rfl, rfl⟩
theorem lk_X11_77 : aa_LI RX11 77 mX5_init := ⟨⟨aa_t2 43 rfl, rfl⟩, ⟨aa_t2 44 rfl, rfl⟩, rfl, rfl⟩
theorem lk_X11_84 : aa_LI RX11 84 mX0_init := ⟨⟨aa_t2 61 rfl, rfl⟩, ⟨aa_t2 62 rfl, rfl⟩, rfl, rfl⟩
theorem lk_X11_97 : aa_LV RX11 97 mX7_append := ⟨⟨aa_t2 148 rfl, rfl⟩, ⟨aa_t2 149 rfl, rfl⟩, ⟨aa_t2 150 rfl, rfl⟩⟩
theorem lk_X11_101 : aa_LV RX11 101 mX7_cut := ⟨⟨aa_t2 156 rfl, rfl⟩, ⟨aa_t2 157 rfl, rfl⟩, ⟨aa_t2 158 rfl, rfl⟩⟩
theorem lk_X11_105 : aa_LV RX11 105 mX7_read := ⟨⟨aa_t2 164 rfl, rfl⟩, ⟨aa_t2 165 rfl, rfl⟩, ⟨aa_t2 166 rfl, rfl⟩⟩
theorem lk_X11_109 : aa_LV RX11 109 mX7_layOn := ⟨⟨aa_t2 218 rfl, rfl⟩, ⟨aa_t2 219 rfl, rfl⟩, ⟨aa_t2 220 rfl, rfl⟩⟩
theorem lk_X11_112 : aa_LV RX11 112 mX2_start := ⟨⟨aa_t3 6 rfl, rfl⟩, ⟨aa_t3 7 rfl, rfl⟩, ⟨aa_t3 8 rfl, rfl⟩⟩
theorem lk_X11_115 : aa_LV RX11 115 mX6_has := ⟨⟨aa_t3 80 rfl, rfl⟩, ⟨aa_t3 43 rfl, rfl⟩, ⟨aa_t3 44 rfl, rfl⟩⟩
theorem lk_X11_125 : aa_LV RX11 125 mX6_worthAt := ⟨⟨aa_t6 82 rfl, rfl⟩, ⟨aa_t5 25 rfl, rfl⟩, ⟨aa_t5 26 rfl, rfl⟩⟩
theorem lk_X11_128 : aa_LV RX11 128 mX6_heirsOf := ⟨⟨aa_t6 83 rfl, rfl⟩, ⟨aa_t6 84 rfl, rfl⟩, ⟨aa_t6 85 rfl, rfl⟩⟩
theorem lk_X11_131 : aa_LV RX11 131 mX6_under := ⟨⟨aa_t6 87 rfl, rfl⟩, ⟨aa_t4 117 rfl, rfl⟩, ⟨aa_t4 118 rfl, rfl⟩⟩
theorem lk_X11_134 : aa_LV RX11 134 mX6_above := ⟨⟨aa_t6 88 rfl, rfl⟩, ⟨aa_t4 236 rfl, rfl⟩, ⟨aa_t4 237 rfl, rfl⟩⟩
theorem lk_X11_137 : aa_LV RX11 137 mX6_isBack := ⟨⟨aa_t6 89 rfl, rfl⟩, ⟨aa_t6 90 rfl, rfl⟩, ⟨aa_t6 91 rfl, rfl⟩⟩
theorem lk_X11_140 : aa_LV RX11 140 mX2_state := ⟨⟨aa_t3 60 rfl, rfl⟩, ⟨aa_t3 61 rfl, rfl⟩, ⟨aa_t3 62 rfl, rfl⟩⟩
theorem lk_X11_144 : aa_LV RX11 144 mX2_ending := ⟨⟨aa_t3 18 rfl, rfl⟩, ⟨aa_t3 19 rfl, rfl⟩, ⟨aa_t3 20 rfl, rfl⟩⟩
theorem lk_X11_147 : aa_LV RX11 147 mX2_endBy := ⟨⟨aa_t3 22 rfl, rfl⟩, ⟨aa_t3 23 rfl, rfl⟩, ⟨aa_t3 24 rfl, rfl⟩⟩
theorem lk_X11_151 : aa_LV RX11 151 mX6_things := ⟨⟨aa_t3 30 rfl, rfl⟩, ⟨aa_t2 169 rfl, rfl⟩, ⟨aa_t2 170 rfl, rfl⟩⟩
theorem lk_X11_154 : aa_LS RX11 154 mX11_entry := ⟨⟨aa_t3 31 rfl, rfl⟩, ⟨aa_t3 32 rfl, rfl⟩⟩
theorem lk_X11_158 : aa_LV RX11 158 mX6_setWorth := ⟨⟨aa_t3 38 rfl, rfl⟩, ⟨aa_t3 39 rfl, rfl⟩, ⟨aa_t3 40 rfl, rfl⟩⟩
theorem lk_X11_162 : aa_LV RX11 162 mX6_addUp := ⟨⟨aa_t3 46 rfl, rfl⟩, ⟨aa_t3 3 rfl, rfl⟩, ⟨aa_t3 4 rfl, rfl⟩⟩
theorem lk_X11_165 : aa_LV RX11 165 mX10_forget := ⟨⟨aa_t3 47 rfl, rfl⟩, ⟨aa_t3 48 rfl, rfl⟩, ⟨aa_t3 49 rfl, rfl⟩⟩
theorem lk_X11_168 : aa_LV RX11 168 mX6_full := ⟨⟨aa_t3 51 rfl, rfl⟩, ⟨aa_t2 235 rfl, rfl⟩, ⟨aa_t2 236 rfl, rfl⟩⟩
theorem lk_X11_171 : aa_LV RX11 171 mX6_worthOf := ⟨⟨aa_t3 52 rfl, rfl⟩, ⟨aa_t3 53 rfl, rfl⟩, ⟨aa_t3 54 rfl, rfl⟩⟩
theorem lk_X11_174 : aa_LS RX11 174 mJ9_min_7cf53 := ⟨⟨aa_t3 34 rfl, rfl⟩, ⟨aa_t2 177 rfl, rfl⟩⟩
theorem lk_X11_179 : aa_LS RX11 179 mJ9_max_7cf53 := ⟨⟨aa_t3 35 rfl, rfl⟩, ⟨aa_t3 36 rfl, rfl⟩⟩
theorem lk_X11_182 : aa_LV RX11 182 mX6_moves := ⟨⟨aa_t3 64 rfl, rfl⟩, ⟨aa_t3 65 rfl, rfl⟩, ⟨aa_t3 66 rfl, rfl⟩⟩
theorem lk_X11_185 : aa_LV RX11 185 mX6_named := ⟨⟨aa_t3 72 rfl, rfl⟩, ⟨aa_t3 73 rfl, rfl⟩, ⟨aa_t3 74 rfl, rfl⟩⟩
theorem lk_X11_188 : aa_LV RX11 188 mX6_step := ⟨⟨aa_t3 81 rfl, rfl⟩, ⟨aa_t3 82 rfl, rfl⟩, ⟨aa_t3 83 rfl, rfl⟩⟩
theorem lk_X11_191 : aa_LV RX11 191 mX2_turn := ⟨⟨aa_t3 85 rfl, rfl⟩, ⟨aa_t3 86 rfl, rfl⟩, ⟨aa_t3 87 rfl, rfl⟩⟩
theorem lk_X11_194 : aa_LV RX11 194 mX6_can := ⟨⟨aa_t3 89 rfl, rfl⟩, ⟨aa_t3 90 rfl, rfl⟩, ⟨aa_t3 91 rfl, rfl⟩⟩
theorem lk_X11_198 : aa_LV RX11 198 mX2_go := ⟨⟨aa_t3 98 rfl, rfl⟩, ⟨aa_t3 99 rfl, rfl⟩, ⟨aa_t3 100 rfl, rfl⟩⟩
theorem lk_X11_201 : aa_LV RX11 201 mX2_goBack := ⟨⟨aa_t3 110 rfl, rfl⟩, ⟨aa_t3 111 rfl, rfl⟩, ⟨aa_t3 112 rfl, rfl⟩⟩
theorem lk_X11_204 : aa_LV RX11 204 mX2_made := ⟨⟨aa_t3 118 rfl, rfl⟩, ⟨aa_t3 119 rfl, rfl⟩, ⟨aa_t3 120 rfl, rfl⟩⟩
theorem lk_X11_207 : aa_LV RX11 207 mX11_tell_ := ⟨⟨aa_t3 126 rfl, rfl⟩, ⟨aa_t3 128 rfl, rfl⟩, ⟨aa_tp 10 rfl, rfl⟩⟩
theorem lk_X11_211 : aa_LV RX11 211 mX6_first := ⟨⟨aa_t3 130 rfl, rfl⟩, ⟨aa_t3 11 rfl, rfl⟩, ⟨aa_t3 12 rfl, rfl⟩⟩
theorem lk_X11_214 : aa_LV RX11 214 mX6_behind := ⟨⟨aa_t3 131 rfl, rfl⟩, ⟨aa_t3 103 rfl, rfl⟩, ⟨aa_t3 104 rfl, rfl⟩⟩
theorem lk_X11_217 : aa_LV RX11 217 mX2_takenBy := ⟨⟨aa_t3 136 rfl, rfl⟩, ⟨aa_t3 137 rfl, rfl⟩, ⟨aa_t3 138 rfl, rfl⟩⟩
theorem lk_X11_220 : aa_LV RX11 220 mX9_winningSteps := ⟨⟨aa_t3 145 rfl, rfl⟩, ⟨aa_t3 146 rfl, rfl⟩, ⟨aa_t3 147 rfl, rfl⟩⟩
theorem lk_X11_224 : aa_LV RX11 224 mX11_tell := ⟨⟨aa_t3 181 rfl, rfl⟩, ⟨aa_t3 183 rfl, rfl⟩, ⟨aa_tp 12 rfl, rfl⟩⟩
theorem lk_X11_227 : aa_LV RX11 227 mX11_winner := ⟨⟨aa_t3 185 rfl, rfl⟩, ⟨aa_t3 187 rfl, rfl⟩, ⟨aa_tp 13 rfl, rfl⟩⟩
theorem lk_X11_230 : aa_LV RX11 230 mX9_victory := ⟨⟨aa_t3 189 rfl, rfl⟩, ⟨aa_t3 153 rfl, rfl⟩, ⟨aa_t3 154 rfl, rfl⟩⟩
theorem lk_X11_233 : aa_LV RX11 233 mX9_firstSoonest := ⟨⟨aa_t3 198 rfl, rfl⟩, ⟨aa_t3 199 rfl, rfl⟩, ⟨aa_t3 200 rfl, rfl⟩⟩
theorem lk_X11_236 : aa_LV RX11 236 mX6_moveOf := ⟨⟨aa_t3 215 rfl, rfl⟩, ⟨aa_t3 216 rfl, rfl⟩, ⟨aa_t3 217 rfl, rfl⟩⟩
theorem lk_X11_239 : aa_LV RX11 239 mX9_soonest := ⟨⟨aa_t3 219 rfl, rfl⟩, ⟨aa_t3 203 rfl, rfl⟩, ⟨aa_t3 204 rfl, rfl⟩⟩
theorem lk_X11_242 : aa_LV RX11 242 mX9_reach := ⟨⟨aa_t3 228 rfl, rfl⟩, ⟨aa_t3 229 rfl, rfl⟩, ⟨aa_t3 230 rfl, rfl⟩⟩
theorem lk_X11_245 : aa_LV RX11 245 mX9_lostReached := ⟨⟨aa_t3 236 rfl, rfl⟩, ⟨aa_t3 237 rfl, rfl⟩, ⟨aa_t3 238 rfl, rfl⟩⟩
theorem lk_X11_248 : aa_LV RX11 248 mX9_games := ⟨⟨aa_t4 4 rfl, rfl⟩, ⟨aa_t4 5 rfl, rfl⟩, ⟨aa_t4 6 rfl, rfl⟩⟩
theorem lk_X11_252 : aa_LS RX11 252 mJ6_bitCount_0f7a4 := ⟨⟨aa_t4 23 rfl, rfl⟩, ⟨aa_t4 14 rfl, rfl⟩⟩
theorem lk_X11_257 : aa_LS RX11 257 mX6_lowest := ⟨⟨aa_t4 24 rfl, rfl⟩, ⟨aa_t4 25 rfl, rfl⟩⟩
theorem lk_X11_260 : aa_LV RX11 260 mX6_takes := ⟨⟨aa_t4 32 rfl, rfl⟩, ⟨aa_t3 69 rfl, rfl⟩, ⟨aa_t3 70 rfl, rfl⟩⟩
theorem lk_X11_263 : aa_LV RX11 263 mX6_lowestOf := ⟨⟨aa_t4 33 rfl, rfl⟩, ⟨aa_t4 34 rfl, rfl⟩, ⟨aa_t4 35 rfl, rfl⟩⟩
theorem lk_X11_266 : aa_LV RX11 266 mX3_valuesBehind := ⟨⟨aa_t4 41 rfl, rfl⟩, ⟨aa_t4 42 rfl, rfl⟩, ⟨aa_t4 43 rfl, rfl⟩⟩
theorem lk_X11_269 : aa_LV RX11 269 mX3_valueOf := ⟨⟨aa_t4 72 rfl, rfl⟩, ⟨aa_t4 49 rfl, rfl⟩, ⟨aa_t4 50 rfl, rfl⟩⟩
theorem lk_X11_272 : aa_LV RX11 272 mX6_justThese := ⟨⟨aa_t4 77 rfl, rfl⟩, ⟨aa_t4 78 rfl, rfl⟩, ⟨aa_t4 79 rfl, rfl⟩⟩
theorem lk_X11_275 : aa_LV RX11 275 mX11_isThere := ⟨⟨aa_t4 85 rfl, rfl⟩, ⟨aa_t4 87 rfl, rfl⟩, ⟨aa_tp 19 rfl, rfl⟩⟩
theorem lk_X11_278 : aa_LV RX11 278 mX2_there := ⟨⟨aa_t4 89 rfl, rfl⟩, ⟨aa_t4 90 rfl, rfl⟩, ⟨aa_t4 91 rfl, rfl⟩⟩
theorem lk_X11_281 : aa_LV RX11 281 mX6_heapOf := ⟨⟨aa_t4 94 rfl, rfl⟩, ⟨aa_t2 239 rfl, rfl⟩, ⟨aa_t3 0 rfl, rfl⟩⟩
theorem lk_X11_284 : aa_LV RX11 284 mX3_firstTo := ⟨⟨aa_t4 103 rfl, rfl⟩, ⟨aa_t4 104 rfl, rfl⟩, ⟨aa_t4 105 rfl, rfl⟩⟩
theorem lk_X11_287 : aa_LV RX11 287 mX6_backs := ⟨⟨aa_t4 111 rfl, rfl⟩, ⟨aa_t2 173 rfl, rfl⟩, ⟨aa_t2 174 rfl, rfl⟩⟩
theorem lk_X11_290 : aa_LV RX11 290 mX3_byJoining := ⟨⟨aa_t4 112 rfl, rfl⟩, ⟨aa_t4 113 rfl, rfl⟩, ⟨aa_t4 114 rfl, rfl⟩⟩
theorem lk_X11_293 : aa_LV RX11 293 mX3_compare := ⟨⟨aa_t4 125 rfl, rfl⟩, ⟨aa_t4 126 rfl, rfl⟩, ⟨aa_t4 127 rfl, rfl⟩⟩
theorem lk_X11_296 : aa_LS RX11 296 mX8_packed := ⟨⟨aa_t4 144 rfl, rfl⟩, ⟨aa_t4 145 rfl, rfl⟩⟩
theorem lk_X11_300 : aa_LV RX11 300 mX8_winningStone := ⟨⟨aa_t4 147 rfl, rfl⟩, ⟨aa_t4 148 rfl, rfl⟩, ⟨aa_t4 149 rfl, rfl⟩⟩
theorem lk_X11_305 : aa_LV RX11 305 mX8_victory := ⟨⟨aa_t4 167 rfl, rfl⟩, ⟨aa_t4 152 rfl, rfl⟩, ⟨aa_t4 153 rfl, rfl⟩⟩
theorem lk_X11_307 : aa_LV RX11 307 mX10_firstBest := ⟨⟨aa_t4 172 rfl, rfl⟩, ⟨aa_t4 173 rfl, rfl⟩, ⟨aa_t4 174 rfl, rfl⟩⟩
theorem lk_X11_310 : aa_LV RX11 310 mX10_more := ⟨⟨aa_t4 196 rfl, rfl⟩, ⟨aa_t4 177 rfl, rfl⟩, ⟨aa_t4 178 rfl, rfl⟩⟩
theorem lk_X11_313 : aa_LV RX11 313 mX10_greediest := ⟨⟨aa_t4 205 rfl, rfl⟩, ⟨aa_t4 206 rfl, rfl⟩, ⟨aa_t4 207 rfl, rfl⟩⟩
theorem lk_X11_316 : aa_LV RX11 316 mX6_withAbove := ⟨⟨aa_t4 215 rfl, rfl⟩, ⟨aa_t4 216 rfl, rfl⟩, ⟨aa_t4 217 rfl, rfl⟩⟩
theorem lk_X11_319 : aa_LV RX11 319 mX11_isTooMuch := ⟨⟨aa_t4 223 rfl, rfl⟩, ⟨aa_t4 225 rfl, rfl⟩, ⟨aa_tp 26 rfl, rfl⟩⟩
theorem lk_X11_322 : aa_LV RX11 322 mX1_meanMore := ⟨⟨aa_t4 227 rfl, rfl⟩, ⟨aa_t4 228 rfl, rfl⟩, ⟨aa_t4 229 rfl, rfl⟩⟩
theorem lk_X11_328 : aa_LV RX11 328 mX11_tellFraction := ⟨⟨aa_t5 39 rfl, rfl⟩, ⟨aa_t5 41 rfl, rfl⟩, ⟨aa_tp 32 rfl, rfl⟩⟩
theorem lk_X11_331 : aa_LV RX11 331 mX5_like := ⟨⟨aa_t5 56 rfl, rfl⟩, ⟨aa_t5 57 rfl, rfl⟩, ⟨aa_t5 58 rfl, rfl⟩⟩
theorem lk_X11_334 : aa_LV RX11 334 mX5_firstStep := ⟨⟨aa_t5 67 rfl, rfl⟩, ⟨aa_t5 68 rfl, rfl⟩, ⟨aa_t5 69 rfl, rfl⟩⟩
theorem lk_X11_337 : aa_LV RX11 337 mX5_keeper := ⟨⟨aa_t5 89 rfl, rfl⟩, ⟨aa_t5 72 rfl, rfl⟩, ⟨aa_t5 73 rfl, rfl⟩⟩
theorem lk_X11_340 : aa_LV RX11 340 mX5_keeperWithout := ⟨⟨aa_t5 98 rfl, rfl⟩, ⟨aa_t5 99 rfl, rfl⟩, ⟨aa_t5 100 rfl, rfl⟩⟩
theorem lk_X11_343 : aa_LV RX11 343 mX1_hire := ⟨⟨aa_t5 111 rfl, rfl⟩, ⟨aa_t5 112 rfl, rfl⟩, ⟨aa_t5 113 rfl, rfl⟩⟩
theorem lk_X11_347 : aa_LV RX11 347 mX1_chance := ⟨⟨aa_t5 115 rfl, rfl⟩, ⟨aa_t5 116 rfl, rfl⟩, ⟨aa_t5 117 rfl, rfl⟩⟩
theorem lk_X11_352 : aa_LV RX11 352 mX0_fewest := ⟨⟨aa_t5 133 rfl, rfl⟩, ⟨aa_t5 134 rfl, rfl⟩, ⟨aa_t5 135 rfl, rfl⟩⟩
theorem lk_X11_355 : aa_LV RX11 355 mX0_firstChange := ⟨⟨aa_t5 203 rfl, rfl⟩, ⟨aa_t5 204 rfl, rfl⟩, ⟨aa_t5 205 rfl, rfl⟩⟩
theorem lk_X11_358 : aa_LV RX11 358 mX0_secondChange := ⟨⟨aa_t5 207 rfl, rfl⟩, ⟨aa_t5 208 rfl, rfl⟩, ⟨aa_t5 209 rfl, rfl⟩⟩
theorem lk_X11_361 : aa_LV RX11 361 mX0_turning := ⟨⟨aa_t5 215 rfl, rfl⟩, ⟨aa_t5 216 rfl, rfl⟩, ⟨aa_t5 217 rfl, rfl⟩⟩
theorem lk_X11_364 : aa_LS RX11 364 mJ13_bitCount_95d88 := ⟨⟨aa_t5 219 rfl, rfl⟩, ⟨aa_t5 220 rfl, rfl⟩⟩
theorem lk_X11_369 : aa_LV RX11 369 mX2_copy := ⟨⟨aa_t5 229 rfl, rfl⟩, ⟨aa_t5 230 rfl, rfl⟩, ⟨aa_t5 231 rfl, rfl⟩⟩
theorem lk_X11_373 : aa_LV RX11 373 mX6_putBack := ⟨⟨aa_t6 1 rfl, rfl⟩, ⟨aa_t6 2 rfl, rfl⟩, ⟨aa_t6 3 rfl, rfl⟩⟩
theorem lk_X11_376 : aa_LV RX11 376 mX7_length := ⟨⟨aa_t6 5 rfl, rfl⟩, ⟨aa_t6 6 rfl, rfl⟩, ⟨aa_t6 7 rfl, rfl⟩⟩
theorem lk_X11_381 : aa_LS RX11 381 mJ9_abs_067f4 := ⟨⟨aa_t5 43 rfl, rfl⟩, ⟨aa_t5 44 rfl, rfl⟩⟩
theorem lk_X11_385 : aa_LS RX11 385 mX11_commonDivisor := ⟨⟨aa_t5 46 rfl, rfl⟩, ⟨aa_t5 47 rfl, rfl⟩⟩
theorem lk_X11_389 : aa_LS RX11 389 mJ9_max_f86c9 := ⟨⟨aa_t5 49 rfl, rfl⟩, ⟨aa_t5 50 rfl, rfl⟩⟩
theorem lk_X12_21 : aa_LS RX12 21 mX12_in := ⟨⟨aa_t6 113 rfl, rfl⟩, ⟨aa_t6 114 rfl, rfl⟩⟩
theorem lk_X12_31 : aa_LS RX12 31 mX12_flag := ⟨⟨aa_t6 140 rfl, rfl⟩, ⟨aa_t6 141 rfl, rfl⟩⟩
theorem lk_X12_39 : aa_LV RX12 39 mX12_isDigit := ⟨⟨aa_t6 130 rfl, rfl⟩, ⟨aa_t6 132 rfl, rfl⟩, ⟨aa_tp 52 rfl, rfl⟩⟩
theorem lk_X12_43 : aa_LV RX12 43 mX12_number := ⟨⟨aa_t6 126 rfl, rfl⟩, ⟨aa_t6 128 rfl, rfl⟩, ⟨aa_tp 51 rfl, rfl⟩⟩
theorem lk_X12_50 : aa_LV RX12 50 mX12_takes := ⟨⟨aa_t6 136 rfl, rfl⟩, ⟨aa_t6 138 rfl, rfl⟩, ⟨aa_tp 53 rfl, rfl⟩⟩
theorem lk_X12_60 : aa_LV RX12 60 mX12_readsOn := ⟨⟨aa_t6 143 rfl, rfl⟩, ⟨aa_t6 145 rfl, rfl⟩, ⟨aa_tp 54 rfl, rfl⟩⟩
theorem lk_X12_72 : aa_LS RX12 72 mJ9_min_7cf53 := ⟨⟨aa_t6 120 rfl, rfl⟩, ⟨aa_t2 177 rfl, rfl⟩⟩
theorem lk_X12_81 : aa_LV RX12 81 mX12_readsThing := ⟨⟨aa_t6 121 rfl, rfl⟩, ⟨aa_t6 123 rfl, rfl⟩, ⟨aa_tp 50 rfl, rfl⟩⟩
theorem lk_X12_84 : aa_LV RX12 84 mX12_rises := ⟨⟨aa_t6 147 rfl, rfl⟩, ⟨aa_t6 149 rfl, rfl⟩, ⟨aa_tp 55 rfl, rfl⟩⟩
theorem lk_X12_88 : aa_LV RX12 88 mX12_begins := ⟨⟨aa_t6 154 rfl, rfl⟩, ⟨aa_t6 156 rfl, rfl⟩, ⟨aa_tp 56 rfl, rfl⟩⟩
theorem lk_X12_95 : aa_LS RX12 95 mX12_has := ⟨⟨aa_t6 151 rfl, rfl⟩, ⟨aa_t6 152 rfl, rfl⟩⟩
theorem lk_X12_108 : aa_LV RX12 108 mX12_isThing := ⟨⟨aa_t6 162 rfl, rfl⟩, ⟨aa_t6 164 rfl, rfl⟩, ⟨aa_tp 57 rfl, rfl⟩⟩
theorem lk_X12_113 : aa_LV RX12 113 mX12_refuse := ⟨⟨aa_t6 167 rfl, rfl⟩, ⟨aa_t6 169 rfl, rfl⟩, ⟨aa_tp 58 rfl, rfl⟩⟩
theorem lk_X12_117 : aa_LV RX12 117 mX12_backOf := ⟨⟨aa_t6 171 rfl, rfl⟩, ⟨aa_t6 173 rfl, rfl⟩, ⟨aa_tp 59 rfl, rfl⟩⟩
theorem lk_X12_121 : aa_LV RX12 121 mX12_isThere := ⟨⟨aa_t6 175 rfl, rfl⟩, ⟨aa_t6 177 rfl, rfl⟩, ⟨aa_tp 60 rfl, rfl⟩⟩
theorem lk_X12_129 : aa_LS RX12 129 mJ9_max_7cf53 := ⟨⟨aa_t6 188 rfl, rfl⟩, ⟨aa_t3 36 rfl, rfl⟩⟩
theorem lk_X12_134 : aa_LV RX12 134 mX12_canPut := ⟨⟨aa_t6 203 rfl, rfl⟩, ⟨aa_t6 205 rfl, rfl⟩, ⟨aa_tp 63 rfl, rfl⟩⟩
theorem lk_X12_137 : aa_LV RX12 137 mX12_after := ⟨⟨aa_t6 211 rfl, rfl⟩, ⟨aa_t6 213 rfl, rfl⟩, ⟨aa_tp 64 rfl, rfl⟩⟩
theorem lk_X12_140 : aa_LV RX12 140 mX12_can := ⟨⟨aa_t6 198 rfl, rfl⟩, ⟨aa_t6 200 rfl, rfl⟩, ⟨aa_tp 62 rfl, rfl⟩⟩
theorem lk_X12_146 : aa_LV RX12 146 mX12_movesOf := ⟨⟨aa_t6 194 rfl, rfl⟩, ⟨aa_t6 196 rfl, rfl⟩, ⟨aa_tp 61 rfl, rfl⟩⟩
theorem lk_X12_160 : aa_LV RX12 160 mX12_worthOf := ⟨⟨aa_t6 228 rfl, rfl⟩, ⟨aa_t6 230 rfl, rfl⟩, ⟨aa_tp 65 rfl, rfl⟩⟩
theorem lk_X12_163 : aa_LV RX12 163 mX12_enters := ⟨⟨aa_t6 232 rfl, rfl⟩, ⟨aa_t6 234 rfl, rfl⟩, ⟨aa_tp 66 rfl, rfl⟩⟩
theorem lk_X12_177 : aa_LV RX12 177 mX12_placeOf := ⟨⟨aa_t7 16 rfl, rfl⟩, ⟨aa_t7 18 rfl, rfl⟩, ⟨aa_tp 70 rfl, rfl⟩⟩
theorem lk_X12_180 : aa_LV RX12 180 mX12_isKnown := ⟨⟨aa_t7 21 rfl, rfl⟩, ⟨aa_t7 23 rfl, rfl⟩, ⟨aa_tp 71 rfl, rfl⟩⟩
theorem lk_X12_183 : aa_LV RX12 183 mX12_win := ⟨⟨aa_t7 12 rfl, rfl⟩, ⟨aa_t7 14 rfl, rfl⟩, ⟨aa_tp 69 rfl, rfl⟩⟩
theorem lk_X12_186 : aa_LV RX12 186 mX12_keeps := ⟨⟨aa_t7 25 rfl, rfl⟩, ⟨aa_t7 27 rfl, rfl⟩, ⟨aa_tp 72 rfl, rfl⟩⟩
theorem lk_X12_189 : aa_LV RX12 189 mX12_asks := ⟨⟨aa_t7 8 rfl, rfl⟩, ⟨aa_t7 10 rfl, rfl⟩, ⟨aa_tp 68 rfl, rfl⟩⟩
theorem lk_X12_192 : aa_LV RX12 192 mX12_winner := ⟨⟨aa_t7 4 rfl, rfl⟩, ⟨aa_t7 6 rfl, rfl⟩, ⟨aa_tp 67 rfl, rfl⟩⟩
theorem lk_X12_195 : aa_LV RX12 195 mX12_lasts := ⟨⟨aa_t7 37 rfl, rfl⟩, ⟨aa_t7 39 rfl, rfl⟩, ⟨aa_tp 73 rfl, rfl⟩⟩
theorem lk_X12_212 : aa_LS RX12 212 mJ6_bitCount_0f7a4 := ⟨⟨aa_t7 58 rfl, rfl⟩, ⟨aa_t4 14 rfl, rfl⟩⟩
theorem lk_X12_217 : aa_LS RX12 217 mJ6_numberOfTrailingZeros_0f7a4 := ⟨⟨aa_t7 59 rfl, rfl⟩, ⟨aa_t7 60 rfl, rfl⟩⟩
theorem lk_X12_220 : aa_LV RX12 220 mX12_moves := ⟨⟨aa_t7 67 rfl, rfl⟩, ⟨aa_t7 69 rfl, rfl⟩, ⟨aa_tp 74 rfl, rfl⟩⟩
theorem lk_X12_224 : aa_LV RX12 224 mX12_valueOf := ⟨⟨aa_t7 75 rfl, rfl⟩, ⟨aa_t7 77 rfl, rfl⟩, ⟨aa_tp 75 rfl, rfl⟩⟩
theorem lk_X12_227 : aa_LV RX12 227 mX12_leadsTo := ⟨⟨aa_t7 79 rfl, rfl⟩, ⟨aa_t7 81 rfl, rfl⟩, ⟨aa_tp 76 rfl, rfl⟩⟩
theorem lk_X12_231 : aa_LV RX12 231 mX12_areThings := ⟨⟨aa_t7 87 rfl, rfl⟩, ⟨aa_t7 89 rfl, rfl⟩, ⟨aa_tp 77 rfl, rfl⟩⟩
theorem lk_X12_234 : aa_LV RX12 234 mX12_aloneOf := ⟨⟨aa_t7 91 rfl, rfl⟩, ⟨aa_t7 93 rfl, rfl⟩, ⟨aa_tp 78 rfl, rfl⟩⟩
theorem lk_X12_237 : aa_LV RX12 237 mX12_heapOf := ⟨⟨aa_t7 100 rfl, rfl⟩, ⟨aa_t7 102 rfl, rfl⟩, ⟨aa_tp 79 rfl, rfl⟩⟩
theorem lk_X12_242 : aa_LV RX12 242 mX12_joins := ⟨⟨aa_t7 117 rfl, rfl⟩, ⟨aa_t7 119 rfl, rfl⟩, ⟨aa_tp 80 rfl, rfl⟩⟩
theorem lk_X12_248 : aa_LV RX12 248 mX12_pairs := ⟨⟨aa_t7 125 rfl, rfl⟩, ⟨aa_t7 127 rfl, rfl⟩, ⟨aa_tp 81 rfl, rfl⟩⟩
theorem lk_X12_251 : aa_LS RX12 251 mX12_rowOf := ⟨⟨aa_t7 138 rfl, rfl⟩, ⟨aa_t7 139 rfl, rfl⟩⟩
theorem lk_X12_254 : aa_LS RX12 254 mX12_bites := ⟨⟨aa_t7 141 rfl, rfl⟩, ⟨aa_t7 142 rfl, rfl⟩⟩
theorem lk_X12_257 : aa_LV RX12 257 mX12_winWall := ⟨⟨aa_t7 134 rfl, rfl⟩, ⟨aa_t7 136 rfl, rfl⟩, ⟨aa_tp 82 rfl, rfl⟩⟩
theorem lk_X12_262 : aa_LV RX12 262 mX12_more := ⟨⟨aa_t7 148 rfl, rfl⟩, ⟨aa_t7 150 rfl, rfl⟩, ⟨aa_tp 83 rfl, rfl⟩⟩
theorem lk_X12_265 : aa_LV RX12 265 mX12_reach := ⟨⟨aa_t7 164 rfl, rfl⟩, ⟨aa_t7 166 rfl, rfl⟩, ⟨aa_tp 84 rfl, rfl⟩⟩
theorem lk_X12_274 : aa_LS RX12 274 mX12_wholeOfMean := ⟨⟨aa_t7 176 rfl, rfl⟩, ⟨aa_t7 177 rfl, rfl⟩⟩
theorem lk_X12_278 : aa_LV RX12 278 mX12_means := ⟨⟨aa_t7 172 rfl, rfl⟩, ⟨aa_t7 174 rfl, rfl⟩, ⟨aa_tp 85 rfl, rfl⟩⟩
theorem lk_X12_282 : aa_LS RX12 282 mJ9_abs_067f4 := ⟨⟨aa_t7 181 rfl, rfl⟩, ⟨aa_t5 44 rfl, rfl⟩⟩
theorem lk_X12_286 : aa_LS RX12 286 mX12_common := ⟨⟨aa_t7 182 rfl, rfl⟩, ⟨aa_t7 183 rfl, rfl⟩⟩
theorem lk_X12_293 : aa_LV RX12 293 mX12_keeper := ⟨⟨aa_t7 193 rfl, rfl⟩, ⟨aa_t7 195 rfl, rfl⟩, ⟨aa_tp 86 rfl, rfl⟩⟩
theorem lk_X12_296 : aa_LV RX12 296 mX12_liking := ⟨⟨aa_t7 197 rfl, rfl⟩, ⟨aa_t7 199 rfl, rfl⟩, ⟨aa_tp 87 rfl, rfl⟩⟩
theorem lk_X12_302 : aa_LV RX12 302 mX12_keeperOfTwo := ⟨⟨aa_t7 209 rfl, rfl⟩, ⟨aa_t7 211 rfl, rfl⟩, ⟨aa_tp 88 rfl, rfl⟩⟩
theorem lk_X12_308 : aa_LS RX12 308 mX12_whole := ⟨⟨aa_t7 222 rfl, rfl⟩, ⟨aa_t7 223 rfl, rfl⟩⟩
theorem lk_X12_311 : aa_LV RX12 311 mX12_chance := ⟨⟨aa_t7 218 rfl, rfl⟩, ⟨aa_t7 220 rfl, rfl⟩, ⟨aa_tp 89 rfl, rfl⟩⟩
theorem lk_X12_315 : aa_LS RX12 315 mJ9_max_f86c9 := ⟨⟨aa_t7 225 rfl, rfl⟩, ⟨aa_t5 50 rfl, rfl⟩⟩
theorem lk_X12_317 : aa_LV RX12 317 mX12_winWide := ⟨⟨aa_t8 2 rfl, rfl⟩, ⟨aa_t8 4 rfl, rfl⟩, ⟨aa_tp 93 rfl, rfl⟩⟩
theorem lk_X12_326 : aa_LV RX12 326 mX12_clears := ⟨⟨aa_t7 234 rfl, rfl⟩, ⟨aa_t7 236 rfl, rfl⟩, ⟨aa_tp 91 rfl, rfl⟩⟩
theorem lk_X12_329 : aa_LV RX12 329 mX12_changes := ⟨⟨aa_t8 16 rfl, rfl⟩, ⟨aa_t8 18 rfl, rfl⟩, ⟨aa_tp 95 rfl, rfl⟩⟩
theorem lk_X12_332 : aa_LV RX12 332 mX12_canChange := ⟨⟨aa_t8 20 rfl, rfl⟩, ⟨aa_t8 22 rfl, rfl⟩, ⟨aa_tp 96 rfl, rfl⟩⟩
theorem lk_X12_335 : aa_LV RX12 335 mX12_winsNow := ⟨⟨aa_t7 238 rfl, rfl⟩, ⟨aa_t8 0 rfl, rfl⟩, ⟨aa_tp 92 rfl, rfl⟩⟩
theorem lk_X12_344 : aa_LV RX12 344 mX12_isFew := ⟨⟨aa_t7 230 rfl, rfl⟩, ⟨aa_t7 232 rfl, rfl⟩, ⟨aa_tp 90 rfl, rfl⟩⟩
theorem lk_X12_347 : aa_LS RX12 347 mX12_isChange := ⟨⟨aa_t8 6 rfl, rfl⟩, ⟨aa_t8 7 rfl, rfl⟩⟩
theorem lk_X12_350 : aa_LV RX12 350 mX12_turnsBy := ⟨⟨aa_t8 12 rfl, rfl⟩, ⟨aa_t8 14 rfl, rfl⟩, ⟨aa_tp 94 rfl, rfl⟩⟩
theorem lk_X12_364 : aa_LV RX12 364 mX12_putBack := ⟨⟨aa_t8 40 rfl, rfl⟩, ⟨aa_t8 42 rfl, rfl⟩, ⟨aa_tp 97 rfl, rfl⟩⟩
theorem lk_X2_29 : aa_LV RX2 29 mX6_first := ⟨⟨aa_t3 10 rfl, rfl⟩, ⟨aa_t3 11 rfl, rfl⟩, ⟨aa_t3 12 rfl, rfl⟩⟩
theorem lk_X2_35 : aa_LV RX2 35 mX6_full := ⟨⟨aa_t4 93 rfl, rfl⟩, ⟨aa_t2 235 rfl, rfl⟩, ⟨aa_t2 236 rfl, rfl⟩⟩
theorem lk_X2_38 : aa_LV RX2 38 mX6_behind := ⟨⟨aa_t3 102 rfl, rfl⟩, ⟨aa_t3 103 rfl, rfl⟩, ⟨aa_t3 104 rfl, rfl⟩⟩
theorem lk_X2_42 : aa_LV RX2 42 mX6_worthOf := ⟨⟨aa_t3 140 rfl, rfl⟩, ⟨aa_t3 53 rfl, rfl⟩, ⟨aa_t3 54 rfl, rfl⟩⟩
theorem lk_X3_11 : aa_LN RX3 11 mX4_init "AllAboveIt" := ⟨by decide +kernel, ⟨aa_t1 161 rfl, rfl⟩, rfl, rfl⟩
theorem lk_X3_35 : aa_LV RX3 35 mX4_fit := ⟨⟨aa_t4 52 rfl, rfl⟩, ⟨aa_t3 157 rfl, rfl⟩, ⟨aa_t3 158 rfl, rfl⟩⟩
theorem lk_X3_39 : aa_LV RX3 39 mX6_heapsInAll := ⟨⟨aa_t4 53 rfl, rfl⟩, ⟨aa_t4 54 rfl, rfl⟩, ⟨aa_t4 55 rfl, rfl⟩⟩
theorem lk_X3_45 : aa_LV RX3 45 mX6_inHeap := ⟨⟨aa_t4 57 rfl, rfl⟩, ⟨aa_t4 58 rfl, rfl⟩, ⟨aa_t4 59 rfl, rfl⟩⟩
theorem lk_X3_49 : aa_LV RX3 49 mX3_valueFrom := ⟨⟨aa_t4 65 rfl, rfl⟩, ⟨aa_t4 67 rfl, rfl⟩, ⟨aa_tp 18 rfl, rfl⟩⟩
theorem lk_X3_52 : aa_LV RX3 52 mX4_at := ⟨⟨aa_t4 69 rfl, rfl⟩, ⟨aa_t3 174 rfl, rfl⟩, ⟨aa_t3 175 rfl, rfl⟩⟩
theorem lk_X3_56 : aa_LV RX3 56 mX6_moves := ⟨⟨aa_t4 45 rfl, rfl⟩, ⟨aa_t3 65 rfl, rfl⟩, ⟨aa_t3 66 rfl, rfl⟩⟩
theorem lk_X3_59 : aa_LV RX3 59 mX6_steps := ⟨⟨aa_t4 46 rfl, rfl⟩, ⟨aa_t3 94 rfl, rfl⟩, ⟨aa_t3 95 rfl, rfl⟩⟩
theorem lk_X3_62 : aa_LV RX3 62 mX6_behind := ⟨⟨aa_t4 47 rfl, rfl⟩, ⟨aa_t3 103 rfl, rfl⟩, ⟨aa_t3 104 rfl, rfl⟩⟩
theorem lk_X3_65 : aa_LS RX3 65 mX6_lowest := ⟨⟨aa_t4 70 rfl, rfl⟩, ⟨aa_t4 25 rfl, rfl⟩⟩
theorem lk_X3_69 : aa_LV RX3 69 mX4_set := ⟨⟨aa_t4 71 rfl, rfl⟩, ⟨aa_t3 178 rfl, rfl⟩, ⟨aa_t3 179 rfl, rfl⟩⟩
theorem lk_X3_73 : aa_LV RX3 73 mX3_valueOf := ⟨⟨aa_t4 48 rfl, rfl⟩, ⟨aa_t4 49 rfl, rfl⟩, ⟨aa_t4 50 rfl, rfl⟩⟩
theorem lk_X3_76 : aa_LV RX3 76 mX6_under := ⟨⟨aa_t4 116 rfl, rfl⟩, ⟨aa_t4 117 rfl, rfl⟩, ⟨aa_t4 118 rfl, rfl⟩⟩
theorem lk_X3_79 : aa_LS RX3 79 mJ6_bitCount_0f7a4 := ⟨⟨aa_t4 120 rfl, rfl⟩, ⟨aa_t4 14 rfl, rfl⟩⟩
theorem lk_X3_84 : aa_LS RX3 84 mX3_list := ⟨⟨aa_t4 129 rfl, rfl⟩, ⟨aa_t4 130 rfl, rfl⟩⟩
theorem lk_X3_88 : aa_LV RX3 88 mX3_pairs := ⟨⟨aa_t4 132 rfl, rfl⟩, ⟨aa_t4 134 rfl, rfl⟩, ⟨aa_tp 20 rfl, rfl⟩⟩
theorem lk_X3_92 : aa_LV RX3 92 mX3_fits := ⟨⟨aa_t4 136 rfl, rfl⟩, ⟨aa_t4 138 rfl, rfl⟩, ⟨aa_tp 21 rfl, rfl⟩⟩
theorem lk_X4_19 : aa_LV RX4 19 mX6_version := ⟨⟨aa_t3 160 rfl, rfl⟩, ⟨aa_t3 161 rfl, rfl⟩, ⟨aa_t3 162 rfl, rfl⟩⟩
theorem lk_X4_24 : aa_LV RX4 24 mX6_size := ⟨⟨aa_t3 164 rfl, rfl⟩, ⟨aa_t3 165 rfl, rfl⟩, ⟨aa_t3 166 rfl, rfl⟩⟩
theorem lk_X4_27 : aa_LS RX4 27 mJ9_max_7cf53 := ⟨⟨aa_t3 168 rfl, rfl⟩, ⟨aa_t3 36 rfl, rfl⟩⟩
theorem lk_X5_11 : aa_LN RX5 11 mX4_init "AllAboveIt" := ⟨by decide +kernel, ⟨aa_t1 161 rfl, rfl⟩, rfl, rfl⟩
theorem lk_X5_26 : aa_LS RX5 26 mX5_next := ⟨⟨aa_t5 60 rfl, rfl⟩, ⟨aa_t5 61 rfl, rfl⟩⟩
theorem lk_X5_30 : aa_LV RX5 30 mX4_fit := ⟨⟨aa_t5 75 rfl, rfl⟩, ⟨aa_t3 157 rfl, rfl⟩, ⟨aa_t3 158 rfl, rfl⟩⟩
theorem lk_X5_34 : aa_LV RX5 34 mX6_moves := ⟨⟨aa_t5 76 rfl, rfl⟩, ⟨aa_t3 65 rfl, rfl⟩, ⟨aa_t3 66 rfl, rfl⟩⟩
theorem lk_X5_40 : aa_LV RX5 40 mX5_keeperFrom := ⟨⟨aa_t5 77 rfl, rfl⟩, ⟨aa_t5 79 rfl, rfl⟩, ⟨aa_tp 33 rfl, rfl⟩⟩
theorem lk_X5_44 : aa_LV RX5 44 mX4_at := ⟨⟨aa_t5 81 rfl, rfl⟩, ⟨aa_t3 174 rfl, rfl⟩, ⟨aa_t3 175 rfl, rfl⟩⟩
theorem lk_X5_48 : aa_LV RX5 48 mX6_steps := ⟨⟨aa_t5 82 rfl, rfl⟩, ⟨aa_t3 94 rfl, rfl⟩, ⟨aa_t3 95 rfl, rfl⟩⟩
theorem lk_X5_52 : aa_LV RX5 52 mX6_behind := ⟨⟨aa_t5 83 rfl, rfl⟩, ⟨aa_t3 103 rfl, rfl⟩, ⟨aa_t3 104 rfl, rfl⟩⟩
theorem lk_X5_55 : aa_LV RX5 55 mX5_liked := ⟨⟨aa_t5 84 rfl, rfl⟩, ⟨aa_t5 86 rfl, rfl⟩, ⟨aa_tp 34 rfl, rfl⟩⟩
theorem lk_X5_58 : aa_LV RX5 58 mX4_set := ⟨⟨aa_t5 88 rfl, rfl⟩, ⟨aa_t3 178 rfl, rfl⟩, ⟨aa_t3 179 rfl, rfl⟩⟩
theorem lk_X5_62 : aa_LV RX5 62 mX5_keeper := ⟨⟨aa_t5 71 rfl, rfl⟩, ⟨aa_t5 72 rfl, rfl⟩, ⟨aa_t5 73 rfl, rfl⟩⟩
theorem lk_X5_65 : aa_LV RX5 65 mX5_escapes := ⟨⟨aa_t5 102 rfl, rfl⟩, ⟨aa_t5 104 rfl, rfl⟩, ⟨aa_tp 35 rfl, rfl⟩⟩
theorem lk_X6_61 : aa_LS RX6 61 mJ6_bitCount_0f7a4 := ⟨⟨aa_t4 27 rfl, rfl⟩, ⟨aa_t4 14 rfl, rfl⟩⟩
theorem lk_X6_67 : aa_LV RX6 67 mX6_splitHeaps := ⟨⟨aa_t2 230 rfl, rfl⟩, ⟨aa_t2 232 rfl, rfl⟩, ⟨aa_tp 9 rfl, rfl⟩⟩
theorem lk_X6_70 : aa_LV RX6 70 mX6_addUp := ⟨⟨aa_t3 2 rfl, rfl⟩, ⟨aa_t3 3 rfl, rfl⟩, ⟨aa_t3 4 rfl, rfl⟩⟩
theorem lk_X6_73 : aa_LV RX6 73 mX6_full := ⟨⟨aa_t2 234 rfl, rfl⟩, ⟨aa_t2 235 rfl, rfl⟩, ⟨aa_t2 236 rfl, rfl⟩⟩
theorem lk_X6_77 : aa_LV RX6 77 mX6_heapOf := ⟨⟨aa_t2 238 rfl, rfl⟩, ⟨aa_t2 239 rfl, rfl⟩, ⟨aa_t3 0 rfl, rfl⟩⟩
theorem lk_X6_81 : aa_LV RX6 81 mX6_has := ⟨⟨aa_t3 42 rfl, rfl⟩, ⟨aa_t3 43 rfl, rfl⟩, ⟨aa_t3 44 rfl, rfl⟩⟩
theorem lk_X6_85 : aa_LV RX6 85 mX6_allPutBack := ⟨⟨aa_t4 61 rfl, rfl⟩, ⟨aa_t4 63 rfl, rfl⟩, ⟨aa_tp 17 rfl, rfl⟩⟩
theorem lk_X6_88 : aa_LV RX6 88 mX6_takes := ⟨⟨aa_t3 68 rfl, rfl⟩, ⟨aa_t3 69 rfl, rfl⟩, ⟨aa_t3 70 rfl, rfl⟩⟩
theorem lk_X6_91 : aa_LV RX6 91 mX6_steps := ⟨⟨aa_t3 93 rfl, rfl⟩, ⟨aa_t3 94 rfl, rfl⟩, ⟨aa_t3 95 rfl, rfl⟩⟩
theorem lk_X6_94 : aa_LV RX6 94 mX6_moves := ⟨⟨aa_t3 97 rfl, rfl⟩, ⟨aa_t3 65 rfl, rfl⟩, ⟨aa_t3 66 rfl, rfl⟩⟩
theorem lk_X7_50 : aa_LV RX7 50 mX6_things := ⟨⟨aa_t2 168 rfl, rfl⟩, ⟨aa_t2 169 rfl, rfl⟩, ⟨aa_t2 170 rfl, rfl⟩⟩
theorem lk_X7_56 : aa_LV RX7 56 mX6_backs := ⟨⟨aa_t2 172 rfl, rfl⟩, ⟨aa_t2 173 rfl, rfl⟩, ⟨aa_t2 174 rfl, rfl⟩⟩
theorem lk_X7_58 : aa_LS RX7 58 mJ9_min_7cf53 := ⟨⟨aa_t2 176 rfl, rfl⟩, ⟨aa_t2 177 rfl, rfl⟩⟩
theorem lk_X7_64 : aa_LS RX7 64 mX7_isDigit := ⟨⟨aa_t2 179 rfl, rfl⟩, ⟨aa_t2 180 rfl, rfl⟩⟩
theorem lk_X7_68 : aa_LV RX7 68 mX7_takes := ⟨⟨aa_t2 182 rfl, rfl⟩, ⟨aa_t2 184 rfl, rfl⟩, ⟨aa_tp 0 rfl, rfl⟩⟩
theorem lk_X7_72 : aa_LV RX7 72 mX7_mayEnd := ⟨⟨aa_t2 214 rfl, rfl⟩, ⟨aa_t2 216 rfl, rfl⟩, ⟨aa_tp 8 rfl, rfl⟩⟩
theorem lk_X7_76 : aa_LV RX7 76 mX6_add := ⟨⟨aa_t2 222 rfl, rfl⟩, ⟨aa_t2 223 rfl, rfl⟩, ⟨aa_t2 224 rfl, rfl⟩⟩
theorem lk_X7_80 : aa_LV RX7 80 mX6_settle := ⟨⟨aa_t2 226 rfl, rfl⟩, ⟨aa_t2 227 rfl, rfl⟩, ⟨aa_t2 228 rfl, rfl⟩⟩
theorem lk_X7_83 : aa_LV RX7 83 mX7_takesWorth := ⟨⟨aa_t2 186 rfl, rfl⟩, ⟨aa_t2 188 rfl, rfl⟩, ⟨aa_tp 1 rfl, rfl⟩⟩
theorem lk_X7_86 : aa_LV RX7 86 mX7_takesHeirs := ⟨⟨aa_t2 190 rfl, rfl⟩, ⟨aa_t2 192 rfl, rfl⟩, ⟨aa_tp 2 rfl, rfl⟩⟩
theorem lk_X7_89 : aa_LV RX7 89 mX7_takesOn := ⟨⟨aa_t2 194 rfl, rfl⟩, ⟨aa_t2 196 rfl, rfl⟩, ⟨aa_tp 3 rfl, rfl⟩⟩
theorem lk_X7_93 : aa_LV RX7 93 mX7_takesTail := ⟨⟨aa_t2 198 rfl, rfl⟩, ⟨aa_t2 200 rfl, rfl⟩, ⟨aa_tp 4 rfl, rfl⟩⟩
theorem lk_X7_96 : aa_LV RX7 96 mX7_takesFirstDigit := ⟨⟨aa_t2 206 rfl, rfl⟩, ⟨aa_t2 208 rfl, rfl⟩, ⟨aa_tp 6 rfl, rfl⟩⟩
theorem lk_X7_99 : aa_LV RX7 99 mX7_takesNumber := ⟨⟨aa_t2 210 rfl, rfl⟩, ⟨aa_t2 212 rfl, rfl⟩, ⟨aa_tp 7 rfl, rfl⟩⟩
theorem lk_X7_102 : aa_LV RX7 102 mX7_takesLineEnd := ⟨⟨aa_t2 202 rfl, rfl⟩, ⟨aa_t2 204 rfl, rfl⟩, ⟨aa_tp 5 rfl, rfl⟩⟩
theorem lk_X8_15 : aa_LV RX8 15 mX8_stoneFrom := ⟨⟨aa_t4 155 rfl, rfl⟩, ⟨aa_t4 157 rfl, rfl⟩, ⟨aa_tp 22 rfl, rfl⟩⟩
theorem lk_X8_19 : aa_LV RX8 19 mX8_victory := ⟨⟨aa_t4 151 rfl, rfl⟩, ⟨aa_t4 152 rfl, rfl⟩, ⟨aa_t4 153 rfl, rfl⟩⟩
theorem lk_X8_23 : aa_LS RX8 23 mX8_without := ⟨⟨aa_t4 159 rfl, rfl⟩, ⟨aa_t4 160 rfl, rfl⟩⟩
theorem lk_X8_27 : aa_LV RX8 27 mX8_victoryFrom := ⟨⟨aa_t4 162 rfl, rfl⟩, ⟨aa_t4 164 rfl, rfl⟩, ⟨aa_tp 23 rfl, rfl⟩⟩
theorem lk_X9_11 : aa_LN RX9 11 mX4_init "AllAboveIt" := ⟨by decide +kernel, ⟨aa_t1 161 rfl, rfl⟩, rfl, rfl⟩
theorem lk_X9_35 : aa_LV RX9 35 mX4_fit := ⟨⟨aa_t3 156 rfl, rfl⟩, ⟨aa_t3 157 rfl, rfl⟩, ⟨aa_t3 158 rfl, rfl⟩⟩
theorem lk_X9_39 : aa_LV RX9 39 mX9_victoryFrom := ⟨⟨aa_t3 169 rfl, rfl⟩, ⟨aa_t3 171 rfl, rfl⟩, ⟨aa_tp 11 rfl, rfl⟩⟩
theorem lk_X9_43 : aa_LV RX9 43 mX4_at := ⟨⟨aa_t3 173 rfl, rfl⟩, ⟨aa_t3 174 rfl, rfl⟩, ⟨aa_t3 175 rfl, rfl⟩⟩
theorem lk_X9_47 : aa_LV RX9 47 mX6_moves := ⟨⟨aa_t3 149 rfl, rfl⟩, ⟨aa_t3 65 rfl, rfl⟩, ⟨aa_t3 66 rfl, rfl⟩⟩
theorem lk_X9_53 : aa_LV RX9 53 mX6_steps := ⟨⟨aa_t3 150 rfl, rfl⟩, ⟨aa_t3 94 rfl, rfl⟩, ⟨aa_t3 95 rfl, rfl⟩⟩
theorem lk_X9_57 : aa_LV RX9 57 mX6_behind := ⟨⟨aa_t3 151 rfl, rfl⟩, ⟨aa_t3 103 rfl, rfl⟩, ⟨aa_t3 104 rfl, rfl⟩⟩
theorem lk_X9_60 : aa_LV RX9 60 mX4_set := ⟨⟨aa_t3 177 rfl, rfl⟩, ⟨aa_t3 178 rfl, rfl⟩, ⟨aa_t3 179 rfl, rfl⟩⟩
theorem lk_X9_64 : aa_LV RX9 64 mX9_victory := ⟨⟨aa_t3 152 rfl, rfl⟩, ⟨aa_t3 153 rfl, rfl⟩, ⟨aa_t3 154 rfl, rfl⟩⟩
theorem lk_X9_68 : aa_LV RX9 68 mX9_soonestFrom := ⟨⟨aa_t3 206 rfl, rfl⟩, ⟨aa_t3 208 rfl, rfl⟩, ⟨aa_tp 14 rfl, rfl⟩⟩
theorem lk_X9_72 : aa_LS RX9 72 mX9_wonIn := ⟨⟨aa_t3 210 rfl, rfl⟩, ⟨aa_t3 211 rfl, rfl⟩⟩
theorem lk_X9_76 : aa_LS RX9 76 mJ9_max_7cf53 := ⟨⟨aa_t3 213 rfl, rfl⟩, ⟨aa_t3 36 rfl, rfl⟩⟩
theorem lk_X9_83 : aa_LV RX9 83 mX9_soonest := ⟨⟨aa_t3 202 rfl, rfl⟩, ⟨aa_t3 203 rfl, rfl⟩, ⟨aa_t3 204 rfl, rfl⟩⟩
theorem lk_X9_87 : aa_LV RX9 87 mX9_visit := ⟨⟨aa_t3 232 rfl, rfl⟩, ⟨aa_t3 234 rfl, rfl⟩, ⟨aa_tp 15 rfl, rfl⟩⟩
theorem lk_X9_93 : aa_LV RX9 93 mX9_gamesFrom := ⟨⟨aa_t4 9 rfl, rfl⟩, ⟨aa_t4 11 rfl, rfl⟩, ⟨aa_tp 16 rfl, rfl⟩⟩
theorem lk_X9_97 : aa_LS RX9 97 mJ6_bitCount_0f7a4 := ⟨⟨aa_t4 13 rfl, rfl⟩, ⟨aa_t4 14 rfl, rfl⟩⟩
theorem icX0 : ∀ w ∈ u_ws RX0 TX0 11, w ∈ aa_tb := fun w h => aa_tb_in ((by decide +kernel : ∀ w ∈ u_ws RX0 TX0 11, w ∈ lw_tbl) w h) ((by decide +kernel : ∀ w ∈ u_ws RX0 TX0 11, goodWord w = true) w h)
theorem icX1 : ∀ w ∈ u_ws RX1 TX1 9, w ∈ aa_tb := fun w h => aa_tb_in ((by decide +kernel : ∀ w ∈ u_ws RX1 TX1 9, w ∈ lw_tbl) w h) ((by decide +kernel : ∀ w ∈ u_ws RX1 TX1 9, goodWord w = true) w h)
theorem icX2 : ∀ w ∈ u_ws RX2 TX2 5, w ∈ aa_tb := fun w h => aa_tb_in ((by decide +kernel : ∀ w ∈ u_ws RX2 TX2 5, w ∈ lw_tbl) w h) ((by decide +kernel : ∀ w ∈ u_ws RX2 TX2 5, goodWord w = true) w h)
theorem icX3 : ∀ w ∈ u_ws RX3 TX3 6, w ∈ aa_tb := fun w h => aa_tb_in ((by decide +kernel : ∀ w ∈ u_ws RX3 TX3 6, w ∈ lw_tbl) w h) ((by decide +kernel : ∀ w ∈ u_ws RX3 TX3 6, goodWord w = true) w h)
theorem icX4 : ∀ w ∈ u_ws RX4 TX4 2, w ∈ aa_tb := fun w h => aa_tb_in ((by decide +kernel : ∀ w ∈ u_ws RX4 TX4 2, w ∈ lw_tbl) w h) ((by decide +kernel : ∀ w ∈ u_ws RX4 TX4 2, goodWord w = true) w h)
theorem icX5 : ∀ w ∈ u_ws RX5 TX5 3, w ∈ aa_tb := fun w h => aa_tb_in ((by decide +kernel : ∀ w ∈ u_ws RX5 TX5 3, w ∈ lw_tbl) w h) ((by decide +kernel : ∀ w ∈ u_ws RX5 TX5 3, goodWord w = true) w h)
theorem icX6 : ∀ w ∈ u_ws RX6 TX6 16, w ∈ aa_tb := fun w h => aa_tb_in ((by decide +kernel : ∀ w ∈ u_ws RX6 TX6 16, w ∈ lw_tbl) w h) ((by decide +kernel : ∀ w ∈ u_ws RX6 TX6 16, goodWord w = true) w h)
theorem icX7 : ∀ w ∈ u_ws RX7 TX7 12, w ∈ aa_tb := fun w h => aa_tb_in ((by decide +kernel : ∀ w ∈ u_ws RX7 TX7 12, w ∈ lw_tbl) w h) ((by decide +kernel : ∀ w ∈ u_ws RX7 TX7 12, goodWord w = true) w h)
theorem icX8 : ∀ w ∈ u_ws RX8 TX8 1, w ∈ aa_tb := fun w h => aa_tb_in ((by decide +kernel : ∀ w ∈ u_ws RX8 TX8 1, w ∈ lw_tbl) w h) ((by decide +kernel : ∀ w ∈ u_ws RX8 TX8 1, goodWord w = true) w h)
theorem icX9 : ∀ w ∈ u_ws RX9 TX9 6, w ∈ aa_tb := fun w h => aa_tb_in ((by decide +kernel : ∀ w ∈ u_ws RX9 TX9 6, w ∈ lw_tbl) w h) ((by decide +kernel : ∀ w ∈ u_ws RX9 TX9 6, goodWord w = true) w h)
theorem icX10 : ∀ w ∈ u_ws RX10 TX10 3, w ∈ aa_tb := fun w h => aa_tb_in ((by decide +kernel : ∀ w ∈ u_ws RX10 TX10 3, w ∈ lw_tbl) w h) ((by decide +kernel : ∀ w ∈ u_ws RX10 TX10 3, goodWord w = true) w h)
theorem icX11 : ∀ w ∈ u_ws RX11 TX11 14, w ∈ aa_tb := fun w h => aa_tb_in ((by decide +kernel : ∀ w ∈ u_ws RX11 TX11 14, w ∈ lw_tbl) w h) ((by decide +kernel : ∀ w ∈ u_ws RX11 TX11 14, goodWord w = true) w h)
theorem icX12 : ∀ w ∈ u_ws RX12 TX12 38, w ∈ aa_tb := fun w h => aa_tb_in ((by decide +kernel : ∀ w ∈ u_ws RX12 TX12 38, w ∈ lw_tbl) w h) ((by decide +kernel : ∀ w ∈ u_ws RX12 TX12 38, goodWord w = true) w h)
theorem fl_X0_9 : aa_FL RX0 9 0 2 false (.array .int) := ⟨RX0, TX0, 11, tyX0, rfl, by decide, icX0, ⟨aa_t2 69 rfl, rfl⟩, tyX0_ok, nmX0, rfl, (fun h => nomatch h), by decide +kernel⟩
theorem fl_X0_15 : aa_FL RX0 15 0 3 false (.int) := ⟨RX0, TX0, 11, tyX0, rfl, by decide, icX0, ⟨aa_t2 70 rfl, rfl⟩, tyX0_ok, nmX0, rfl, (fun h => nomatch h), by decide +kernel⟩
theorem fl_X0_19 : aa_FL RX0 19 0 4 false (.int) := ⟨RX0, TX0, 11, tyX0, rfl, by decide, icX0, ⟨aa_t2 71 rfl, rfl⟩, tyX0_ok, nmX0, rfl, (fun h => nomatch h), by decide +kernel⟩
theorem fl_X0_22 : aa_FL RX0 22 0 5 false (.int) := ⟨RX0, TX0, 11, tyX0, rfl, by decide, icX0, ⟨aa_t2 72 rfl, rfl⟩, tyX0_ok, nmX0, rfl, (fun h => nomatch h), by decide +kernel⟩
theorem fl_X0_25 : aa_FL RX0 25 0 6 false (.int) := ⟨RX0, TX0, 11, tyX0, rfl, by decide, icX0, ⟨aa_t2 73 rfl, rfl⟩, tyX0_ok, nmX0, rfl, (fun h => nomatch h), by decide +kernel⟩
theorem fl_X0_28 : aa_FL RX0 28 0 7 false (.int) := ⟨RX0, TX0, 11, tyX0, rfl, by decide, icX0, ⟨aa_t2 74 rfl, rfl⟩, tyX0_ok, nmX0, rfl, (fun h => nomatch h), by decide +kernel⟩
theorem fl_X0_31 : aa_FL RX0 31 0 8 false (.boolean) := ⟨RX0, TX0, 11, tyX0, rfl, by decide, icX0, ⟨aa_t2 75 rfl, rfl⟩, tyX0_ok, nmX0, rfl, (fun h => nomatch h), by decide +kernel⟩
theorem fl_X0_35 : aa_FL RX0 35 0 9 false (.int) := ⟨RX0, TX0, 11, tyX0, rfl, by decide, icX0, ⟨aa_t2 76 rfl, rfl⟩, tyX0_ok, nmX0, rfl, (fun h => nomatch h), by decide +kernel⟩
theorem fl_X0_38 : aa_FL RX0 38 0 10 false (.int) := ⟨RX0, TX0, 11, tyX0, rfl, by decide, icX0, ⟨aa_t2 77 rfl, rfl⟩, tyX0_ok, nmX0, rfl, (fun h => nomatch h), by decide +kernel⟩
theorem fl_X0_41 : aa_FL RX0 41 0 1 true (.object "AllAboveIt$Pile") := ⟨RX0, TX0, 11, tyX0, rfl, by decide, icX0, ⟨aa_t2 68 rfl, rfl⟩, tyX0_ok, nmX0, rfl, fun _ => rfl, by decide +kernel⟩
theorem fl_X0_50 : aa_FL RX0 50 0 0 true (.object "AllAboveIt$Few") := ⟨RX0, TX0, 11, tyX0, rfl, by decide, icX0, ⟨aa_t2 67 rfl, rfl⟩, tyX0_ok, nmX0, rfl, fun _ => rfl, by decide +kernel⟩
theorem fl_X1_11 : aa_FL RX1 11 1 1 true (.array .int) := ⟨RX1, TX1, 9, tyX1, rfl, by decide, icX1, ⟨aa_t2 14 rfl, rfl⟩, tyX1_ok, nmX1, rfl, fun _ => rfl, by decide +kernel⟩
theorem fl_X1_15 : aa_FL RX1 15 1 2 true (.array .int) := ⟨RX1, TX1, 9, tyX1, rfl, by decide, icX1, ⟨aa_t2 15 rfl, rfl⟩, tyX1_ok, nmX1, rfl, fun _ => rfl, by decide +kernel⟩
theorem fl_X1_18 : aa_FL RX1 18 1 3 true (.array .int) := ⟨RX1, TX1, 9, tyX1, rfl, by decide, icX1, ⟨aa_t2 16 rfl, rfl⟩, tyX1_ok, nmX1, rfl, fun _ => rfl, by decide +kernel⟩
theorem fl_X1_21 : aa_FL RX1 21 1 4 true (.array .long) := ⟨RX1, TX1, 9, tyX1, rfl, by decide, icX1, ⟨aa_t2 17 rfl, rfl⟩, tyX1_ok, nmX1, rfl, fun _ => rfl, by decide +kernel⟩
theorem fl_X1_25 : aa_FL RX1 25 1 5 false (.int) := ⟨RX1, TX1, 9, tyX1, rfl, by decide, icX1, ⟨aa_t2 18 rfl, rfl⟩, tyX1_ok, nmX1, rfl, (fun h => nomatch h), by decide +kernel⟩
theorem fl_X1_29 : aa_FL RX1 29 1 6 false (.int) := ⟨RX1, TX1, 9, tyX1, rfl, by decide, icX1, ⟨aa_t2 19 rfl, rfl⟩, tyX1_ok, nmX1, rfl, (fun h => nomatch h), by decide +kernel⟩
theorem fl_X1_32 : aa_FL RX1 32 1 7 false (.int) := ⟨RX1, TX1, 9, tyX1, rfl, by decide, icX1, ⟨aa_t2 20 rfl, rfl⟩, tyX1_ok, nmX1, rfl, (fun h => nomatch h), by decide +kernel⟩
theorem fl_X1_35 : aa_FL RX1 35 1 8 false (.int) := ⟨RX1, TX1, 9, tyX1, rfl, by decide, icX1, ⟨aa_t2 21 rfl, rfl⟩, tyX1_ok, nmX1, rfl, (fun h => nomatch h), by decide +kernel⟩
theorem fl_X1_38 : aa_FL RX1 38 1 0 true (.object "AllAboveIt$Pile") := ⟨RX1, TX1, 9, tyX1, rfl, by decide, icX1, ⟨aa_t2 13 rfl, rfl⟩, tyX1_ok, nmX1, rfl, fun _ => rfl, by decide +kernel⟩
theorem fl_X10_12 : aa_FL RX10 12 10 1 true (.object "AllAboveIt$Memo") := ⟨RX10, TX10, 3, tyX10, rfl, by decide, icX10, ⟨aa_t1 238 rfl, rfl⟩, tyX10_ok, nmX10, rfl, fun _ => rfl, by decide +kernel⟩
theorem fl_X10_18 : aa_FL RX10 18 10 2 false (.long) := ⟨RX10, TX10, 3, tyX10, rfl, by decide, icX10, ⟨aa_t1 239 rfl, rfl⟩, tyX10_ok, nmX10, rfl, (fun h => nomatch h), by decide +kernel⟩
theorem fl_X10_22 : aa_FL RX10 22 10 0 true (.object "AllAboveIt$Pile") := ⟨RX10, TX10, 3, tyX10, rfl, by decide, icX10, ⟨aa_t1 237 rfl, rfl⟩, tyX10_ok, nmX10, rfl, fun _ => rfl, by decide +kernel⟩
theorem fl_X11_12 : aa_FL RX11 12 11 0 true (.object "AllAboveIt$Text") := ⟨RX11, TX11, 14, tyX11, rfl, by decide, icX11, ⟨aa_t2 101 rfl, rfl⟩, tyX11_ok, nmX11, rfl, fun _ => rfl, by decide +kernel⟩
theorem fl_X11_19 : aa_FL RX11 19 11 1 true (.object "AllAboveIt$Pile") := ⟨RX11, TX11, 14, tyX11, rfl, by decide, icX11, ⟨aa_t2 102 rfl, rfl⟩, tyX11_ok, nmX11, rfl, fun _ => rfl, by decide +kernel⟩
theorem fl_X11_28 : aa_FL RX11 28 11 2 true (.object "AllAboveIt$Game") := ⟨RX11, TX11, 14, tyX11, rfl, by decide, icX11, ⟨aa_t2 103 rfl, rfl⟩, tyX11_ok, nmX11, rfl, fun _ => rfl, by decide +kernel⟩
theorem fl_X11_32 : aa_FL RX11 32 11 3 true (.array (.object "AllAboveIt$Game")) := ⟨RX11, TX11, 14, tyX11, rfl, by decide, icX11, ⟨aa_t2 104 rfl, rfl⟩, tyX11_ok, nmX11, rfl, fun _ => rfl, by decide +kernel⟩
theorem fl_X11_36 : aa_FL RX11 36 11 4 true (.array .boolean) := ⟨RX11, TX11, 14, tyX11, rfl, by decide, icX11, ⟨aa_t2 105 rfl, rfl⟩, tyX11_ok, nmX11, rfl, fun _ => rfl, by decide +kernel⟩
theorem fl_X11_43 : aa_FL RX11 43 11 5 true (.object "AllAboveIt$Winners") := ⟨RX11, TX11, 14, tyX11, rfl, by decide, icX11, ⟨aa_t2 106 rfl, rfl⟩, tyX11_ok, nmX11, rfl, fun _ => rfl, by decide +kernel⟩
theorem fl_X11_50 : aa_FL RX11 50 11 6 true (.object "AllAboveIt$Heaps") := ⟨RX11, TX11, 14, tyX11, rfl, by decide, icX11, ⟨aa_t2 107 rfl, rfl⟩, tyX11_ok, nmX11, rfl, fun _ => rfl, by decide +kernel⟩
theorem fl_X11_57 : aa_FL RX11 57 11 7 true (.object "AllAboveIt$Wall") := ⟨RX11, TX11, 14, tyX11, rfl, by decide, icX11, ⟨aa_t2 108 rfl, rfl⟩, tyX11_ok, nmX11, rfl, fun _ => rfl, by decide +kernel⟩
theorem fl_X11_64 : aa_FL RX11 64 11 8 true (.object "AllAboveIt$Worths") := ⟨RX11, TX11, 14, tyX11, rfl, by decide, icX11, ⟨aa_t2 109 rfl, rfl⟩, tyX11_ok, nmX11, rfl, fun _ => rfl, by decide +kernel⟩
theorem fl_X11_71 : aa_FL RX11 71 11 9 true (.object "AllAboveIt$Few") := ⟨RX11, TX11, 14, tyX11, rfl, by decide, icX11, ⟨aa_t2 110 rfl, rfl⟩, tyX11_ok, nmX11, rfl, fun _ => rfl, by decide +kernel⟩
theorem fl_X11_78 : aa_FL RX11 78 11 10 true (.object "AllAboveIt$Parrots") := ⟨RX11, TX11, 14, tyX11, rfl, by decide, icX11, ⟨aa_t2 111 rfl, rfl⟩, tyX11_ok, nmX11, rfl, fun _ => rfl, by decide +kernel⟩
theorem fl_X11_85 : aa_FL RX11 85 11 11 true (.object "AllAboveIt$Changes") := ⟨RX11, TX11, 14, tyX11, rfl, by decide, icX11, ⟨aa_t2 112 rfl, rfl⟩, tyX11_ok, nmX11, rfl, fun _ => rfl, by decide +kernel⟩
theorem fl_X11_89 : aa_FL RX11 89 11 12 true (.array .long) := ⟨RX11, TX11, 14, tyX11, rfl, by decide, icX11, ⟨aa_t2 113 rfl, rfl⟩, tyX11_ok, nmX11, rfl, fun _ => rfl, by decide +kernel⟩
theorem fl_X11_93 : aa_FL RX11 93 11 13 false (.int) := ⟨RX11, TX11, 14, tyX11, rfl, by decide, icX11, ⟨aa_t2 114 rfl, rfl⟩, tyX11_ok, nmX11, rfl, (fun h => nomatch h), by decide +kernel⟩
theorem fl_X12_3 : aa_FL RX12 3 12 0 false (.int) := ⟨RX12, TX12, 38, tyX12, rfl, by decide, icX12, ⟨aa_t8 51 rfl, rfl⟩, tyX12_ok, nmX12, rfl, (fun h => nomatch h), by decide +kernel⟩
theorem fl_X12_7 : aa_FL RX12 7 12 2 true (.array .long) := ⟨RX12, TX12, 38, tyX12, rfl, by decide, icX12, ⟨aa_t8 53 rfl, rfl⟩, tyX12_ok, nmX12, rfl, fun _ => rfl, by decide +kernel⟩
theorem fl_X12_11 : aa_FL RX12 11 12 1 false (.int) := ⟨RX12, TX12, 38, tyX12, rfl, by decide, icX12, ⟨aa_t8 52 rfl, rfl⟩, tyX12_ok, nmX12, rfl, (fun h => nomatch h), by decide +kernel⟩
theorem fl_X12_14 : aa_FL RX12 14 12 17 false (.int) := ⟨RX12, TX12, 38, tyX12, rfl, by decide, icX12, ⟨aa_t8 68 rfl, rfl⟩, tyX12_ok, nmX12, rfl, (fun h => nomatch h), by decide +kernel⟩
theorem fl_X12_17 : aa_FL RX12 17 12 16 true (.array .int) := ⟨RX12, TX12, 38, tyX12, rfl, by decide, icX12, ⟨aa_t8 67 rfl, rfl⟩, tyX12_ok, nmX12, rfl, fun _ => rfl, by decide +kernel⟩
theorem fl_X12_25 : aa_FL RX12 25 12 18 false (.int) := ⟨RX12, TX12, 38, tyX12, rfl, by decide, icX12, ⟨aa_t8 69 rfl, rfl⟩, tyX12_ok, nmX12, rfl, (fun h => nomatch h), by decide +kernel⟩
theorem fl_X12_28 : aa_FL RX12 28 12 19 false (.int) := ⟨RX12, TX12, 38, tyX12, rfl, by decide, icX12, ⟨aa_t8 70 rfl, rfl⟩, tyX12_ok, nmX12, rfl, (fun h => nomatch h), by decide +kernel⟩
theorem fl_X12_47 : aa_FL RX12 47 12 6 true (.array .int) := ⟨RX12, TX12, 38, tyX12, rfl, by decide, icX12, ⟨aa_t8 57 rfl, rfl⟩, tyX12_ok, nmX12, rfl, fun _ => rfl, by decide +kernel⟩
theorem fl_X12_54 : aa_FL RX12 54 12 4 true (.array .int) := ⟨RX12, TX12, 38, tyX12, rfl, by decide, icX12, ⟨aa_t8 55 rfl, rfl⟩, tyX12_ok, nmX12, rfl, fun _ => rfl, by decide +kernel⟩
theorem fl_X12_57 : aa_FL RX12 57 12 5 true (.array .int) := ⟨RX12, TX12, 38, tyX12, rfl, by decide, icX12, ⟨aa_t8 56 rfl, rfl⟩, tyX12_ok, nmX12, rfl, fun _ => rfl, by decide +kernel⟩
theorem fl_X12_63 : aa_FL RX12 63 12 8 false (.int) := ⟨RX12, TX12, 38, tyX12, rfl, by decide, icX12, ⟨aa_t8 59 rfl, rfl⟩, tyX12_ok, nmX12, rfl, (fun h => nomatch h), by decide +kernel⟩
theorem fl_X12_66 : aa_FL RX12 66 12 20 false (.int) := ⟨RX12, TX12, 38, tyX12, rfl, by decide, icX12, ⟨aa_t8 71 rfl, rfl⟩, tyX12_ok, nmX12, rfl, (fun h => nomatch h), by decide +kernel⟩
theorem fl_X12_69 : aa_FL RX12 69 12 9 true (.array .int) := ⟨RX12, TX12, 38, tyX12, rfl, by decide, icX12, ⟨aa_t8 60 rfl, rfl⟩, tyX12_ok, nmX12, rfl, fun _ => rfl, by decide +kernel⟩
theorem fl_X12_78 : aa_FL RX12 78 12 3 false (.int) := ⟨RX12, TX12, 38, tyX12, rfl, by decide, icX12, ⟨aa_t8 54 rfl, rfl⟩, tyX12_ok, nmX12, rfl, (fun h => nomatch h), by decide +kernel⟩
theorem fl_X12_92 : aa_FL RX12 92 12 7 true (.array .int) := ⟨RX12, TX12, 38, tyX12, rfl, by decide, icX12, ⟨aa_t8 58 rfl, rfl⟩, tyX12_ok, nmX12, rfl, fun _ => rfl, by decide +kernel⟩
theorem fl_X12_99 : aa_FL RX12 99 12 10 false (.int) := ⟨RX12, TX12, 38, tyX12, rfl, by decide, icX12, ⟨aa_t8 61 rfl, rfl⟩, tyX12_ok, nmX12, rfl, (fun h => nomatch h), by decide +kernel⟩
theorem fl_X12_102 : aa_FL RX12 102 12 11 false (.int) := ⟨RX12, TX12, 38, tyX12, rfl, by decide, icX12, ⟨aa_t8 62 rfl, rfl⟩, tyX12_ok, nmX12, rfl, (fun h => nomatch h), by decide +kernel⟩
theorem fl_X12_105 : aa_FL RX12 105 12 13 false (.int) := ⟨RX12, TX12, 38, tyX12, rfl, by decide, icX12, ⟨aa_t8 64 rfl, rfl⟩, tyX12_ok, nmX12, rfl, (fun h => nomatch h), by decide +kernel⟩
theorem fl_X12_124 : aa_FL RX12 124 12 12 false (.int) := ⟨RX12, TX12, 38, tyX12, rfl, by decide, icX12, ⟨aa_t8 63 rfl, rfl⟩, tyX12_ok, nmX12, rfl, (fun h => nomatch h), by decide +kernel⟩
theorem fl_X12_149 : aa_FL RX12 149 12 14 true (.array .int) := ⟨RX12, TX12, 38, tyX12, rfl, by decide, icX12, ⟨aa_t8 65 rfl, rfl⟩, tyX12_ok, nmX12, rfl, fun _ => rfl, by decide +kernel⟩
theorem fl_X12_152 : aa_FL RX12 152 12 15 true (.array .int) := ⟨RX12, TX12, 38, tyX12, rfl, by decide, icX12, ⟨aa_t8 66 rfl, rfl⟩, tyX12_ok, nmX12, rfl, fun _ => rfl, by decide +kernel⟩
theorem fl_X12_157 : aa_FL RX12 157 12 21 true (.array .int) := ⟨RX12, TX12, 38, tyX12, rfl, by decide, icX12, ⟨aa_t8 72 rfl, rfl⟩, tyX12_ok, nmX12, rfl, fun _ => rfl, by decide +kernel⟩
theorem fl_X12_167 : aa_FL RX12 167 12 24 false (.int) := ⟨RX12, TX12, 38, tyX12, rfl, by decide, icX12, ⟨aa_t8 75 rfl, rfl⟩, tyX12_ok, nmX12, rfl, (fun h => nomatch h), by decide +kernel⟩
theorem fl_X12_171 : aa_FL RX12 171 12 22 true (.array .int) := ⟨RX12, TX12, 38, tyX12, rfl, by decide, icX12, ⟨aa_t8 73 rfl, rfl⟩, tyX12_ok, nmX12, rfl, fun _ => rfl, by decide +kernel⟩
theorem fl_X12_174 : aa_FL RX12 174 12 23 true (.array .int) := ⟨RX12, TX12, 38, tyX12, rfl, by decide, icX12, ⟨aa_t8 74 rfl, rfl⟩, tyX12_ok, nmX12, rfl, fun _ => rfl, by decide +kernel⟩
theorem fl_X12_198 : aa_FL RX12 198 12 25 false (.int) := ⟨RX12, TX12, 38, tyX12, rfl, by decide, icX12, ⟨aa_t8 76 rfl, rfl⟩, tyX12_ok, nmX12, rfl, (fun h => nomatch h), by decide +kernel⟩
theorem fl_X12_201 : aa_FL RX12 201 12 26 true (.array .int) := ⟨RX12, TX12, 38, tyX12, rfl, by decide, icX12, ⟨aa_t8 77 rfl, rfl⟩, tyX12_ok, nmX12, rfl, fun _ => rfl, by decide +kernel⟩
theorem fl_X12_206 : aa_FL RX12 206 12 27 false (.array .long) := ⟨RX12, TX12, 38, tyX12, rfl, by decide, icX12, ⟨aa_t8 78 rfl, rfl⟩, tyX12_ok, nmX12, rfl, (fun h => nomatch h), by decide +kernel⟩
theorem fl_X12_209 : aa_FL RX12 209 12 28 false (.array .long) := ⟨RX12, TX12, 38, tyX12, rfl, by decide, icX12, ⟨aa_t8 79 rfl, rfl⟩, tyX12_ok, nmX12, rfl, (fun h => nomatch h), by decide +kernel⟩
theorem fl_X12_245 : aa_FL RX12 245 12 29 true (.array .int) := ⟨RX12, TX12, 38, tyX12, rfl, by decide, icX12, ⟨aa_t8 80 rfl, rfl⟩, tyX12_ok, nmX12, rfl, fun _ => rfl, by decide +kernel⟩
theorem fl_X12_268 : aa_lk (Cond.fieldLink RX12 268 "AllAboveItModel" "LEAST" "[I") := ⟨aa_t7 179 rfl, rfl⟩
theorem fl_X12_271 : aa_FL RX12 271 12 32 true (.array .long) := ⟨RX12, TX12, 38, tyX12, rfl, by decide, icX12, ⟨aa_t8 83 rfl, rfl⟩, tyX12_ok, nmX12, rfl, fun _ => rfl, by decide +kernel⟩
theorem fl_X12_290 : aa_FL RX12 290 12 30 true (.array .int) := ⟨RX12, TX12, 38, tyX12, rfl, by decide, icX12, ⟨aa_t8 81 rfl, rfl⟩, tyX12_ok, nmX12, rfl, fun _ => rfl, by decide +kernel⟩
theorem fl_X12_299 : aa_FL RX12 299 12 31 true (.array .int) := ⟨RX12, TX12, 38, tyX12, rfl, by decide, icX12, ⟨aa_t8 82 rfl, rfl⟩, tyX12_ok, nmX12, rfl, fun _ => rfl, by decide +kernel⟩
theorem fl_X12_320 : aa_FL RX12 320 12 34 false (.int) := ⟨RX12, TX12, 38, tyX12, rfl, by decide, icX12, ⟨aa_t8 85 rfl, rfl⟩, tyX12_ok, nmX12, rfl, (fun h => nomatch h), by decide +kernel⟩
theorem fl_X12_323 : aa_FL RX12 323 12 33 false (.int) := ⟨RX12, TX12, 38, tyX12, rfl, by decide, icX12, ⟨aa_t8 84 rfl, rfl⟩, tyX12_ok, nmX12, rfl, (fun h => nomatch h), by decide +kernel⟩
theorem fl_X12_354 : aa_FL RX12 354 12 35 true (.array .boolean) := ⟨RX12, TX12, 38, tyX12, rfl, by decide, icX12, ⟨aa_t8 86 rfl, rfl⟩, tyX12_ok, nmX12, rfl, fun _ => rfl, by decide +kernel⟩
theorem fl_X12_358 : aa_FL RX12 358 12 36 true (.array .int) := ⟨RX12, TX12, 38, tyX12, rfl, by decide, icX12, ⟨aa_t8 87 rfl, rfl⟩, tyX12_ok, nmX12, rfl, fun _ => rfl, by decide +kernel⟩
theorem fl_X12_361 : aa_FL RX12 361 12 37 true (.array .int) := ⟨RX12, TX12, 38, tyX12, rfl, by decide, icX12, ⟨aa_t8 88 rfl, rfl⟩, tyX12_ok, nmX12, rfl, fun _ => rfl, by decide +kernel⟩
theorem fl_X2_9 : aa_FL RX2 9 2 1 true (.array .int) := ⟨RX2, TX2, 5, tyX2, rfl, by decide, icX2, ⟨aa_t1 136 rfl, rfl⟩, tyX2_ok, nmX2, rfl, fun _ => rfl, by decide +kernel⟩
theorem fl_X2_15 : aa_FL RX2 15 2 2 false (.int) := ⟨RX2, TX2, 5, tyX2, rfl, by decide, icX2, ⟨aa_t1 137 rfl, rfl⟩, tyX2_ok, nmX2, rfl, (fun h => nomatch h), by decide +kernel⟩
theorem fl_X2_19 : aa_FL RX2 19 2 3 false (.int) := ⟨RX2, TX2, 5, tyX2, rfl, by decide, icX2, ⟨aa_t1 138 rfl, rfl⟩, tyX2_ok, nmX2, rfl, (fun h => nomatch h), by decide +kernel⟩
theorem fl_X2_22 : aa_FL RX2 22 2 4 false (.int) := ⟨RX2, TX2, 5, tyX2, rfl, by decide, icX2, ⟨aa_t1 139 rfl, rfl⟩, tyX2_ok, nmX2, rfl, (fun h => nomatch h), by decide +kernel⟩
theorem fl_X2_25 : aa_FL RX2 25 2 0 true (.object "AllAboveIt$Pile") := ⟨RX2, TX2, 5, tyX2, rfl, by decide, icX2, ⟨aa_t1 135 rfl, rfl⟩, tyX2_ok, nmX2, rfl, fun _ => rfl, by decide +kernel⟩
theorem fl_X3_12 : aa_FL RX3 12 3 1 true (.object "AllAboveIt$Memo") := ⟨RX3, TX3, 6, tyX3, rfl, by decide, icX3, ⟨aa_t1 200 rfl, rfl⟩, tyX3_ok, nmX3, rfl, fun _ => rfl, by decide +kernel⟩
theorem fl_X3_18 : aa_FL RX3 18 3 2 true (.array .int) := ⟨RX3, TX3, 6, tyX3, rfl, by decide, icX3, ⟨aa_t1 201 rfl, rfl⟩, tyX3_ok, nmX3, rfl, fun _ => rfl, by decide +kernel⟩
theorem fl_X3_22 : aa_FL RX3 22 3 3 true (.array .int) := ⟨RX3, TX3, 6, tyX3, rfl, by decide, icX3, ⟨aa_t1 202 rfl, rfl⟩, tyX3_ok, nmX3, rfl, fun _ => rfl, by decide +kernel⟩
theorem fl_X3_25 : aa_FL RX3 25 3 4 true (.array .int) := ⟨RX3, TX3, 6, tyX3, rfl, by decide, icX3, ⟨aa_t1 203 rfl, rfl⟩, tyX3_ok, nmX3, rfl, fun _ => rfl, by decide +kernel⟩
theorem fl_X3_28 : aa_FL RX3 28 3 5 true (.array .int) := ⟨RX3, TX3, 6, tyX3, rfl, by decide, icX3, ⟨aa_t1 204 rfl, rfl⟩, tyX3_ok, nmX3, rfl, fun _ => rfl, by decide +kernel⟩
theorem fl_X3_31 : aa_FL RX3 31 3 0 true (.object "AllAboveIt$Pile") := ⟨RX3, TX3, 6, tyX3, rfl, by decide, icX3, ⟨aa_t1 199 rfl, rfl⟩, tyX3_ok, nmX3, rfl, fun _ => rfl, by decide +kernel⟩
theorem fl_X4_9 : aa_FL RX4 9 4 0 false (.array .long) := ⟨RX4, TX4, 2, tyX4, rfl, by decide, icX4, ⟨aa_t1 164 rfl, rfl⟩, tyX4_ok, nmX4, rfl, (fun h => nomatch h), by decide +kernel⟩
theorem fl_X4_15 : aa_FL RX4 15 4 1 false (.int) := ⟨RX4, TX4, 2, tyX4, rfl, by decide, icX4, ⟨aa_t1 165 rfl, rfl⟩, tyX4_ok, nmX4, rfl, (fun h => nomatch h), by decide +kernel⟩
theorem fl_X5_12 : aa_FL RX5 12 5 1 true (.object "AllAboveIt$Memo") := ⟨RX5, TX5, 3, tyX5, rfl, by decide, icX5, ⟨aa_t2 50 rfl, rfl⟩, tyX5_ok, nmX5, rfl, fun _ => rfl, by decide +kernel⟩
theorem fl_X5_18 : aa_FL RX5 18 5 2 false (.int) := ⟨RX5, TX5, 3, tyX5, rfl, by decide, icX5, ⟨aa_t2 51 rfl, rfl⟩, tyX5_ok, nmX5, rfl, (fun h => nomatch h), by decide +kernel⟩
theorem fl_X5_22 : aa_FL RX5 22 5 0 true (.object "AllAboveIt$Pile") := ⟨RX5, TX5, 3, tyX5, rfl, by decide, icX5, ⟨aa_t2 49 rfl, rfl⟩, tyX5_ok, nmX5, rfl, fun _ => rfl, by decide +kernel⟩
theorem fl_X6_11 : aa_FL RX6 11 6 0 true (.array .int) := ⟨RX6, TX6, 16, tyX6, rfl, by decide, icX6, ⟨aa_t1 80 rfl, rfl⟩, tyX6_ok, nmX6, rfl, fun _ => rfl, by decide +kernel⟩
theorem fl_X6_15 : aa_FL RX6 15 6 1 true (.array .int) := ⟨RX6, TX6, 16, tyX6, rfl, by decide, icX6, ⟨aa_t1 81 rfl, rfl⟩, tyX6_ok, nmX6, rfl, fun _ => rfl, by decide +kernel⟩
theorem fl_X6_18 : aa_FL RX6 18 6 2 true (.array .int) := ⟨RX6, TX6, 16, tyX6, rfl, by decide, icX6, ⟨aa_t1 82 rfl, rfl⟩, tyX6_ok, nmX6, rfl, fun _ => rfl, by decide +kernel⟩
theorem fl_X6_21 : aa_FL RX6 21 6 3 true (.array .int) := ⟨RX6, TX6, 16, tyX6, rfl, by decide, icX6, ⟨aa_t1 83 rfl, rfl⟩, tyX6_ok, nmX6, rfl, fun _ => rfl, by decide +kernel⟩
theorem fl_X6_24 : aa_FL RX6 24 6 4 true (.array .int) := ⟨RX6, TX6, 16, tyX6, rfl, by decide, icX6, ⟨aa_t1 84 rfl, rfl⟩, tyX6_ok, nmX6, rfl, fun _ => rfl, by decide +kernel⟩
theorem fl_X6_27 : aa_FL RX6 27 6 5 true (.array .int) := ⟨RX6, TX6, 16, tyX6, rfl, by decide, icX6, ⟨aa_t1 85 rfl, rfl⟩, tyX6_ok, nmX6, rfl, fun _ => rfl, by decide +kernel⟩
theorem fl_X6_30 : aa_FL RX6 30 6 6 true (.array .int) := ⟨RX6, TX6, 16, tyX6, rfl, by decide, icX6, ⟨aa_t1 86 rfl, rfl⟩, tyX6_ok, nmX6, rfl, fun _ => rfl, by decide +kernel⟩
theorem fl_X6_33 : aa_FL RX6 33 6 7 true (.array .int) := ⟨RX6, TX6, 16, tyX6, rfl, by decide, icX6, ⟨aa_t1 87 rfl, rfl⟩, tyX6_ok, nmX6, rfl, fun _ => rfl, by decide +kernel⟩
theorem fl_X6_36 : aa_FL RX6 36 6 8 true (.array .int) := ⟨RX6, TX6, 16, tyX6, rfl, by decide, icX6, ⟨aa_t1 88 rfl, rfl⟩, tyX6_ok, nmX6, rfl, fun _ => rfl, by decide +kernel⟩
theorem fl_X6_39 : aa_FL RX6 39 6 9 true (.array .int) := ⟨RX6, TX6, 16, tyX6, rfl, by decide, icX6, ⟨aa_t1 89 rfl, rfl⟩, tyX6_ok, nmX6, rfl, fun _ => rfl, by decide +kernel⟩
theorem fl_X6_42 : aa_FL RX6 42 6 10 true (.array .int) := ⟨RX6, TX6, 16, tyX6, rfl, by decide, icX6, ⟨aa_t1 90 rfl, rfl⟩, tyX6_ok, nmX6, rfl, fun _ => rfl, by decide +kernel⟩
theorem fl_X6_45 : aa_FL RX6 45 6 11 true (.array .int) := ⟨RX6, TX6, 16, tyX6, rfl, by decide, icX6, ⟨aa_t1 91 rfl, rfl⟩, tyX6_ok, nmX6, rfl, fun _ => rfl, by decide +kernel⟩
theorem fl_X6_48 : aa_FL RX6 48 6 12 false (.int) := ⟨RX6, TX6, 16, tyX6, rfl, by decide, icX6, ⟨aa_t1 92 rfl, rfl⟩, tyX6_ok, nmX6, rfl, (fun h => nomatch h), by decide +kernel⟩
theorem fl_X6_52 : aa_FL RX6 52 6 13 false (.int) := ⟨RX6, TX6, 16, tyX6, rfl, by decide, icX6, ⟨aa_t1 93 rfl, rfl⟩, tyX6_ok, nmX6, rfl, (fun h => nomatch h), by decide +kernel⟩
theorem fl_X6_55 : aa_FL RX6 55 6 14 false (.int) := ⟨RX6, TX6, 16, tyX6, rfl, by decide, icX6, ⟨aa_t1 94 rfl, rfl⟩, tyX6_ok, nmX6, rfl, (fun h => nomatch h), by decide +kernel⟩
theorem fl_X6_58 : aa_FL RX6 58 6 15 false (.int) := ⟨RX6, TX6, 16, tyX6, rfl, by decide, icX6, ⟨aa_t1 95 rfl, rfl⟩, tyX6_ok, nmX6, rfl, (fun h => nomatch h), by decide +kernel⟩
theorem fl_X7_11 : aa_FL RX7 11 7 0 true (.array .int) := ⟨RX7, TX7, 12, tyX7, rfl, by decide, icX7, ⟨aa_t1 35 rfl, rfl⟩, tyX7_ok, nmX7, rfl, fun _ => rfl, by decide +kernel⟩
theorem fl_X7_15 : aa_FL RX7 15 7 1 false (.int) := ⟨RX7, TX7, 12, tyX7, rfl, by decide, icX7, ⟨aa_t1 36 rfl, rfl⟩, tyX7_ok, nmX7, rfl, (fun h => nomatch h), by decide +kernel⟩
theorem fl_X7_19 : aa_FL RX7 19 7 2 true (.array .int) := ⟨RX7, TX7, 12, tyX7, rfl, by decide, icX7, ⟨aa_t1 37 rfl, rfl⟩, tyX7_ok, nmX7, rfl, fun _ => rfl, by decide +kernel⟩
theorem fl_X7_22 : aa_FL RX7 22 7 3 true (.array .int) := ⟨RX7, TX7, 12, tyX7, rfl, by decide, icX7, ⟨aa_t1 38 rfl, rfl⟩, tyX7_ok, nmX7, rfl, fun _ => rfl, by decide +kernel⟩
theorem fl_X7_25 : aa_FL RX7 25 7 4 true (.array .int) := ⟨RX7, TX7, 12, tyX7, rfl, by decide, icX7, ⟨aa_t1 39 rfl, rfl⟩, tyX7_ok, nmX7, rfl, fun _ => rfl, by decide +kernel⟩
theorem fl_X7_28 : aa_FL RX7 28 7 5 true (.array .boolean) := ⟨RX7, TX7, 12, tyX7, rfl, by decide, icX7, ⟨aa_t1 40 rfl, rfl⟩, tyX7_ok, nmX7, rfl, fun _ => rfl, by decide +kernel⟩
theorem fl_X7_32 : aa_FL RX7 32 7 6 false (.int) := ⟨RX7, TX7, 12, tyX7, rfl, by decide, icX7, ⟨aa_t1 41 rfl, rfl⟩, tyX7_ok, nmX7, rfl, (fun h => nomatch h), by decide +kernel⟩
theorem fl_X7_35 : aa_FL RX7 35 7 7 false (.int) := ⟨RX7, TX7, 12, tyX7, rfl, by decide, icX7, ⟨aa_t1 42 rfl, rfl⟩, tyX7_ok, nmX7, rfl, (fun h => nomatch h), by decide +kernel⟩
theorem fl_X7_38 : aa_FL RX7 38 7 8 false (.int) := ⟨RX7, TX7, 12, tyX7, rfl, by decide, icX7, ⟨aa_t1 43 rfl, rfl⟩, tyX7_ok, nmX7, rfl, (fun h => nomatch h), by decide +kernel⟩
theorem fl_X7_41 : aa_FL RX7 41 7 9 false (.int) := ⟨RX7, TX7, 12, tyX7, rfl, by decide, icX7, ⟨aa_t1 44 rfl, rfl⟩, tyX7_ok, nmX7, rfl, (fun h => nomatch h), by decide +kernel⟩
theorem fl_X7_44 : aa_FL RX7 44 7 10 false (.int) := ⟨RX7, TX7, 12, tyX7, rfl, by decide, icX7, ⟨aa_t1 45 rfl, rfl⟩, tyX7_ok, nmX7, rfl, (fun h => nomatch h), by decide +kernel⟩
theorem fl_X7_47 : aa_FL RX7 47 7 11 false (.int) := ⟨RX7, TX7, 12, tyX7, rfl, by decide, icX7, ⟨aa_t1 46 rfl, rfl⟩, tyX7_ok, nmX7, rfl, (fun h => nomatch h), by decide +kernel⟩
theorem fl_X8_9 : aa_FL RX8 9 8 0 false (.array .byte) := ⟨RX8, TX8, 1, tyX8, rfl, by decide, icX8, ⟨aa_t1 224 rfl, rfl⟩, tyX8_ok, nmX8, rfl, (fun h => nomatch h), by decide +kernel⟩
theorem fl_X9_12 : aa_FL RX9 12 9 1 true (.object "AllAboveIt$Memo") := ⟨RX9, TX9, 6, tyX9, rfl, by decide, icX9, ⟨aa_t1 173 rfl, rfl⟩, tyX9_ok, nmX9, rfl, fun _ => rfl, by decide +kernel⟩
theorem fl_X9_18 : aa_FL RX9 18 9 2 true (.object "AllAboveIt$Memo") := ⟨RX9, TX9, 6, tyX9, rfl, by decide, icX9, ⟨aa_t1 174 rfl, rfl⟩, tyX9_ok, nmX9, rfl, fun _ => rfl, by decide +kernel⟩
theorem fl_X9_21 : aa_FL RX9 21 9 3 false (.int) := ⟨RX9, TX9, 6, tyX9, rfl, by decide, icX9, ⟨aa_t1 175 rfl, rfl⟩, tyX9_ok, nmX9, rfl, (fun h => nomatch h), by decide +kernel⟩
theorem fl_X9_25 : aa_FL RX9 25 9 4 false (.int) := ⟨RX9, TX9, 6, tyX9, rfl, by decide, icX9, ⟨aa_t1 176 rfl, rfl⟩, tyX9_ok, nmX9, rfl, (fun h => nomatch h), by decide +kernel⟩
theorem fl_X9_28 : aa_FL RX9 28 9 5 false (.int) := ⟨RX9, TX9, 6, tyX9, rfl, by decide, icX9, ⟨aa_t1 177 rfl, rfl⟩, tyX9_ok, nmX9, rfl, (fun h => nomatch h), by decide +kernel⟩
theorem fl_X9_31 : aa_FL RX9 31 9 0 true (.object "AllAboveIt$Pile") := ⟨RX9, TX9, 6, tyX9, rfl, by decide, icX9, ⟨aa_t1 172 rfl, rfl⟩, tyX9_ok, nmX9, rfl, fun _ => rfl, by decide +kernel⟩
theorem ld_J13_314 : aa_lk (Cond.constantLong RJ13 314 (lN 6148914691236517205)) := ⟨aa_t5 222 rfl, rfl⟩
theorem ld_J13_316 : aa_lk (Cond.constantLong RJ13 316 (lN 3689348814741910323)) := ⟨aa_t5 223 rfl, rfl⟩
theorem ld_J13_318 : aa_lk (Cond.constantLong RJ13 318 (lN 1085102592571150095)) := ⟨aa_t5 224 rfl, rfl⟩
theorem ld_J6_264 : aa_lk (Cond.constant RJ6 264 (nI 65536)) := ⟨aa_t7 62 rfl, rfl⟩
theorem ld_J6_265 : aa_lk (Cond.constant RJ6 265 (nI 1431655765)) := ⟨aa_t4 16 rfl, rfl⟩
theorem ld_J6_266 : aa_lk (Cond.constant RJ6 266 (nI 858993459)) := ⟨aa_t4 17 rfl, rfl⟩
theorem ld_J6_267 : aa_lk (Cond.constant RJ6 267 (nI 252645135)) := ⟨aa_t4 18 rfl, rfl⟩
theorem ld_X1_84 : aa_lk (Cond.constantLong RX1 84 (lN 518400)) := ⟨aa_t5 28 rfl, rfl⟩
theorem ld_X1_94 : aa_lk (Cond.constantLong RX1 94 (lN 518400000000)) := ⟨aa_t5 123 rfl, rfl⟩
theorem ld_X10_38 : aa_lk (Cond.constant RX10 38 (nI 65535)) := ⟨aa_t4 186 rfl, rfl⟩
theorem ld_X11_303 : aa_lk (Cond.constantLong RX11 303 (-1)) := ⟨aa_t4 166 rfl, rfl⟩
theorem ld_X11_326 : aa_lk (Cond.constantLong RX11 326 (lN 518400)) := ⟨aa_t5 38 rfl, rfl⟩
theorem ld_X11_350 : aa_lk (Cond.constantLong RX11 350 (lN 518400000000)) := ⟨aa_t5 128 rfl, rfl⟩
theorem ld_X12_35 : aa_lk (Cond.constantLong RX12 35 (lN 48)) := ⟨aa_t6 134 rfl, rfl⟩
theorem ld_X12_37 : aa_lk (Cond.constantLong RX12 37 (lN 57)) := ⟨aa_t6 135 rfl, rfl⟩
theorem ld_X12_111 : aa_lk (Cond.constantLong RX12 111 (lN 5)) := ⟨aa_t6 166 rfl, rfl⟩
theorem ld_X12_127 : aa_lk (Cond.constantLong RX12 127 (lN 3)) := ⟨aa_t6 187 rfl, rfl⟩
theorem ld_X12_132 : aa_lk (Cond.constantLong RX12 132 (lN 27)) := ⟨aa_t6 202 rfl, rfl⟩
theorem ld_X12_144 : aa_lk (Cond.constantLong RX12 144 (lN 2)) := ⟨aa_t6 193 rfl, rfl⟩
theorem ld_X12_155 : aa_lk (Cond.constantLong RX12 155 (lN 15)) := ⟨aa_t6 227 rfl, rfl⟩
theorem ld_X12_170 : aa_lk (Cond.constant RX12 170 (nI 65536)) := ⟨aa_t7 20 rfl, rfl⟩
theorem ld_X12_204 : aa_lk (Cond.constantLong RX12 204 (-1)) := ⟨aa_t7 53 rfl, rfl⟩
theorem ld_X12_230 : aa_lk (Cond.constant RX12 230 (nI 49152)) := ⟨aa_t7 95 rfl, rfl⟩
theorem ld_X12_240 : aa_lk (Cond.constantLong RX12 240 (lN 31)) := ⟨aa_t7 112 rfl, rfl⟩
theorem ld_X12_260 : aa_lk (Cond.constantLong RX12 260 (lN 7)) := ⟨aa_t7 133 rfl, rfl⟩
theorem ld_X12_306 : aa_lk (Cond.constantLong RX12 306 (lN 10)) := ⟨aa_t7 217 rfl, rfl⟩
theorem ld_X12_338 : aa_lk (Cond.constantLong RX12 338 (lN 13)) := ⟨aa_t8 9 rfl, rfl⟩
theorem ld_X12_340 : aa_lk (Cond.constantLong RX12 340 (lN 20)) := ⟨aa_t8 10 rfl, rfl⟩
theorem ld_X12_342 : aa_lk (Cond.constantLong RX12 342 (lN 34)) := ⟨aa_t8 11 rfl, rfl⟩
theorem ld_X12_372 : aa_lk (Cond.constant RX12 372 (nI 196608)) := ⟨aa_t8 49 rfl, rfl⟩
theorem ld_X12_373 : aa_lk (Cond.constant RX12 373 (nI 32768)) := ⟨aa_t8 50 rfl, rfl⟩
theorem ld_X5_69 : aa_lk (Cond.constantLong RX5 69 (lN 2)) := ⟨aa_t5 106 rfl, rfl⟩
theorem ld_X9_81 : aa_lk (Cond.constantLong RX9 81 (lN 2)) := ⟨aa_t3 214 rfl, rfl⟩
theorem ld_X9_91 : aa_lk (Cond.constantLong RX9 91 (-1)) := ⟨aa_t4 8 rfl, rfl⟩
theorem nl_L_8 : aa_NL RL 8 11 [.null, .null, .null, .null, .null, .null, .null, .null, .null, .null, .null, .null, .null, .int 0] := ⟨RX11, TX11, 14, tyX11, rfl, icX11, tyX11_ok, ⟨aa_t1 21 rfl, rfl⟩, ⟨aa_t1 22 rfl, rfl⟩, ⟨aa_t1 1 rfl, rfl⟩, by decide +kernel, rfl, by decide +kernel⟩
theorem nl_L_20 : aa_NL RL 20 12 [.int 0, .int 0, .null, .int 0, .null, .null, .null, .null, .int 0, .null, .int 0, .int 0, .int 0, .int 0, .null, .null, .null, .int 0, .int 0, .int 0, .int 0, .null, .null, .null, .int 0, .int 0, .null, .null, .null, .null, .null, .null, .null, .int 0, .int 0, .null, .null, .null] := ⟨RX12, TX12, 38, tyX12, rfl, icX12, tyX12_ok, ⟨aa_t8 44 rfl, rfl⟩, ⟨aa_t6 124 rfl, rfl⟩, ⟨aa_t1 13 rfl, rfl⟩, by decide +kernel, rfl, by decide +kernel⟩
theorem nl_X0_45 : aa_NL RX0 45 1 [.null, .null, .null, .null, .null, .int 0, .int 0, .int 0, .int 0] := ⟨RX1, TX1, 9, tyX1, rfl, icX1, tyX1_ok, ⟨aa_t2 65 rfl, rfl⟩, ⟨aa_t2 8 rfl, rfl⟩, ⟨aa_t1 10 rfl, rfl⟩, by decide +kernel, rfl, by decide +kernel⟩
theorem nl_X10_9 : aa_NL RX10 9 4 [.null, .int 0] := ⟨RX4, TX4, 2, tyX4, rfl, icX4, tyX4_ok, ⟨aa_t1 235 rfl, rfl⟩, ⟨aa_t1 159 rfl, rfl⟩, ⟨aa_t1 6 rfl, rfl⟩, by decide +kernel, rfl, by decide +kernel⟩
theorem nl_X11_9 : aa_NL RX11 9 7 [.null, .int 0, .null, .null, .null, .null, .int 0, .int 0, .int 0, .int 0, .int 0, .int 0] := ⟨RX7, TX7, 12, tyX7, rfl, icX7, tyX7_ok, ⟨aa_t1 29 rfl, rfl⟩, ⟨aa_t1 30 rfl, rfl⟩, ⟨aa_t1 2 rfl, rfl⟩, by decide +kernel, rfl, by decide +kernel⟩
theorem nl_X11_16 : aa_NL RX11 16 6 [.null, .null, .null, .null, .null, .null, .null, .null, .null, .null, .null, .null, .int 0, .int 0, .int 0, .int 0] := ⟨RX6, TX6, 16, tyX6, rfl, icX6, tyX6_ok, ⟨aa_t1 74 rfl, rfl⟩, ⟨aa_t1 75 rfl, rfl⟩, ⟨aa_t1 3 rfl, rfl⟩, by decide +kernel, rfl, by decide +kernel⟩
theorem nl_X11_23 : aa_NL RX11 23 2 [.null, .null, .int 0, .int 0, .int 0] := ⟨RX2, TX2, 5, tyX2, rfl, icX2, tyX2_ok, ⟨aa_t1 129 rfl, rfl⟩, ⟨aa_t1 130 rfl, rfl⟩, ⟨aa_t1 4 rfl, rfl⟩, by decide +kernel, rfl, by decide +kernel⟩
theorem nl_X11_40 : aa_NL RX11 40 9 [.null, .null, .null, .int 0, .int 0, .int 0] := ⟨RX9, TX9, 6, tyX9, rfl, icX9, tyX9_ok, ⟨aa_t1 152 rfl, rfl⟩, ⟨aa_t1 153 rfl, rfl⟩, ⟨aa_t1 5 rfl, rfl⟩, by decide +kernel, rfl, by decide +kernel⟩
theorem nl_X11_47 : aa_NL RX11 47 3 [.null, .null, .null, .null, .null, .null] := ⟨RX3, TX3, 6, tyX3, rfl, icX3, tyX3_ok, ⟨aa_t1 191 rfl, rfl⟩, ⟨aa_t1 192 rfl, rfl⟩, ⟨aa_t1 7 rfl, rfl⟩, by decide +kernel, rfl, by decide +kernel⟩
theorem nl_X11_54 : aa_NL RX11 54 8 [.null] := ⟨RX8, TX8, 1, tyX8, rfl, icX8, tyX8_ok, ⟨aa_t1 218 rfl, rfl⟩, ⟨aa_t1 219 rfl, rfl⟩, ⟨aa_t1 8 rfl, rfl⟩, by decide +kernel, rfl, by decide +kernel⟩
theorem nl_X11_61 : aa_NL RX11 61 10 [.null, .null, .long 0] := ⟨RX10, TX10, 3, tyX10, rfl, icX10, tyX10_ok, ⟨aa_t1 229 rfl, rfl⟩, ⟨aa_t1 230 rfl, rfl⟩, ⟨aa_t1 9 rfl, rfl⟩, by decide +kernel, rfl, by decide +kernel⟩
theorem nl_X11_68 : aa_NL RX11 68 1 [.null, .null, .null, .null, .null, .int 0, .int 0, .int 0, .int 0] := ⟨RX1, TX1, 9, tyX1, rfl, icX1, tyX1_ok, ⟨aa_t2 7 rfl, rfl⟩, ⟨aa_t2 8 rfl, rfl⟩, ⟨aa_t1 10 rfl, rfl⟩, by decide +kernel, rfl, by decide +kernel⟩
theorem nl_X11_75 : aa_NL RX11 75 5 [.null, .null, .int 0] := ⟨RX5, TX5, 3, tyX5, rfl, icX5, tyX5_ok, ⟨aa_t2 41 rfl, rfl⟩, ⟨aa_t2 42 rfl, rfl⟩, ⟨aa_t1 11 rfl, rfl⟩, by decide +kernel, rfl, by decide +kernel⟩
theorem nl_X11_82 : aa_NL RX11 82 0 [.null, .null, .null, .int 0, .int 0, .int 0, .int 0, .int 0, .int 0, .int 0, .int 0] := ⟨RX0, TX0, 11, tyX0, rfl, icX0, tyX0_ok, ⟨aa_t2 59 rfl, rfl⟩, ⟨aa_t2 60 rfl, rfl⟩, ⟨aa_t1 12 rfl, rfl⟩, by decide +kernel, rfl, by decide +kernel⟩
theorem nl_X3_9 : aa_NL RX3 9 4 [.null, .int 0] := ⟨RX4, TX4, 2, tyX4, rfl, icX4, tyX4_ok, ⟨aa_t1 197 rfl, rfl⟩, ⟨aa_t1 159 rfl, rfl⟩, ⟨aa_t1 6 rfl, rfl⟩, by decide +kernel, rfl, by decide +kernel⟩
theorem nl_X5_9 : aa_NL RX5 9 4 [.null, .int 0] := ⟨RX4, TX4, 2, tyX4, rfl, icX4, tyX4_ok, ⟨aa_t2 47 rfl, rfl⟩, ⟨aa_t1 159 rfl, rfl⟩, ⟨aa_t1 6 rfl, rfl⟩, by decide +kernel, rfl, by decide +kernel⟩
theorem nl_X9_9 : aa_NL RX9 9 4 [.null, .int 0] := ⟨RX4, TX4, 2, tyX4, rfl, icX4, tyX4_ok, ⟨aa_t1 158 rfl, rfl⟩, ⟨aa_t1 159 rfl, rfl⟩, ⟨aa_t1 6 rfl, rfl⟩, by decide +kernel, rfl, by decide +kernel⟩
theorem la_int : aa_lk (.arrayClass (newarray.typeOf .int)) := ⟨aa_t1 72 rfl, rfl⟩
theorem la_long : aa_lk (.arrayClass (newarray.typeOf .long)) := ⟨aa_t1 171 rfl, rfl⟩
theorem la_boolean : aa_lk (.arrayClass (newarray.typeOf .boolean)) := ⟨aa_t1 73 rfl, rfl⟩
theorem la_byte : aa_lk (.arrayClass (newarray.typeOf .byte)) := ⟨aa_t1 228 rfl, rfl⟩
theorem lo_1 : aa_lk (.instanceMethod objectInit) := ⟨aa_t1 27 rfl, rfl⟩
theorem lo_2 : aa_lk (.code objectInit ⟨#[0xb1]⟩ 1 none) := ⟨aa_t1 28 rfl, rfl⟩
theorem lo_X0_3 : aa_lk (.methodLink RX0 3 objectInit) := ⟨aa_t2 64 rfl, rfl⟩
theorem lo_X1_5 : aa_lk (.methodLink RX1 5 objectInit) := ⟨aa_t2 12 rfl, rfl⟩
theorem lo_X10_3 : aa_lk (.methodLink RX10 3 objectInit) := ⟨aa_t1 234 rfl, rfl⟩
theorem lo_X11_3 : aa_lk (.methodLink RX11 3 objectInit) := ⟨aa_t1 26 rfl, rfl⟩
theorem lo_X12_367 : aa_lk (.methodLink RX12 367 objectInit) := ⟨aa_t8 48 rfl, rfl⟩
theorem lo_X2_3 : aa_lk (.methodLink RX2 3 objectInit) := ⟨aa_t1 134 rfl, rfl⟩
theorem lo_X3_3 : aa_lk (.methodLink RX3 3 objectInit) := ⟨aa_t1 196 rfl, rfl⟩
theorem lo_X4_3 : aa_lk (.methodLink RX4 3 objectInit) := ⟨aa_t1 163 rfl, rfl⟩
theorem lo_X5_3 : aa_lk (.methodLink RX5 3 objectInit) := ⟨aa_t2 46 rfl, rfl⟩
theorem lo_X6_5 : aa_lk (.methodLink RX6 5 objectInit) := ⟨aa_t1 79 rfl, rfl⟩
theorem lo_X7_3 : aa_lk (.methodLink RX7 3 objectInit) := ⟨aa_t1 34 rfl, rfl⟩
theorem lo_X8_3 : aa_lk (.methodLink RX8 3 objectInit) := ⟨aa_t1 223 rfl, rfl⟩
theorem lo_X9_3 : aa_lk (.methodLink RX9 3 objectInit) := ⟨aa_t1 157 rfl, rfl⟩
