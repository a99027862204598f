abbrev mX8_init : MI := (8, yX8_init, cX8_init, 2, none)
abbrev mX3_init : MI := (3, yX3_init, cX3_init, 1, none)
abbrev mX4_init : MI := (4, yX4_init, cX4_init, 1, none)
abbrev mX4_begin : MI := (4, yX4_begin, cX4_begin, 4, none)
abbrev mX4_onBoard : MI := (4, yX4_onBoard, cX4_onBoard, 2, (some .boolean))
abbrev mX8_within : MI := (8, yX8_within, cX8_within, 3, (some .boolean))
abbrev mX4_flatten : MI := (4, yX4_flatten, cX4_flatten, 2, none)
abbrev mX4_measure : MI := (4, yX4_measure, cX4_measure, 3, none)
abbrev mX2_init : MI := (2, yX2_init, cX2_init, 1, none)
abbrev mX6_init : MI := (6, yX6_init, cX6_init, 1, none)
abbrev mX1_init : MI := (1, yX1_init, cX1_init, 1, none)
abbrev mX0_init : MI := (0, yX0_init, cX0_init, 1, none)
abbrev mX7_init : MI := (7, yX7_init, cX7_init, 1, none)
abbrev mX5_init : MI := (5, yX5_init, cX5_init, 1, none)
abbrev mX8_board : MI := (8, yX8_board, cX8_board, 3, (some .int))
abbrev mX8_refuseBad : MI := (8, yX8_refuseBad, cX8_refuseBad, 2, (some .int))
abbrev mX3_begin : MI := (3, yX3_begin, cX3_begin, 3, none)
abbrev mX2_forget : MI := (2, yX2_forget, cX2_forget, 1, none)
abbrev mX5_forget : MI := (5, yX5_forget, cX5_forget, 1, none)
abbrev mX4_howMany : MI := (4, yX4_howMany, cX4_howMany, 3, (some .int))
abbrev mX8_hole : MI := (8, yX8_hole, cX8_hole, 2, (some .int))
abbrev mX4_has : MI := (4, yX4_has, cX4_has, 2, (some .boolean))
abbrev mX3_manOn : MI := (3, yX3_manOn, cX3_manOn, 3, (some .int))
abbrev mX3_isIn : MI := (3, yX3_isIn, cX3_isIn, 2, (some .boolean))
abbrev mX8_refuseNo : MI := (8, yX8_refuseNo, cX8_refuseNo, 2, (some .int))
abbrev mX4_cutOut : MI := (4, yX4_cutOut, cX4_cutOut, 2, none)
abbrev mX8_man : MI := (8, yX8_man, cX8_man, 6, (some .int))
abbrev mX8_refuseFull : MI := (8, yX8_refuseFull, cX8_refuseFull, 1, (some .int))
abbrev mX3_enter : MI := (3, yX3_enter, cX3_enter, 5, (some .int))
abbrev mX8_put : MI := (8, yX8_put, cX8_put, 4, (some .int))
abbrev mX8_cell : MI := (8, yX8_cell, cX8_cell, 3, (some .int))
abbrev mX8_pile : MI := (8, yX8_pile, cX8_pile, 5, (some .int))
abbrev mX4_heightAt : MI := (4, yX4_heightAt, cX4_heightAt, 5, (some .int))
abbrev mX4_liesAt : MI := (4, yX4_liesAt, cX4_liesAt, 4, (some .boolean))
abbrev mX4_cellAt : MI := (4, yX4_cellAt, cX4_cellAt, 5, (some .int))
abbrev mX4_cellsUnder : MI := (4, yX4_cellsUnder, cX4_cellsUnder, 4, (some .int))
abbrev mX8_strength : MI := (8, yX8_strength, cX8_strength, 2, (some .int))
abbrev mX3_powerOf : MI := (3, yX3_powerOf, cX3_powerOf, 2, (some .int))
abbrev mX8_powerOfKind : MI := (8, yX8_powerOfKind, cX8_powerOfKind, 4, (some .int))
abbrev mX8_ruler : MI := (8, yX8_ruler, cX8_ruler, 3, (some .int))
abbrev mX3_rulerAt : MI := (3, yX3_rulerAt, cX3_rulerAt, 10, (some .int))
abbrev mX8_where : MI := (8, yX8_where, cX8_where, 2, (some .int))
abbrev mX8_step : MI := (8, yX8_step, cX8_step, 6, (some .int))
abbrev mX3_goalOf : MI := (3, yX3_goalOf, cX3_goalOf, 10, (some .int))
abbrev mX3_onTurn : MI := (3, yX3_onTurn, cX3_onTurn, 1, (some .int))
abbrev mX3_isOpen : MI := (3, yX3_isOpen, cX3_isOpen, 3, (some .boolean))
abbrev mX4_topAt : MI := (4, yX4_topAt, cX4_topAt, 5, (some .int))
abbrev mX2_keep : MI := (2, yX2_keep, cX2_keep, 2, none)
abbrev mX3_save : MI := (3, yX3_save, cX3_save, 2, none)
abbrev mX4_save : MI := (4, yX4_save, cX4_save, 3, none)
abbrev mX3_carry : MI := (3, yX3_carry, cX3_carry, 4, (some .int))
abbrev mX3_makeDue : MI := (3, yX3_makeDue, cX3_makeDue, 3, none)
abbrev mX4_choices : MI := (4, yX4_choices, cX4_choices, 1, (some .int))
abbrev mX8_fold : MI := (8, yX8_fold, cX8_fold, 4, (some .int))
abbrev mX4_mayCrease : MI := (4, yX4_mayCrease, cX4_mayCrease, 3, (some .boolean))
abbrev mX3_creaseDue : MI := (3, yX3_creaseDue, cX3_creaseDue, 4, none)
abbrev mX4_crease : MI := (4, yX4_crease, cX4_crease, 6, none)
abbrev mX8_turns : MI := (8, yX8_turns, cX8_turns, 3, (some .boolean))
abbrev mX8_mirrored : MI := (8, yX8_mirrored, cX8_mirrored, 2, (some .int))
abbrev mX8_state : MI := (8, yX8_state, cX8_state, 2, (some .int))
abbrev mX3_behindNow : MI := (3, yX3_behindNow, cX3_behindNow, 5, (some .int))
abbrev mX3_winner : MI := (3, yX3_winner, cX3_winner, 3, (some .int))
abbrev mX3_menOf : MI := (3, yX3_menOf, cX3_menOf, 4, (some .int))
abbrev mX8_undo : MI := (8, yX8_undo, cX8_undo, 1, (some .int))
abbrev mX2_goBack : MI := (2, yX2_goBack, cX2_goBack, 2, (some .boolean))
abbrev mX3_load : MI := (3, yX3_load, cX3_load, 2, none)
abbrev mX4_load : MI := (4, yX4_load, cX4_load, 4, none)
abbrev mX4_isFoldedAs : MI := (4, yX4_isFoldedAs, cX4_isFoldedAs, 3, (some .boolean))
abbrev mX8_folds : MI := (8, yX8_folds, cX8_folds, 3, (some .int))
abbrev mX4_choiceAxis : MI := (4, yX4_choiceAxis, cX4_choiceAxis, 2, (some .int))
abbrev mX4_choiceLine : MI := (4, yX4_choiceLine, cX4_choiceLine, 3, (some .int))
abbrev mX4_choiceWay : MI := (4, yX4_choiceWay, cX4_choiceWay, 2, (some .int))
abbrev mX8_leaves : MI := (8, yX8_leaves, cX8_leaves, 3, (some .int))
abbrev mX1_lookBehind : MI := (1, yX1_lookBehind, cX1_lookBehind, 4, none)
abbrev mX1_look : MI := (1, yX1_look, cX1_look, 9, none)
abbrev mX1_rulersOf : MI := (1, yX1_rulersOf, cX1_rulersOf, 5, (some .int))
abbrev mX1_rulerOver : MI := (1, yX1_rulerOver, cX1_rulerOver, 6, (some .int))
abbrev mX8_habit : MI := (8, yX8_habit, cX8_habit, 1, (some .int))
abbrev mX1_habitOf : MI := (1, yX1_habitOf, cX1_habitOf, 8, (some .int))
abbrev mX8_safe : MI := (8, yX8_safe, cX8_safe, 1, (some .int))
abbrev mX1_safeMen : MI := (1, yX1_safeMen, cX1_safeMen, 4, (some .int))
abbrev mX1_lookNow : MI := (1, yX1_lookNow, cX1_lookNow, 2, none)
abbrev mX1_ruledByOwn : MI := (1, yX1_ruledByOwn, cX1_ruledByOwn, 4, (some .int))
abbrev mX8_small : MI := (8, yX8_small, cX8_small, 2, (some .int))
abbrev mX5_fewestFolds : MI := (5, yX5_fewestFolds, cX5_fewestFolds, 4, (some .int))
abbrev mX5_survey : MI := (5, yX5_survey, cX5_survey, 3, none)
abbrev mX5_explore : MI := (5, yX5_explore, cX5_explore, 10, none)
abbrev mX5_positions : MI := (5, yX5_positions, cX5_positions, 6, (some .int))
abbrev mX5_firstLike : MI := (5, yX5_firstLike, cX5_firstLike, 3, (some .int))
abbrev mJ13_bitCount_95d88 : MI := (11, yJ13_bitCount_95d88, cJ13_bitCount_95d88, 2, (some .int))
abbrev mX5_outmost : MI := (5, yX5_outmost, cX5_outmost, 6, (some .int))
abbrev mX5_bend : MI := (5, yX5_bend, cX5_bend, 5, none)
abbrev mX8_reach : MI := (8, yX8_reach, cX8_reach, 4, (some .int))
abbrev mX7_howFar : MI := (7, yX7_howFar, cX7_howFar, 8, (some .int))
abbrev mX7_spread : MI := (7, yX7_spread, cX7_spread, 9, (some .int))
abbrev mX8_wins : MI := (8, yX8_wins, cX8_wins, 2, (some .int))
abbrev mX0_sureWithin : MI := (0, yX0_sureWithin, cX0_sureWithin, 4, (some .boolean))
abbrev mX0_isForced : MI := (0, yX0_isForced, cX0_isForced, 8, (some .boolean))
abbrev mX0_canBeTaken : MI := (0, yX0_canBeTaken, cX0_canBeTaken, 2, (some .boolean))
abbrev mX0_firstStep : MI := (0, yX0_firstStep, cX0_firstStep, 13, (some .int))
abbrev mX0_listLeaders : MI := (0, yX0_listLeaders, cX0_listLeaders, 5, (some .int))
abbrev mX0_leads : MI := (0, yX0_leads, cX0_leads, 3, (some .boolean))
abbrev mX0_liesAhead : MI := (0, yX0_liesAhead, cX0_liesAhead, 6, (some .boolean))
abbrev mX0_wayOf : MI := (0, yX0_wayOf, cX0_wayOf, 1, (some .int))
abbrev mX0_farOf : MI := (0, yX0_farOf, cX0_farOf, 1, (some .int))
abbrev mX8_best : MI := (8, yX8_best, cX8_best, 2, (some .int))
abbrev mX0_firstSure : MI := (0, yX0_firstSure, cX0_firstSure, 7, (some .int))
abbrev mX8_type : MI := (8, yX8_type, cX8_type, 5, (some .int))
abbrev mX6_add : MI := (6, yX6_add, cX6_add, 2, none)
abbrev mX8_clear : MI := (8, yX8_clear, cX8_clear, 2, (some .int))
abbrev mX8_fault : MI := (8, yX8_fault, cX8_fault, 1, (some .int))
abbrev mX6_faultPlace : MI := (6, yX6_faultPlace, cX6_faultPlace, 3, (some .int))
abbrev mX6_rewind : MI := (6, yX6_rewind, cX6_rewind, 1, none)
abbrev mX6_readItem : MI := (6, yX6_readItem, cX6_readItem, 4, (some .int))
abbrev mX6_nextToken : MI := (6, yX6_nextToken, cX6_nextToken, 2, (some .int))
abbrev mX6_byteAt : MI := (6, yX6_byteAt, cX6_byteAt, 2, (some .int))
abbrev mX6_isLetter : MI := (6, yX6_isLetter, cX6_isLetter, 1, (some .boolean))
abbrev mX6_readWord : MI := (6, yX6_readWord, cX6_readWord, 1, (some .int))
abbrev mX6_tokenIs : MI := (6, yX6_tokenIs, cX6_tokenIs, 3, (some .boolean))
abbrev mX6_isFigure : MI := (6, yX6_isFigure, cX6_isFigure, 1, (some .boolean))
abbrev mX6_readNumber : MI := (6, yX6_readNumber, cX6_readNumber, 4, (some .int))
abbrev mX8_judge : MI := (8, yX8_judge, cX8_judge, 2, (some .int))
abbrev mX8_firstWrongItem : MI := (8, yX8_firstWrongItem, cX8_firstWrongItem, 2, (some .int))
abbrev mX8_playItem : MI := (8, yX8_playItem, cX8_playItem, 3, (some .boolean))
abbrev mX8_image : MI := (8, yX8_image, cX8_image, 2, (some .int))
abbrev mX8_isImage : MI := (8, yX8_isImage, cX8_isImage, 2, (some .boolean))
abbrev mX3_copy : MI := (3, yX3_copy, cX3_copy, 2, none)
abbrev mX4_copy : MI := (4, yX4_copy, cX4_copy, 2, none)
abbrev mX2_copy : MI := (2, yX2_copy, cX2_copy, 3, none)
abbrev mX8_from : MI := (8, yX8_from, cX8_from, 2, (some .int))
abbrev mX8_status : MI := (8, yX8_status, cX8_status, 2, (some .int))
abbrev mX8_count : MI := (8, yX8_count, cX8_count, 2, (some .int))
abbrev mX8_digest : MI := (8, yX8_digest, cX8_digest, 4, (some .long))
abbrev mX8_mix : MI := (8, yX8_mix, cX8_mix, 3, (some .long))
abbrev mX8_mixBoard : MI := (8, yX8_mixBoard, cX8_mixBoard, 6, (some .long))
abbrev mX9_init : MI := (9, yX9_init, cX9_init, 1, none)
abbrev mX9_board : MI := (9, yX9_board, cX9_board, 4, (some .int))
abbrev mX9_in : MI := (9, yX9_in, cX9_in, 6, (some .boolean))
abbrev mX9_bad : MI := (9, yX9_bad, cX9_bad, 1, (some .int))
abbrev mX9_refuses : MI := (9, yX9_refuses, cX9_refuses, 3, (some .int))
abbrev mX9_hole : MI := (9, yX9_hole, cX9_hole, 2, (some .int))
abbrev mX9_isManOn : MI := (9, yX9_isManOn, cX9_isManOn, 4, (some .boolean))
abbrev mX9_no : MI := (9, yX9_no, cX9_no, 1, (some .int))
abbrev mX9_man : MI := (9, yX9_man, cX9_man, 6, (some .int))
abbrev mX9_isCell : MI := (9, yX9_isCell, cX9_isCell, 2, (some .boolean))
abbrev mX9_full : MI := (9, yX9_full, cX9_full, 1, (some .int))
abbrev mX9_put : MI := (9, yX9_put, cX9_put, 4, (some .int))
abbrev mX9_cell : MI := (9, yX9_cell, cX9_cell, 3, (some .int))
abbrev mX9_lays : MI := (9, yX9_lays, cX9_lays, 2, none)
abbrev mX9_flat : MI := (9, yX9_flat, cX9_flat, 2, none)
abbrev mX9_turnsOver : MI := (9, yX9_turnsOver, cX9_turnsOver, 6, none)
abbrev mX9_moves : MI := (9, yX9_moves, cX9_moves, 6, (some .boolean))
abbrev mX9_pile : MI := (9, yX9_pile, cX9_pile, 8, (some .int))
abbrev mX9_isAt : MI := (9, yX9_isAt, cX9_isAt, 4, (some .boolean))
abbrev mX9_strength : MI := (9, yX9_strength, cX9_strength, 2, (some .int))
abbrev mX9_isHere : MI := (9, yX9_isHere, cX9_isHere, 2, (some .boolean))
abbrev mX9_strengthOf : MI := (9, yX9_strengthOf, cX9_strengthOf, 6, (some .int))
abbrev mX9_ruler : MI := (9, yX9_ruler, cX9_ruler, 3, (some .int))
abbrev mX9_rulerAt : MI := (9, yX9_rulerAt, cX9_rulerAt, 8, (some .int))
abbrev mX9_where : MI := (9, yX9_where, cX9_where, 2, (some .int))
abbrev mX9_step : MI := (9, yX9_step, cX9_step, 5, (some .int))
abbrev mX9_keeps : MI := (9, yX9_keeps, cX9_keeps, 4, none)
abbrev mX9_steps : MI := (9, yX9_steps, cX9_steps, 13, (some .boolean))
abbrev mX9_ownerOf : MI := (9, yX9_ownerOf, cX9_ownerOf, 2, (some .int))
abbrev mX9_turn : MI := (9, yX9_turn, cX9_turn, 1, (some .int))
abbrev mX9_wayX : MI := (9, yX9_wayX, cX9_wayX, 1, (some .int))
abbrev mX9_wayY : MI := (9, yX9_wayY, cX9_wayY, 1, (some .int))
abbrev mX9_topAt : MI := (9, yX9_topAt, cX9_topAt, 5, (some .int))
abbrev mX9_anyFold : MI := (9, yX9_anyFold, cX9_anyFold, 1, (some .boolean))
abbrev mX9_end : MI := (9, yX9_end, cX9_end, 7, (some .int))
abbrev mX9_remembers : MI := (9, yX9_remembers, cX9_remembers, 2, none)
abbrev mX9_fold : MI := (9, yX9_fold, cX9_fold, 4, (some .int))
abbrev mX9_makes : MI := (9, yX9_makes, cX9_makes, 5, (some .boolean))
abbrev mX9_mayFold : MI := (9, yX9_mayFold, cX9_mayFold, 7, (some .boolean))
abbrev mX9_state : MI := (9, yX9_state, cX9_state, 2, (some .int))
abbrev mX9_behind : MI := (9, yX9_behind, cX9_behind, 4, (some .int))
abbrev mX9_won : MI := (9, yX9_won, cX9_won, 5, (some .int))
abbrev mX9_undo : MI := (9, yX9_undo, cX9_undo, 2, (some .int))
abbrev mX9_folds : MI := (9, yX9_folds, cX9_folds, 2, (some .int))
abbrev mX9_foldsNow : MI := (9, yX9_foldsNow, cX9_foldsNow, 1, (some .int))
abbrev mX9_pick : MI := (9, yX9_pick, cX9_pick, 4, none)
abbrev mX9_leaves : MI := (9, yX9_leaves, cX9_leaves, 3, (some .int))
abbrev mX9_laysWith : MI := (9, yX9_laysWith, cX9_laysWith, 2, none)
abbrev mX9_rules : MI := (9, yX9_rules, cX9_rules, 5, (some .int))
abbrev mX9_habit : MI := (9, yX9_habit, cX9_habit, 1, (some .int))
abbrev mX9_habitNow : MI := (9, yX9_habitNow, cX9_habitNow, 7, (some .int))
abbrev mX9_safe : MI := (9, yX9_safe, cX9_safe, 4, (some .int))
abbrev mX9_safeNow : MI := (9, yX9_safeNow, cX9_safeNow, 3, (some .int))
abbrev mX9_small : MI := (9, yX9_small, cX9_small, 9, (some .int))
abbrev mX9_places : MI := (9, yX9_places, cX9_places, 5, (some .int))
abbrev mX9_reach : MI := (9, yX9_reach, cX9_reach, 9, (some .int))
abbrev mX9_wins : MI := (9, yX9_wins, cX9_wins, 3, (some .int))
abbrev mX9_plays : MI := (9, yX9_plays, cX9_plays, 8, (some .boolean))
abbrev mX9_settles : MI := (9, yX9_settles, cX9_settles, 1, none)
abbrev mX9_takes : MI := (9, yX9_takes, cX9_takes, 4, none)
abbrev mX9_picksStep : MI := (9, yX9_picksStep, cX9_picksStep, 4, (some .boolean))
abbrev mX9_best : MI := (9, yX9_best, cX9_best, 6, (some .int))
abbrev mX9_type : MI := (9, yX9_type, cX9_type, 5, (some .int))
abbrev mX9_clear : MI := (9, yX9_clear, cX9_clear, 2, (some .int))
abbrev mX9_fault : MI := (9, yX9_fault, cX9_fault, 1, (some .int))
abbrev mX9_reads : MI := (9, yX9_reads, cX9_reads, 3, (some .boolean))
abbrev mX9_scans : MI := (9, yX9_scans, cX9_scans, 3, none)
abbrev mX9_isByte : MI := (9, yX9_isByte, cX9_isByte, 3, (some .boolean))
abbrev mX9_judge : MI := (9, yX9_judge, cX9_judge, 2, (some .int))
abbrev mX9_goes : MI := (9, yX9_goes, cX9_goes, 6, (some .boolean))
abbrev mX9_image : MI := (9, yX9_image, cX9_image, 3, (some .int))
abbrev mX9_from : MI := (9, yX9_from, cX9_from, 3, (some .int))
abbrev mX9_status : MI := (9, yX9_status, cX9_status, 2, (some .int))
abbrev mX9_count : MI := (9, yX9_count, cX9_count, 2, (some .int))
abbrev mX9_countOf : MI := (9, yX9_countOf, cX9_countOf, 2, (some .int))
abbrev mX9_many : MI := (9, yX9_many, cX9_many, 3, (some .int))
abbrev mX9_digest : MI := (9, yX9_digest, cX9_digest, 5, (some .long))
abbrev mL_law : MI := (10, yL_law, cL_law, 4, some .boolean)
/-- method links by the class that holds them: place in its pool, the method, 0 virtual, 1 static, 2 <init> (3, 4, 5: of a nest mate), parameters -/
def mz0 : List (Nat × MI × Nat × Nat) := [(26, mX3_save, 0, 1), (32, mX3_onTurn, 0, 0), (36, mX0_isForced, 0, 3), (47, mX3_winner, 0, 0), (81, mX3_menOf, 0, 1), (84, mX0_canBeTaken, 1, 2), (88, mX1_habitOf, 0, 1), (92, mX4_choiceAxis, 0, 1), (95, mX4_choiceLine, 0, 1), (98, mX4_choiceWay, 0, 1), (101, mX3_creaseDue, 0, 3), (50, mX0_firstStep, 0, 4), (109, mX0_listLeaders, 1, 2), (124, mX0_leads, 1, 2), (131, mX3_isIn, 0, 1), (137, mX3_rulerAt, 0, 2), (128, mX0_liesAhead, 1, 3), (62, mX4_has, 0, 1), (74, mX0_wayOf, 1, 1), (78, mX0_farOf, 1, 1), (113, mX3_goalOf, 0, 4), (117, mX3_carry, 0, 2), (40, mX3_load, 0, 1), (11, mX1_init, 5, 0), (105, mX8_within, 4, 3)]
def mz1 : List (Nat × MI × Nat × Nat) := [(30, mX4_choiceAxis, 0, 1), (36, mX4_choiceLine, 0, 1), (39, mX4_choiceWay, 0, 1), (42, mX1_look, 0, 4), (53, mX3_isIn, 0, 1), (91, mX1_rulerOver, 0, 2), (95, mX3_behindNow, 0, 0), (99, mX4_choices, 0, 0), (102, mX1_rulersOf, 0, 2), (105, mX1_lookNow, 0, 1), (109, mX1_ruledByOwn, 0, 1), (113, mX1_lookBehind, 0, 2), (62, mX8_turns, 4, 3), (66, mX8_mirrored, 4, 2), (84, mX8_powerOfKind, 4, 3)]
def mz2 : List (Nat × MI × Nat × Nat) := [(20, mX3_save, 0, 1), (35, mX3_load, 0, 1)]
def mz3 : List (Nat × MI × Nat × Nat) := [(38, mX4_begin, 0, 2), (51, mX3_isIn, 0, 1), (63, mX4_liesAt, 0, 3), (70, mX3_rulerAt, 0, 2), (80, mX3_onTurn, 0, 0), (90, mX3_isOpen, 0, 2), (74, mX4_topAt, 0, 2), (94, mX3_powerOf, 0, 1), (124, mX4_save, 0, 1), (98, mX4_has, 0, 1), (101, mX3_manOn, 0, 1), (104, mX4_flatten, 0, 0), (107, mX3_makeDue, 0, 1), (111, mX4_choices, 0, 0), (117, mX4_crease, 0, 3), (121, mX3_menOf, 0, 1), (134, mX4_load, 0, 1), (137, mX4_copy, 0, 1), (11, mX4_init, 5, 0), (59, mX8_powerOfKind, 4, 3), (77, mX8_within, 4, 3)]
def mz4 : List (Nat × MI × Nat × Nat) := [(38, mX4_onBoard, 0, 1), (42, mX4_flatten, 0, 0), (52, mX4_measure, 0, 0), (49, mX4_has, 0, 1), (80, mX4_liesAt, 0, 3), (83, mX4_cellsUnder, 0, 1), (87, mX4_isFoldedAs, 0, 1), (91, mX4_crease, 0, 3), (45, mX8_within, 4, 3), (73, mX8_turns, 4, 3), (76, mX8_mirrored, 4, 2)]
def mz5 : List (Nat × MI × Nat × Nat) := [(34, mX5_survey, 0, 1), (38, mX4_has, 0, 1), (44, mX5_explore, 0, 3), (52, mX5_positions, 0, 2), (76, mX5_firstLike, 1, 2), (80, mJ13_bitCount_95d88, 1, 1), (62, mX5_outmost, 1, 3), (66, mX5_bend, 1, 4), (48, mX8_within, 4, 3), (70, mX8_turns, 4, 3), (73, mX8_mirrored, 4, 2)]
def mz6 : List (Nat × MI × Nat × Nat) := [(25, mX6_rewind, 0, 0), (28, mX6_readItem, 0, 0), (35, mX6_nextToken, 0, 0), (45, mX6_byteAt, 0, 1), (49, mX6_isLetter, 1, 1), (53, mX6_readWord, 0, 0), (64, mX6_tokenIs, 0, 1), (56, mX6_isFigure, 1, 1), (59, mX6_readNumber, 0, 0), (78, mX8_within, 4, 3)]
def mz7 : List (Nat × MI × Nat × Nat) := [(24, mX4_topAt, 0, 2), (30, mX7_spread, 0, 3), (46, mX3_rulerAt, 0, 2)]
def mz8 : List (Nat × MI × Nat × Nat) := [(11, mX3_init, 2, 0), (74, mX8_within, 1, 3), (78, mX8_refuseBad, 0, 1), (82, mX3_begin, 0, 2), (86, mX2_forget, 0, 0), (89, mX5_forget, 0, 0), (94, mX4_howMany, 0, 0), (100, mX4_onBoard, 0, 1), (104, mX4_has, 0, 1), (107, mX3_manOn, 0, 1), (117, mX8_refuseNo, 0, 1), (120, mX4_cutOut, 0, 1), (127, mX8_refuseFull, 0, 0), (130, mX3_enter, 0, 4), (152, mX4_heightAt, 0, 2), (156, mX4_cellAt, 0, 3), (160, mX3_isIn, 0, 1), (163, mX3_powerOf, 0, 1), (166, mX3_rulerAt, 0, 2), (172, mX3_goalOf, 0, 4), (175, mX2_keep, 0, 1), (179, mX3_carry, 0, 2), (182, mX4_mayCrease, 0, 2), (186, mX3_creaseDue, 0, 3), (193, mX3_onTurn, 0, 0), (196, mX3_behindNow, 0, 0), (199, mX3_winner, 0, 0), (202, mX2_goBack, 0, 1), (206, mX4_choices, 0, 0), (209, mX4_choiceAxis, 0, 1), (212, mX4_choiceLine, 0, 1), (215, mX4_choiceWay, 0, 1), (218, mX1_lookBehind, 0, 2), (222, mX1_rulersOf, 0, 2), (226, mX1_habitOf, 0, 1), (230, mX1_safeMen, 0, 1), (233, mX5_fewestFolds, 0, 2), (237, mX7_howFar, 0, 4), (241, mX0_sureWithin, 0, 2), (245, mX0_firstSure, 0, 2), (253, mX6_add, 0, 1), (256, mX6_faultPlace, 0, 0), (259, mX3_save, 0, 1), (263, mX8_firstWrongItem, 0, 0), (323, mX6_rewind, 0, 0), (326, mX6_readItem, 0, 0), (329, mX8_playItem, 0, 0), (266, mX3_load, 0, 1), (269, mX8_isImage, 0, 1), (272, mX3_copy, 0, 1), (275, mX2_copy, 0, 1), (292, mX8_mix, 1, 2), (296, mX8_mixBoard, 0, 1), (18, mX2_init, 5, 0), (25, mX6_init, 5, 0), (32, mX1_init, 5, 0), (39, mX0_init, 5, 0), (46, mX7_init, 5, 0), (53, mX5_init, 5, 0)]
def mz9 : List (Nat × MI × Nat × Nat) := [(65, mX9_in, 1, 3), (88, mX9_bad, 0, 0), (59, mX9_refuses, 0, 2), (92, mX9_isManOn, 0, 1), (95, mX9_no, 0, 0), (69, mX9_isCell, 0, 1), (102, mX9_full, 0, 0), (107, mX9_lays, 0, 0), (77, mX9_flat, 0, 0), (80, mX9_turnsOver, 0, 3), (73, mX9_moves, 0, 4), (110, mX9_isAt, 0, 3), (114, mX9_isHere, 0, 1), (117, mX9_strengthOf, 0, 1), (121, mX9_rulerAt, 0, 2), (154, mX9_keeps, 0, 2), (158, mX9_steps, 0, 4), (124, mX9_ownerOf, 0, 1), (127, mX9_turn, 0, 0), (134, mX9_wayX, 1, 1), (137, mX9_wayY, 1, 1), (140, mX9_topAt, 0, 2), (147, mX9_anyFold, 0, 0), (130, mX9_end, 0, 2), (161, mX9_remembers, 0, 0), (164, mX9_makes, 0, 3), (151, mX9_mayFold, 0, 3), (169, mX9_behind, 0, 0), (172, mX9_won, 0, 0), (184, mX9_foldsNow, 0, 0), (187, mX9_pick, 0, 1), (191, mX9_laysWith, 0, 1), (194, mX9_rules, 0, 1), (197, mX9_habitNow, 0, 0), (200, mX9_safeNow, 0, 0), (205, mX9_places, 0, 0), (229, mX9_plays, 0, 2), (220, mX9_settles, 0, 0), (223, mX9_takes, 0, 2), (226, mX9_picksStep, 0, 1), (269, mX9_reads, 0, 0), (266, mX9_scans, 0, 0), (243, mX9_isByte, 0, 2), (272, mX9_goes, 0, 1), (278, mX9_countOf, 0, 1), (275, mX9_many, 0, 0)]
def mz10 : List (Nat × MI × Nat × Nat) := [(9, mX8_init, 2, 0), (13, mX8_board, 0, 2), (18, mX8_hole, 0, 1), (23, mX8_man, 0, 4), (28, mX8_put, 0, 2), (32, mX8_cell, 0, 2), (36, mX8_pile, 0, 3), (41, mX8_strength, 0, 1), (45, mX8_ruler, 0, 2), (49, mX8_where, 0, 1), (53, mX8_step, 0, 4), (57, mX8_fold, 0, 3), (61, mX8_state, 0, 1), (65, mX8_undo, 0, 0), (70, mX8_folds, 0, 1), (74, mX8_leaves, 0, 2), (78, mX8_habit, 0, 0), (82, mX8_safe, 0, 0), (86, mX8_small, 0, 1), (90, mX8_reach, 0, 3), (94, mX8_wins, 0, 1), (98, mX8_best, 0, 1), (104, mX8_type, 0, 2), (109, mX8_clear, 0, 0), (113, mX8_fault, 0, 0), (117, mX8_judge, 0, 0), (121, mX8_image, 0, 1), (125, mX8_from, 0, 1), (129, mX8_status, 0, 1), (133, mX8_count, 0, 1), (137, mX8_digest, 0, 0), (12, mX9_init, 2, 0), (17, mX9_board, 0, 2), (22, mX9_hole, 0, 1), (27, mX9_man, 0, 4), (31, mX9_put, 0, 2), (35, mX9_cell, 0, 2), (40, mX9_pile, 0, 3), (44, mX9_strength, 0, 1), (48, mX9_ruler, 0, 2), (52, mX9_where, 0, 1), (56, mX9_step, 0, 4), (60, mX9_fold, 0, 3), (64, mX9_state, 0, 1), (69, mX9_undo, 0, 0), (73, mX9_folds, 0, 1), (77, mX9_leaves, 0, 2), (81, mX9_habit, 0, 0), (85, mX9_safe, 0, 0), (89, mX9_small, 0, 1), (93, mX9_reach, 0, 3), (97, mX9_wins, 0, 1), (101, mX9_best, 0, 1), (108, mX9_type, 0, 2), (112, mX9_clear, 0, 0), (116, mX9_fault, 0, 0), (120, mX9_judge, 0, 0), (124, mX9_image, 0, 1), (128, mX9_from, 0, 1), (132, mX9_status, 0, 1), (136, mX9_count, 0, 1), (141, mX9_digest, 0, 0)]
def mz11 : List (Nat × MI × Nat × Nat) := []
def mi0 : List (List (Nat × Nat)) := [[(3, 19), (1, 2), (4, 1), (3, 17), (3, 18)], [(2, 238), (1, 2), (4, 2), (2, 236), (2, 237)], [(4, 6), (1, 7), (4, 3), (4, 5), (0, 16)], [(3, 79), (1, 2), (4, 7), (3, 77), (3, 78)], [(3, 83), (1, 2), (4, 8), (3, 81), (3, 82)], [(4, 11), (1, 7), (4, 9), (4, 10)], [(3, 156), (1, 6), (4, 12), (3, 154), (3, 155)], [(3, 113), (1, 3), (4, 13), (3, 111), (3, 112)], [(3, 117), (1, 3), (4, 14), (3, 115), (3, 116)], [(3, 121), (1, 3), (4, 15), (3, 119), (3, 120)], [(3, 56), (1, 2), (4, 16), (3, 54), (3, 55)], [(4, 20), (1, 7), (4, 17), (4, 19), (0, 17)], [(4, 24), (1, 7), (4, 22), (4, 23)], [(4, 27), (1, 7), (4, 25), (4, 26)], [(2, 150), (1, 2), (4, 28), (2, 148), (2, 149)], [(2, 219), (1, 2), (4, 29), (2, 217), (2, 218)], [(4, 32), (1, 7), (4, 30), (4, 31)], [(2, 142), (1, 3), (4, 33), (2, 140), (2, 141)], [(4, 36), (1, 7), (4, 34), (4, 35)], [(4, 39), (1, 7), (4, 37), (4, 38)], [(2, 232), (1, 2), (4, 40), (2, 230), (2, 231)], [(3, 33), (1, 2), (4, 41), (3, 31), (3, 32)], [(3, 95), (1, 2), (4, 42), (3, 93), (3, 94)], [(1, 231), (1, 6), (2, 13), (1, 230)], [(1, 114), (1, 1), (4, 21), (1, 113)]]
def mi1 : List (List (Nat × Nat)) := [[(3, 113), (1, 3), (3, 130), (3, 111), (3, 112)], [(3, 117), (1, 3), (3, 131), (3, 115), (3, 116)], [(3, 121), (1, 3), (3, 132), (3, 119), (3, 120)], [(3, 136), (1, 6), (3, 133), (3, 135), (0, 8)], [(2, 150), (1, 2), (3, 137), (2, 148), (2, 149)], [(3, 148), (1, 6), (3, 145), (3, 147), (0, 9)], [(3, 75), (1, 2), (3, 157), (3, 73), (3, 74)], [(3, 44), (1, 3), (3, 158), (3, 42), (3, 43)], [(3, 144), (1, 6), (3, 159), (3, 142), (3, 143)], [(3, 171), (1, 6), (3, 168), (3, 170), (0, 10)], [(3, 175), (1, 6), (3, 172), (3, 174), (0, 11)], [(3, 129), (1, 6), (3, 176), (3, 127), (3, 128)], [(3, 63), (1, 1), (3, 138), (3, 62)], [(3, 66), (1, 1), (3, 139), (3, 65)], [(2, 211), (1, 1), (3, 140), (2, 210)]]
def mi2 : List (List (Nat × Nat)) := [[(3, 19), (1, 2), (3, 16), (3, 17), (3, 18)], [(3, 95), (1, 2), (3, 92), (3, 93), (3, 94)]]
def mi3 : List (List (Nat × Nat)) := [[(1, 107), (1, 3), (1, 104), (1, 105), (1, 106)], [(2, 150), (1, 2), (2, 147), (2, 148), (2, 149)], [(2, 191), (1, 3), (2, 220), (2, 189), (2, 190)], [(2, 219), (1, 2), (2, 234), (2, 217), (2, 218)], [(2, 238), (1, 2), (2, 235), (2, 236), (2, 237)], [(3, 6), (1, 2), (3, 3), (3, 5), (0, 5)], [(3, 10), (1, 3), (3, 7), (3, 8), (3, 9)], [(2, 208), (1, 2), (3, 11), (2, 206), (2, 207)], [(3, 23), (1, 3), (3, 20), (3, 21), (3, 22)], [(2, 142), (1, 3), (3, 34), (2, 140), (2, 141)], [(2, 146), (1, 2), (3, 35), (2, 144), (2, 145)], [(1, 118), (1, 3), (3, 36), (1, 116), (1, 117)], [(3, 40), (1, 2), (3, 37), (3, 39), (0, 6)], [(3, 44), (1, 3), (3, 41), (3, 42), (3, 43)], [(3, 60), (1, 3), (3, 57), (3, 58), (3, 59)], [(3, 83), (1, 2), (3, 80), (3, 81), (3, 82)], [(3, 99), (1, 3), (3, 96), (3, 97), (3, 98)], [(4, 189), (1, 3), (4, 186), (4, 187), (4, 188)], [(1, 36), (1, 3), (1, 34), (1, 35)], [(2, 211), (1, 1), (2, 209), (2, 210)], [(1, 114), (1, 1), (2, 233), (1, 113)]]
def mi4 : List (List (Nat × Nat)) := [[(1, 111), (1, 3), (1, 108), (1, 109), (1, 110)], [(1, 118), (1, 3), (1, 115), (1, 116), (1, 117)], [(1, 122), (1, 3), (1, 119), (1, 121), (0, 0)], [(2, 142), (1, 3), (2, 159), (2, 140), (2, 141)], [(2, 191), (1, 3), (2, 188), (2, 189), (2, 190)], [(2, 199), (1, 3), (2, 196), (2, 198), (0, 4)], [(3, 103), (1, 3), (3, 100), (3, 102), (0, 7)], [(3, 60), (1, 3), (3, 104), (3, 58), (3, 59)], [(1, 114), (1, 1), (1, 112), (1, 113)], [(3, 63), (1, 1), (3, 61), (3, 62)], [(3, 66), (1, 1), (3, 64), (3, 65)]]
def mi5 : List (List (Nat × Nat)) := [[(3, 188), (1, 9), (3, 185), (3, 187), (0, 12)], [(2, 142), (1, 3), (3, 189), (2, 140), (2, 141)], [(3, 193), (1, 9), (3, 190), (3, 192), (0, 13)], [(3, 198), (1, 9), (3, 195), (3, 197), (0, 14)], [(3, 201), (1, 9), (3, 199), (3, 200)], [(3, 204), (1, 13), (3, 202), (3, 203)], [(3, 211), (1, 9), (3, 209), (3, 210)], [(3, 214), (1, 9), (3, 212), (3, 213)], [(1, 114), (1, 1), (3, 194), (1, 113)], [(3, 63), (1, 1), (3, 215), (3, 62)], [(3, 66), (1, 1), (3, 216), (3, 65)]]
def mi6 : List (List (Nat × Nat)) := [[(4, 75), (1, 5), (4, 72), (4, 73), (4, 74)], [(4, 79), (1, 5), (4, 76), (4, 77), (4, 78)], [(4, 83), (1, 5), (4, 80), (4, 82), (0, 18)], [(4, 87), (1, 5), (4, 84), (4, 86), (0, 19)], [(4, 91), (1, 5), (4, 89), (4, 90)], [(4, 95), (1, 5), (4, 92), (4, 94), (0, 20)], [(4, 100), (1, 5), (4, 97), (4, 99), (0, 21)], [(4, 152), (1, 5), (4, 150), (4, 151)], [(4, 156), (1, 5), (4, 153), (4, 155), (0, 22)], [(1, 114), (1, 1), (4, 88), (1, 113)]]
def mi7 : List (List (Nat × Nat)) := [[(3, 10), (1, 3), (3, 225), (3, 8), (3, 9)], [(3, 229), (1, 8), (3, 226), (3, 228), (0, 15)], [(2, 219), (1, 2), (3, 232), (2, 217), (2, 218)]]
def mi8 : List (List (Nat × Nat)) := [[(1, 30), (1, 2), (1, 28), (1, 29)], [(1, 114), (1, 1), (2, 113), (1, 113)], [(2, 117), (1, 1), (2, 114), (2, 116), (0, 1)], [(2, 121), (1, 2), (2, 118), (2, 119), (2, 120)], [(2, 125), (1, 4), (2, 122), (2, 123), (2, 124)], [(2, 129), (1, 9), (2, 126), (2, 127), (2, 128)], [(2, 133), (1, 3), (2, 130), (2, 131), (2, 132)], [(1, 111), (1, 3), (2, 138), (1, 109), (1, 110)], [(2, 142), (1, 3), (2, 139), (2, 140), (2, 141)], [(2, 146), (1, 2), (2, 143), (2, 144), (2, 145)], [(2, 154), (1, 1), (2, 151), (2, 153), (0, 2)], [(2, 158), (1, 3), (2, 155), (2, 156), (2, 157)], [(2, 167), (1, 1), (2, 164), (2, 166), (0, 3)], [(2, 171), (1, 2), (2, 168), (2, 169), (2, 170)], [(2, 187), (1, 3), (2, 184), (2, 185), (2, 186)], [(2, 195), (1, 3), (2, 192), (2, 193), (2, 194)], [(2, 150), (1, 2), (2, 204), (2, 148), (2, 149)], [(2, 208), (1, 2), (2, 205), (2, 206), (2, 207)], [(2, 219), (1, 2), (2, 216), (2, 217), (2, 218)], [(2, 232), (1, 2), (2, 229), (2, 230), (2, 231)], [(3, 15), (1, 4), (3, 12), (3, 13), (3, 14)], [(3, 33), (1, 2), (3, 30), (3, 31), (3, 32)], [(3, 52), (1, 3), (3, 49), (3, 50), (3, 51)], [(3, 56), (1, 2), (3, 53), (3, 54), (3, 55)], [(2, 238), (1, 2), (3, 71), (2, 236), (2, 237)], [(3, 75), (1, 2), (3, 72), (3, 73), (3, 74)], [(3, 79), (1, 2), (3, 76), (3, 77), (3, 78)], [(3, 91), (1, 4), (3, 88), (3, 89), (3, 90)], [(3, 44), (1, 3), (3, 109), (3, 42), (3, 43)], [(3, 113), (1, 3), (3, 110), (3, 111), (3, 112)], [(3, 117), (1, 3), (3, 114), (3, 115), (3, 116)], [(3, 121), (1, 3), (3, 118), (3, 119), (3, 120)], [(3, 129), (1, 6), (3, 126), (3, 127), (3, 128)], [(3, 144), (1, 6), (3, 141), (3, 142), (3, 143)], [(3, 156), (1, 6), (3, 153), (3, 154), (3, 155)], [(3, 167), (1, 6), (3, 164), (3, 165), (3, 166)], [(3, 184), (1, 9), (3, 181), (3, 182), (3, 183)], [(3, 224), (1, 8), (3, 221), (3, 222), (3, 223)], [(4, 0), (1, 7), (3, 237), (3, 238), (3, 239)], [(4, 50), (1, 7), (4, 47), (4, 48), (4, 49)], [(4, 59), (1, 5), (4, 56), (4, 57), (4, 58)], [(4, 71), (1, 5), (4, 68), (4, 69), (4, 70)], [(3, 19), (1, 2), (4, 162), (3, 17), (3, 18)], [(4, 166), (1, 1), (4, 163), (4, 165), (0, 23)], [(4, 75), (1, 5), (4, 167), (4, 73), (4, 74)], [(4, 79), (1, 5), (4, 168), (4, 77), (4, 78)], [(4, 172), (1, 1), (4, 169), (4, 171), (0, 24)], [(3, 95), (1, 2), (4, 173), (3, 93), (3, 94)], [(4, 181), (1, 1), (4, 178), (4, 180), (0, 25)], [(4, 185), (1, 2), (4, 182), (4, 183), (4, 184)], [(4, 194), (1, 4), (4, 191), (4, 192), (4, 193)], [(4, 215), (1, 1), (4, 213), (4, 214)], [(4, 220), (1, 1), (4, 217), (4, 219), (0, 26)], [(1, 180), (1, 4), (1, 178), (1, 179)], [(1, 199), (1, 5), (1, 197), (1, 198)], [(1, 231), (1, 6), (1, 229), (1, 230)], [(2, 10), (1, 7), (2, 8), (2, 9)], [(2, 29), (1, 8), (2, 27), (2, 28)], [(2, 42), (1, 9), (2, 40), (2, 41)]]
def mi9 : List (List (Nat × Nat)) := [[(5, 86), (1, 10), (5, 84), (5, 85)], [(5, 90), (1, 10), (5, 87), (5, 89), (0, 27)], [(5, 94), (1, 10), (5, 91), (5, 93), (0, 28)], [(5, 103), (1, 10), (5, 100), (5, 102), (0, 29)], [(5, 107), (1, 10), (5, 104), (5, 106), (0, 30)], [(5, 117), (1, 10), (5, 114), (5, 116), (0, 31)], [(5, 121), (1, 10), (5, 118), (5, 120), (0, 32)], [(5, 134), (1, 10), (5, 131), (5, 133), (0, 33)], [(5, 138), (1, 10), (5, 135), (5, 137), (0, 34)], [(5, 142), (1, 10), (5, 139), (5, 141), (0, 35)], [(5, 146), (1, 10), (5, 143), (5, 145), (0, 36)], [(5, 154), (1, 10), (5, 151), (5, 153), (0, 37)], [(5, 162), (1, 10), (5, 159), (5, 161), (0, 38)], [(5, 166), (1, 10), (5, 163), (5, 165), (0, 39)], [(5, 174), (1, 10), (5, 171), (5, 173), (0, 40)], [(5, 186), (1, 10), (5, 183), (5, 185), (0, 41)], [(5, 190), (1, 10), (5, 187), (5, 189), (0, 42)], [(5, 194), (1, 10), (5, 191), (5, 193), (0, 43)], [(5, 198), (1, 10), (5, 195), (5, 197), (0, 44)], [(5, 201), (1, 10), (5, 199), (5, 200)], [(5, 204), (1, 10), (5, 202), (5, 203)], [(5, 208), (1, 10), (5, 205), (5, 207), (0, 45)], [(5, 212), (1, 10), (5, 209), (5, 211), (0, 46)], [(5, 216), (1, 10), (5, 213), (5, 215), (0, 47)], [(5, 220), (1, 10), (5, 217), (5, 219), (0, 48)], [(5, 228), (1, 10), (5, 225), (5, 227), (0, 49)], [(5, 232), (1, 10), (5, 229), (5, 231), (0, 50)], [(6, 1), (1, 10), (5, 238), (6, 0), (0, 51)], [(6, 5), (1, 10), (6, 2), (6, 4), (0, 52)], [(6, 17), (1, 10), (6, 14), (6, 16), (0, 53)], [(6, 21), (1, 10), (6, 18), (6, 20), (0, 54)], [(6, 29), (1, 10), (6, 26), (6, 28), (0, 55)], [(6, 33), (1, 10), (6, 30), (6, 32), (0, 56)], [(6, 41), (1, 10), (6, 38), (6, 40), (0, 57)], [(6, 49), (1, 10), (6, 46), (6, 48), (0, 58)], [(6, 58), (1, 10), (6, 55), (6, 57), (0, 59)], [(6, 70), (1, 10), (6, 67), (6, 69), (0, 60)], [(6, 74), (1, 10), (6, 71), (6, 73), (0, 61)], [(6, 78), (1, 10), (6, 75), (6, 77), (0, 62)], [(6, 82), (1, 10), (6, 79), (6, 81), (0, 63)], [(6, 104), (1, 10), (6, 101), (6, 103), (0, 64)], [(6, 108), (1, 10), (6, 105), (6, 107), (0, 65)], [(6, 112), (1, 10), (6, 109), (6, 111), (0, 66)], [(6, 124), (1, 10), (6, 121), (6, 123), (0, 67)], [(6, 144), (1, 10), (6, 141), (6, 143), (0, 68)], [(6, 148), (1, 10), (6, 145), (6, 147), (0, 69)]]
def mi10 : List (List (Nat × Nat)) := [[(1, 22), (1, 1), (1, 20), (1, 21)], [(2, 112), (1, 1), (2, 109), (2, 110), (2, 111)], [(2, 137), (1, 1), (2, 134), (2, 135), (2, 136)], [(2, 163), (1, 1), (2, 160), (2, 161), (2, 162)], [(2, 175), (1, 1), (2, 172), (2, 173), (2, 174)], [(2, 179), (1, 1), (2, 176), (2, 177), (2, 178)], [(2, 183), (1, 1), (2, 180), (2, 181), (2, 182)], [(2, 203), (1, 1), (2, 200), (2, 201), (2, 202)], [(2, 215), (1, 1), (2, 212), (2, 213), (2, 214)], [(2, 224), (1, 1), (2, 221), (2, 222), (2, 223)], [(2, 228), (1, 1), (2, 225), (2, 226), (2, 227)], [(3, 48), (1, 1), (3, 45), (3, 46), (3, 47)], [(3, 70), (1, 1), (3, 67), (3, 68), (3, 69)], [(3, 87), (1, 1), (3, 84), (3, 85), (3, 86)], [(3, 108), (1, 1), (3, 105), (3, 106), (3, 107)], [(3, 125), (1, 1), (3, 122), (3, 123), (3, 124)], [(3, 152), (1, 1), (3, 149), (3, 150), (3, 151)], [(3, 163), (1, 1), (3, 160), (3, 161), (3, 162)], [(3, 180), (1, 1), (3, 177), (3, 178), (3, 179)], [(3, 220), (1, 1), (3, 217), (3, 218), (3, 219)], [(3, 236), (1, 1), (3, 233), (3, 234), (3, 235)], [(4, 46), (1, 1), (4, 43), (4, 44), (4, 45)], [(4, 54), (1, 1), (4, 51), (4, 52), (4, 53)], [(4, 63), (1, 1), (4, 60), (4, 61), (4, 62)], [(4, 67), (1, 1), (4, 64), (4, 65), (4, 66)], [(4, 161), (1, 1), (4, 158), (4, 159), (4, 160)], [(4, 177), (1, 1), (4, 174), (4, 175), (4, 176)], [(4, 199), (1, 1), (4, 196), (4, 197), (4, 198)], [(4, 203), (1, 1), (4, 200), (4, 201), (4, 202)], [(4, 207), (1, 1), (4, 204), (4, 205), (4, 206)], [(4, 211), (1, 1), (4, 208), (4, 209), (4, 210)], [(4, 225), (1, 10), (4, 223), (4, 224)], [(5, 81), (1, 10), (5, 78), (5, 79), (5, 80)], [(5, 98), (1, 10), (5, 95), (5, 96), (5, 97)], [(5, 111), (1, 10), (5, 108), (5, 109), (5, 110)], [(5, 125), (1, 10), (5, 122), (5, 123), (5, 124)], [(5, 130), (1, 10), (5, 127), (5, 128), (5, 129)], [(5, 150), (1, 10), (5, 147), (5, 148), (5, 149)], [(5, 158), (1, 10), (5, 155), (5, 156), (5, 157)], [(5, 170), (1, 10), (5, 167), (5, 168), (5, 169)], [(5, 178), (1, 10), (5, 175), (5, 176), (5, 177)], [(5, 182), (1, 10), (5, 179), (5, 180), (5, 181)], [(5, 224), (1, 10), (5, 221), (5, 222), (5, 223)], [(5, 236), (1, 10), (5, 233), (5, 234), (5, 235)], [(6, 9), (1, 10), (6, 6), (6, 7), (6, 8)], [(6, 13), (1, 10), (6, 10), (6, 11), (6, 12)], [(6, 25), (1, 10), (6, 22), (6, 23), (6, 24)], [(6, 37), (1, 10), (6, 34), (6, 35), (6, 36)], [(6, 45), (1, 10), (6, 42), (6, 43), (6, 44)], [(6, 53), (1, 10), (6, 50), (6, 51), (6, 52)], [(6, 62), (1, 10), (6, 59), (6, 60), (6, 61)], [(6, 66), (1, 10), (6, 63), (6, 64), (6, 65)], [(6, 86), (1, 10), (6, 83), (6, 84), (6, 85)], [(6, 90), (1, 10), (6, 87), (6, 88), (6, 89)], [(6, 96), (1, 10), (6, 93), (6, 94), (6, 95)], [(6, 100), (1, 10), (6, 97), (6, 98), (6, 99)], [(6, 120), (1, 10), (6, 117), (6, 118), (6, 119)], [(6, 128), (1, 10), (6, 125), (6, 126), (6, 127)], [(6, 132), (1, 10), (6, 129), (6, 130), (6, 131)], [(6, 136), (1, 10), (6, 133), (6, 134), (6, 135)], [(6, 140), (1, 10), (6, 137), (6, 138), (6, 139)], [(6, 152), (1, 10), (6, 149), (6, 150), (6, 151)]]
def mi11 : List (List (Nat × Nat)) := []
def mz (c : Nat) : List (Nat × MI × Nat × Nat) := match c with
  | 0 => mz0
  | 1 => mz1
  | 2 => mz2
  | 3 => mz3
  | 4 => mz4
  | 5 => mz5
  | 6 => mz6
  | 7 => mz7
  | 8 => mz8
  | 9 => mz9
  | 10 => mz10
  | 11 => mz11
  | _ => []
def mzl : List (Nat × MI × Nat × Nat) → Nat → Option (MI × Nat × Nat)
  | [], _ => none
  | q :: t, i => match q.1 == i with
    | true => some q.2
    | false => mzl t i
def tabN (j : Nat) : List Cond := match j with
  | 0 => k2_sels lw_privs
  | 1 => tables_1_1
  | 2 => tables_1_2
  | 3 => tables_1_3
  | 4 => tables_1_4
  | 5 => tables_1_5
  | _ => tables_1_6
theorem tabN_mem {j k : Nat} {w : Cond} (h : (tabN j)[k]? = some w) : w ∈ lw_tbl := by
  have hm := List.mem_of_getElem? h
  unfold lw_tbl tables_1
  match j, hm with
  | 0, hm => exact List.mem_append_left _ hm
  | 1, hm => exact List.mem_append_right _ (List.mem_append_left _ hm)
  | 2, hm => exact List.mem_append_right _ (List.mem_append_right _ (List.mem_append_left _ hm))
  | 3, hm => exact List.mem_append_right _ (List.mem_append_right _ (List.mem_append_right _ (List.mem_append_left _ hm)))
  | 4, hm => exact List.mem_append_right _ (List.mem_append_right _ (List.mem_append_right _ (List.mem_append_right _ (List.mem_append_left _ hm))))
  | 5, hm => exact List.mem_append_right _ (List.mem_append_right _ (List.mem_append_right _ (List.mem_append_right _ (List.mem_append_right _ (List.mem_append_left _ hm)))))
  | n + 6, hm => exact List.mem_append_right _ (List.mem_append_right _ (List.mem_append_right _ (List.mem_append_right _ (List.mem_append_right _ (List.mem_append_right _ hm)))))
def inT (q : Nat × Nat) (w : Cond) : Bool := decide ((tabN q.1)[q.2]? = some w) && goodWord w
def inN (q : Nat × Nat) (w : Cond) : Bool := decide ((tabN q.1)[q.2]? = some w) && isNw w
theorem inT_gw {q : Nat × Nat} {w : Cond} (h : inT q w = true) : w ∈ gw := by
  unfold inT at h
  simp only [Bool.and_eq_true, decide_eq_true_eq] at h
  exact List.mem_filter.mpr ⟨tabN_mem h.1, h.2⟩
theorem inN_nw {q : Nat × Nat} {w : Cond} (h : inN q w = true) : w ∈ nw := by
  unfold inN at h
  simp only [Bool.and_eq_true, decide_eq_true_eq] at h
  exact List.mem_filter.mpr ⟨tabN_mem h.1, h.2⟩
def mzK (own : String) (i : Nat) (mi : MI) (ix : List (Nat × Nat)) (k : Nat) : Bool := match k with
  | 0 => inT (ix.getD 2 (9, 0)) (.methodLink own i mi.2.1) && (inT (ix.getD 3 (9, 0)) (.instanceMethod mi.2.1) && (inT (ix.getD 4 (9, 0)) (.selects mi.2.1.cls mi.2.1 mi.2.1) && decide ((vwCl[mi.1]?).map (fun r => r.1) = some mi.2.1.cls)))
  | 1 => inT (ix.getD 2 (9, 0)) (.methodLink own i mi.2.1) && inT (ix.getD 3 (9, 0)) (.static mi.2.1)
  | 2 => inT (ix.getD 2 (9, 0)) (.methodLink own i mi.2.1) && (inT (ix.getD 3 (9, 0)) (.instanceMethod mi.2.1) && decide (mi.2.1.name = "<init>"))
  | 3 => inN (ix.getD 2 (9, 0)) (.methodLinkNest own i mi.2.1 "FoldedBoard") && (inT (ix.getD 3 (9, 0)) (.instanceMethod mi.2.1) && (inT (ix.getD 4 (9, 0)) (.selects mi.2.1.cls mi.2.1 mi.2.1) && decide ((vwCl[mi.1]?).map (fun r => r.1) = some mi.2.1.cls)))
  | 4 => inN (ix.getD 2 (9, 0)) (.methodLinkNest own i mi.2.1 "FoldedBoard") && inT (ix.getD 3 (9, 0)) (.static mi.2.1)
  | 5 => inN (ix.getD 2 (9, 0)) (.methodLinkNest own i mi.2.1 "FoldedBoard") && (inT (ix.getD 3 (9, 0)) (.instanceMethod mi.2.1) && decide (mi.2.1.name = "<init>"))
  | _ => false
def mzOk (own : String) (q : (Nat × MI × Nat × Nat) × List (Nat × Nat)) : Bool :=
  (inT (q.2.getD 1 (9, 0)) (.initialized q.1.2.1.2.1.cls) && (decide (q.1.2.1.2.1.cls ≠ "java/lang/invoke/MethodHandle" ∧ q.1.2.1.2.1.cls ≠ "java/lang/invoke/VarHandle") && (decide ((parseMethodDescriptor q.1.2.1.2.1.desc).map (fun d => d.parameters.length) = some q.1.2.2.2) && (decide (q.1.2.1.2.2.2.1 ≤ 21) && mzK own q.1.1 q.1.2.1 q.2 q.1.2.2.1))))
theorem cwX8_init : Cond.code yX8_init cX8_init 2 none ∈ gw := List.mem_filter.mpr ⟨tabN_mem (j := 1) (k := 22) rfl, rfl⟩
theorem cwX3_init : Cond.code yX3_init cX3_init 1 none ∈ gw := List.mem_filter.mpr ⟨tabN_mem (j := 1) (k := 30) rfl, rfl⟩
theorem cwX4_init : Cond.code yX4_init cX4_init 1 none ∈ gw := List.mem_filter.mpr ⟨tabN_mem (j := 1) (k := 36) rfl, rfl⟩
theorem cwX4_begin : Cond.code yX4_begin cX4_begin 4 none ∈ gw := List.mem_filter.mpr ⟨tabN_mem (j := 1) (k := 107) rfl, rfl⟩
theorem cwX4_onBoard : Cond.code yX4_onBoard cX4_onBoard 2 (some .boolean) ∈ gw := List.mem_filter.mpr ⟨tabN_mem (j := 1) (k := 111) rfl, rfl⟩
theorem cwX8_within : Cond.code yX8_within cX8_within 3 (some .boolean) ∈ gw := List.mem_filter.mpr ⟨tabN_mem (j := 1) (k := 114) rfl, rfl⟩
theorem cwX4_flatten : Cond.code yX4_flatten cX4_flatten 2 none ∈ gw := List.mem_filter.mpr ⟨tabN_mem (j := 1) (k := 118) rfl, rfl⟩
theorem cwX4_measure : Cond.code yX4_measure cX4_measure 3 none ∈ gw := List.mem_filter.mpr ⟨tabN_mem (j := 1) (k := 122) rfl, rfl⟩
theorem cwX2_init : Cond.code yX2_init cX2_init 1 none ∈ gw := List.mem_filter.mpr ⟨tabN_mem (j := 1) (k := 180) rfl, rfl⟩
theorem cwX6_init : Cond.code yX6_init cX6_init 1 none ∈ gw := List.mem_filter.mpr ⟨tabN_mem (j := 1) (k := 199) rfl, rfl⟩
theorem cwX1_init : Cond.code yX1_init cX1_init 1 none ∈ gw := List.mem_filter.mpr ⟨tabN_mem (j := 1) (k := 231) rfl, rfl⟩
theorem cwX0_init : Cond.code yX0_init cX0_init 1 none ∈ gw := List.mem_filter.mpr ⟨tabN_mem (j := 2) (k := 10) rfl, rfl⟩
theorem cwX7_init : Cond.code yX7_init cX7_init 1 none ∈ gw := List.mem_filter.mpr ⟨tabN_mem (j := 2) (k := 29) rfl, rfl⟩
theorem cwX5_init : Cond.code yX5_init cX5_init 1 none ∈ gw := List.mem_filter.mpr ⟨tabN_mem (j := 2) (k := 42) rfl, rfl⟩
theorem cwX8_board : Cond.code yX8_board cX8_board 3 (some .int) ∈ gw := List.mem_filter.mpr ⟨tabN_mem (j := 2) (k := 112) rfl, rfl⟩
theorem cwX8_refuseBad : Cond.code yX8_refuseBad cX8_refuseBad 2 (some .int) ∈ gw := List.mem_filter.mpr ⟨tabN_mem (j := 2) (k := 117) rfl, rfl⟩
theorem cwX3_begin : Cond.code yX3_begin cX3_begin 3 none ∈ gw := List.mem_filter.mpr ⟨tabN_mem (j := 2) (k := 121) rfl, rfl⟩
theorem cwX2_forget : Cond.code yX2_forget cX2_forget 1 none ∈ gw := List.mem_filter.mpr ⟨tabN_mem (j := 2) (k := 125) rfl, rfl⟩
theorem cwX5_forget : Cond.code yX5_forget cX5_forget 1 none ∈ gw := List.mem_filter.mpr ⟨tabN_mem (j := 2) (k := 129) rfl, rfl⟩
theorem cwX4_howMany : Cond.code yX4_howMany cX4_howMany 3 (some .int) ∈ gw := List.mem_filter.mpr ⟨tabN_mem (j := 2) (k := 133) rfl, rfl⟩
theorem cwX8_hole : Cond.code yX8_hole cX8_hole 2 (some .int) ∈ gw := List.mem_filter.mpr ⟨tabN_mem (j := 2) (k := 137) rfl, rfl⟩
theorem cwX4_has : Cond.code yX4_has cX4_has 2 (some .boolean) ∈ gw := List.mem_filter.mpr ⟨tabN_mem (j := 2) (k := 142) rfl, rfl⟩
theorem cwX3_manOn : Cond.code yX3_manOn cX3_manOn 3 (some .int) ∈ gw := List.mem_filter.mpr ⟨tabN_mem (j := 2) (k := 146) rfl, rfl⟩
theorem cwX3_isIn : Cond.code yX3_isIn cX3_isIn 2 (some .boolean) ∈ gw := List.mem_filter.mpr ⟨tabN_mem (j := 2) (k := 150) rfl, rfl⟩
theorem cwX8_refuseNo : Cond.code yX8_refuseNo cX8_refuseNo 2 (some .int) ∈ gw := List.mem_filter.mpr ⟨tabN_mem (j := 2) (k := 154) rfl, rfl⟩
theorem cwX4_cutOut : Cond.code yX4_cutOut cX4_cutOut 2 none ∈ gw := List.mem_filter.mpr ⟨tabN_mem (j := 2) (k := 158) rfl, rfl⟩
theorem cwX8_man : Cond.code yX8_man cX8_man 6 (some .int) ∈ gw := List.mem_filter.mpr ⟨tabN_mem (j := 2) (k := 163) rfl, rfl⟩
theorem cwX8_refuseFull : Cond.code yX8_refuseFull cX8_refuseFull 1 (some .int) ∈ gw := List.mem_filter.mpr ⟨tabN_mem (j := 2) (k := 167) rfl, rfl⟩
theorem cwX3_enter : Cond.code yX3_enter cX3_enter 5 (some .int) ∈ gw := List.mem_filter.mpr ⟨tabN_mem (j := 2) (k := 171) rfl, rfl⟩
theorem cwX8_put : Cond.code yX8_put cX8_put 4 (some .int) ∈ gw := List.mem_filter.mpr ⟨tabN_mem (j := 2) (k := 175) rfl, rfl⟩
theorem cwX8_cell : Cond.code yX8_cell cX8_cell 3 (some .int) ∈ gw := List.mem_filter.mpr ⟨tabN_mem (j := 2) (k := 179) rfl, rfl⟩
theorem cwX8_pile : Cond.code yX8_pile cX8_pile 5 (some .int) ∈ gw := List.mem_filter.mpr ⟨tabN_mem (j := 2) (k := 183) rfl, rfl⟩
theorem cwX4_heightAt : Cond.code yX4_heightAt cX4_heightAt 5 (some .int) ∈ gw := List.mem_filter.mpr ⟨tabN_mem (j := 2) (k := 187) rfl, rfl⟩
theorem cwX4_liesAt : Cond.code yX4_liesAt cX4_liesAt 4 (some .boolean) ∈ gw := List.mem_filter.mpr ⟨tabN_mem (j := 2) (k := 191) rfl, rfl⟩
theorem cwX4_cellAt : Cond.code yX4_cellAt cX4_cellAt 5 (some .int) ∈ gw := List.mem_filter.mpr ⟨tabN_mem (j := 2) (k := 195) rfl, rfl⟩
theorem cwX4_cellsUnder : Cond.code yX4_cellsUnder cX4_cellsUnder 4 (some .int) ∈ gw := List.mem_filter.mpr ⟨tabN_mem (j := 2) (k := 199) rfl, rfl⟩
theorem cwX8_strength : Cond.code yX8_strength cX8_strength 2 (some .int) ∈ gw := List.mem_filter.mpr ⟨tabN_mem (j := 2) (k := 203) rfl, rfl⟩
theorem cwX3_powerOf : Cond.code yX3_powerOf cX3_powerOf 2 (some .int) ∈ gw := List.mem_filter.mpr ⟨tabN_mem (j := 2) (k := 208) rfl, rfl⟩
theorem cwX8_powerOfKind : Cond.code yX8_powerOfKind cX8_powerOfKind 4 (some .int) ∈ gw := List.mem_filter.mpr ⟨tabN_mem (j := 2) (k := 211) rfl, rfl⟩
theorem cwX8_ruler : Cond.code yX8_ruler cX8_ruler 3 (some .int) ∈ gw := List.mem_filter.mpr ⟨tabN_mem (j := 2) (k := 215) rfl, rfl⟩
theorem cwX3_rulerAt : Cond.code yX3_rulerAt cX3_rulerAt 10 (some .int) ∈ gw := List.mem_filter.mpr ⟨tabN_mem (j := 2) (k := 219) rfl, rfl⟩
theorem cwX8_where : Cond.code yX8_where cX8_where 2 (some .int) ∈ gw := List.mem_filter.mpr ⟨tabN_mem (j := 2) (k := 224) rfl, rfl⟩
theorem cwX8_step : Cond.code yX8_step cX8_step 6 (some .int) ∈ gw := List.mem_filter.mpr ⟨tabN_mem (j := 2) (k := 228) rfl, rfl⟩
theorem cwX3_goalOf : Cond.code yX3_goalOf cX3_goalOf 10 (some .int) ∈ gw := List.mem_filter.mpr ⟨tabN_mem (j := 2) (k := 232) rfl, rfl⟩
theorem cwX3_onTurn : Cond.code yX3_onTurn cX3_onTurn 1 (some .int) ∈ gw := List.mem_filter.mpr ⟨tabN_mem (j := 2) (k := 238) rfl, rfl⟩
theorem cwX3_isOpen : Cond.code yX3_isOpen cX3_isOpen 3 (some .boolean) ∈ gw := List.mem_filter.mpr ⟨tabN_mem (j := 3) (k := 6) rfl, rfl⟩
theorem cwX4_topAt : Cond.code yX4_topAt cX4_topAt 5 (some .int) ∈ gw := List.mem_filter.mpr ⟨tabN_mem (j := 3) (k := 10) rfl, rfl⟩
theorem cwX2_keep : Cond.code yX2_keep cX2_keep 2 none ∈ gw := List.mem_filter.mpr ⟨tabN_mem (j := 3) (k := 15) rfl, rfl⟩
theorem cwX3_save : Cond.code yX3_save cX3_save 2 none ∈ gw := List.mem_filter.mpr ⟨tabN_mem (j := 3) (k := 19) rfl, rfl⟩
theorem cwX4_save : Cond.code yX4_save cX4_save 3 none ∈ gw := List.mem_filter.mpr ⟨tabN_mem (j := 3) (k := 23) rfl, rfl⟩
theorem cwX3_carry : Cond.code yX3_carry cX3_carry 4 (some .int) ∈ gw := List.mem_filter.mpr ⟨tabN_mem (j := 3) (k := 33) rfl, rfl⟩
theorem cwX3_makeDue : Cond.code yX3_makeDue cX3_makeDue 3 none ∈ gw := List.mem_filter.mpr ⟨tabN_mem (j := 3) (k := 40) rfl, rfl⟩
theorem cwX4_choices : Cond.code yX4_choices cX4_choices 1 (some .int) ∈ gw := List.mem_filter.mpr ⟨tabN_mem (j := 3) (k := 44) rfl, rfl⟩
theorem cwX8_fold : Cond.code yX8_fold cX8_fold 4 (some .int) ∈ gw := List.mem_filter.mpr ⟨tabN_mem (j := 3) (k := 48) rfl, rfl⟩
theorem cwX4_mayCrease : Cond.code yX4_mayCrease cX4_mayCrease 3 (some .boolean) ∈ gw := List.mem_filter.mpr ⟨tabN_mem (j := 3) (k := 52) rfl, rfl⟩
theorem cwX3_creaseDue : Cond.code yX3_creaseDue cX3_creaseDue 4 none ∈ gw := List.mem_filter.mpr ⟨tabN_mem (j := 3) (k := 56) rfl, rfl⟩
theorem cwX4_crease : Cond.code yX4_crease cX4_crease 6 none ∈ gw := List.mem_filter.mpr ⟨tabN_mem (j := 3) (k := 60) rfl, rfl⟩
theorem cwX8_turns : Cond.code yX8_turns cX8_turns 3 (some .boolean) ∈ gw := List.mem_filter.mpr ⟨tabN_mem (j := 3) (k := 63) rfl, rfl⟩
theorem cwX8_mirrored : Cond.code yX8_mirrored cX8_mirrored 2 (some .int) ∈ gw := List.mem_filter.mpr ⟨tabN_mem (j := 3) (k := 66) rfl, rfl⟩
theorem cwX8_state : Cond.code yX8_state cX8_state 2 (some .int) ∈ gw := List.mem_filter.mpr ⟨tabN_mem (j := 3) (k := 70) rfl, rfl⟩
theorem cwX3_behindNow : Cond.code yX3_behindNow cX3_behindNow 5 (some .int) ∈ gw := List.mem_filter.mpr ⟨tabN_mem (j := 3) (k := 75) rfl, rfl⟩
theorem cwX3_winner : Cond.code yX3_winner cX3_winner 3 (some .int) ∈ gw := List.mem_filter.mpr ⟨tabN_mem (j := 3) (k := 79) rfl, rfl⟩
theorem cwX3_menOf : Cond.code yX3_menOf cX3_menOf 4 (some .int) ∈ gw := List.mem_filter.mpr ⟨tabN_mem (j := 3) (k := 83) rfl, rfl⟩
theorem cwX8_undo : Cond.code yX8_undo cX8_undo 1 (some .int) ∈ gw := List.mem_filter.mpr ⟨tabN_mem (j := 3) (k := 87) rfl, rfl⟩
theorem cwX2_goBack : Cond.code yX2_goBack cX2_goBack 2 (some .boolean) ∈ gw := List.mem_filter.mpr ⟨tabN_mem (j := 3) (k := 91) rfl, rfl⟩
theorem cwX3_load : Cond.code yX3_load cX3_load 2 none ∈ gw := List.mem_filter.mpr ⟨tabN_mem (j := 3) (k := 95) rfl, rfl⟩
theorem cwX4_load : Cond.code yX4_load cX4_load 4 none ∈ gw := List.mem_filter.mpr ⟨tabN_mem (j := 3) (k := 99) rfl, rfl⟩
theorem cwX4_isFoldedAs : Cond.code yX4_isFoldedAs cX4_isFoldedAs 3 (some .boolean) ∈ gw := List.mem_filter.mpr ⟨tabN_mem (j := 3) (k := 103) rfl, rfl⟩
theorem cwX8_folds : Cond.code yX8_folds cX8_folds 3 (some .int) ∈ gw := List.mem_filter.mpr ⟨tabN_mem (j := 3) (k := 108) rfl, rfl⟩
theorem cwX4_choiceAxis : Cond.code yX4_choiceAxis cX4_choiceAxis 2 (some .int) ∈ gw := List.mem_filter.mpr ⟨tabN_mem (j := 3) (k := 113) rfl, rfl⟩
theorem cwX4_choiceLine : Cond.code yX4_choiceLine cX4_choiceLine 3 (some .int) ∈ gw := List.mem_filter.mpr ⟨tabN_mem (j := 3) (k := 117) rfl, rfl⟩
theorem cwX4_choiceWay : Cond.code yX4_choiceWay cX4_choiceWay 2 (some .int) ∈ gw := List.mem_filter.mpr ⟨tabN_mem (j := 3) (k := 121) rfl, rfl⟩
theorem cwX8_leaves : Cond.code yX8_leaves cX8_leaves 3 (some .int) ∈ gw := List.mem_filter.mpr ⟨tabN_mem (j := 3) (k := 125) rfl, rfl⟩
theorem cwX1_lookBehind : Cond.code yX1_lookBehind cX1_lookBehind 4 none ∈ gw := List.mem_filter.mpr ⟨tabN_mem (j := 3) (k := 129) rfl, rfl⟩
theorem cwX1_look : Cond.code yX1_look cX1_look 9 none ∈ gw := List.mem_filter.mpr ⟨tabN_mem (j := 3) (k := 136) rfl, rfl⟩
theorem cwX1_rulersOf : Cond.code yX1_rulersOf cX1_rulersOf 5 (some .int) ∈ gw := List.mem_filter.mpr ⟨tabN_mem (j := 3) (k := 144) rfl, rfl⟩
theorem cwX1_rulerOver : Cond.code yX1_rulerOver cX1_rulerOver 6 (some .int) ∈ gw := List.mem_filter.mpr ⟨tabN_mem (j := 3) (k := 148) rfl, rfl⟩
theorem cwX8_habit : Cond.code yX8_habit cX8_habit 1 (some .int) ∈ gw := List.mem_filter.mpr ⟨tabN_mem (j := 3) (k := 152) rfl, rfl⟩
theorem cwX1_habitOf : Cond.code yX1_habitOf cX1_habitOf 8 (some .int) ∈ gw := List.mem_filter.mpr ⟨tabN_mem (j := 3) (k := 156) rfl, rfl⟩
theorem cwX8_safe : Cond.code yX8_safe cX8_safe 1 (some .int) ∈ gw := List.mem_filter.mpr ⟨tabN_mem (j := 3) (k := 163) rfl, rfl⟩
theorem cwX1_safeMen : Cond.code yX1_safeMen cX1_safeMen 4 (some .int) ∈ gw := List.mem_filter.mpr ⟨tabN_mem (j := 3) (k := 167) rfl, rfl⟩
theorem cwX1_lookNow : Cond.code yX1_lookNow cX1_lookNow 2 none ∈ gw := List.mem_filter.mpr ⟨tabN_mem (j := 3) (k := 171) rfl, rfl⟩
theorem cwX1_ruledByOwn : Cond.code yX1_ruledByOwn cX1_ruledByOwn 4 (some .int) ∈ gw := List.mem_filter.mpr ⟨tabN_mem (j := 3) (k := 175) rfl, rfl⟩
theorem cwX8_small : Cond.code yX8_small cX8_small 2 (some .int) ∈ gw := List.mem_filter.mpr ⟨tabN_mem (j := 3) (k := 180) rfl, rfl⟩
theorem cwX5_fewestFolds : Cond.code yX5_fewestFolds cX5_fewestFolds 4 (some .int) ∈ gw := List.mem_filter.mpr ⟨tabN_mem (j := 3) (k := 184) rfl, rfl⟩
theorem cwX5_survey : Cond.code yX5_survey cX5_survey 3 none ∈ gw := List.mem_filter.mpr ⟨tabN_mem (j := 3) (k := 188) rfl, rfl⟩
theorem cwX5_explore : Cond.code yX5_explore cX5_explore 10 none ∈ gw := List.mem_filter.mpr ⟨tabN_mem (j := 3) (k := 193) rfl, rfl⟩
theorem cwX5_positions : Cond.code yX5_positions cX5_positions 6 (some .int) ∈ gw := List.mem_filter.mpr ⟨tabN_mem (j := 3) (k := 198) rfl, rfl⟩
theorem cwX5_firstLike : Cond.code yX5_firstLike cX5_firstLike 3 (some .int) ∈ gw := List.mem_filter.mpr ⟨tabN_mem (j := 3) (k := 201) rfl, rfl⟩
theorem cwJ13_bitCount_95d88 : Cond.code yJ13_bitCount_95d88 cJ13_bitCount_95d88 2 (some .int) ∈ gw := List.mem_filter.mpr ⟨tabN_mem (j := 3) (k := 204) rfl, rfl⟩
theorem cwX5_outmost : Cond.code yX5_outmost cX5_outmost 6 (some .int) ∈ gw := List.mem_filter.mpr ⟨tabN_mem (j := 3) (k := 211) rfl, rfl⟩
theorem cwX5_bend : Cond.code yX5_bend cX5_bend 5 none ∈ gw := List.mem_filter.mpr ⟨tabN_mem (j := 3) (k := 214) rfl, rfl⟩
theorem cwX8_reach : Cond.code yX8_reach cX8_reach 4 (some .int) ∈ gw := List.mem_filter.mpr ⟨tabN_mem (j := 3) (k := 220) rfl, rfl⟩
theorem cwX7_howFar : Cond.code yX7_howFar cX7_howFar 8 (some .int) ∈ gw := List.mem_filter.mpr ⟨tabN_mem (j := 3) (k := 224) rfl, rfl⟩
theorem cwX7_spread : Cond.code yX7_spread cX7_spread 9 (some .int) ∈ gw := List.mem_filter.mpr ⟨tabN_mem (j := 3) (k := 229) rfl, rfl⟩
theorem cwX8_wins : Cond.code yX8_wins cX8_wins 2 (some .int) ∈ gw := List.mem_filter.mpr ⟨tabN_mem (j := 3) (k := 236) rfl, rfl⟩
theorem cwX0_sureWithin : Cond.code yX0_sureWithin cX0_sureWithin 4 (some .boolean) ∈ gw := List.mem_filter.mpr ⟨tabN_mem (j := 4) (k := 0) rfl, rfl⟩
theorem cwX0_isForced : Cond.code yX0_isForced cX0_isForced 8 (some .boolean) ∈ gw := List.mem_filter.mpr ⟨tabN_mem (j := 4) (k := 6) rfl, rfl⟩
theorem cwX0_canBeTaken : Cond.code yX0_canBeTaken cX0_canBeTaken 2 (some .boolean) ∈ gw := List.mem_filter.mpr ⟨tabN_mem (j := 4) (k := 11) rfl, rfl⟩
theorem cwX0_firstStep : Cond.code yX0_firstStep cX0_firstStep 13 (some .int) ∈ gw := List.mem_filter.mpr ⟨tabN_mem (j := 4) (k := 20) rfl, rfl⟩
theorem cwX0_listLeaders : Cond.code yX0_listLeaders cX0_listLeaders 5 (some .int) ∈ gw := List.mem_filter.mpr ⟨tabN_mem (j := 4) (k := 24) rfl, rfl⟩
theorem cwX0_leads : Cond.code yX0_leads cX0_leads 3 (some .boolean) ∈ gw := List.mem_filter.mpr ⟨tabN_mem (j := 4) (k := 27) rfl, rfl⟩
theorem cwX0_liesAhead : Cond.code yX0_liesAhead cX0_liesAhead 6 (some .boolean) ∈ gw := List.mem_filter.mpr ⟨tabN_mem (j := 4) (k := 32) rfl, rfl⟩
theorem cwX0_wayOf : Cond.code yX0_wayOf cX0_wayOf 1 (some .int) ∈ gw := List.mem_filter.mpr ⟨tabN_mem (j := 4) (k := 36) rfl, rfl⟩
theorem cwX0_farOf : Cond.code yX0_farOf cX0_farOf 1 (some .int) ∈ gw := List.mem_filter.mpr ⟨tabN_mem (j := 4) (k := 39) rfl, rfl⟩
theorem cwX8_best : Cond.code yX8_best cX8_best 2 (some .int) ∈ gw := List.mem_filter.mpr ⟨tabN_mem (j := 4) (k := 46) rfl, rfl⟩
theorem cwX0_firstSure : Cond.code yX0_firstSure cX0_firstSure 7 (some .int) ∈ gw := List.mem_filter.mpr ⟨tabN_mem (j := 4) (k := 50) rfl, rfl⟩
theorem cwX8_type : Cond.code yX8_type cX8_type 5 (some .int) ∈ gw := List.mem_filter.mpr ⟨tabN_mem (j := 4) (k := 54) rfl, rfl⟩
theorem cwX6_add : Cond.code yX6_add cX6_add 2 none ∈ gw := List.mem_filter.mpr ⟨tabN_mem (j := 4) (k := 59) rfl, rfl⟩
theorem cwX8_clear : Cond.code yX8_clear cX8_clear 2 (some .int) ∈ gw := List.mem_filter.mpr ⟨tabN_mem (j := 4) (k := 63) rfl, rfl⟩
theorem cwX8_fault : Cond.code yX8_fault cX8_fault 1 (some .int) ∈ gw := List.mem_filter.mpr ⟨tabN_mem (j := 4) (k := 67) rfl, rfl⟩
theorem cwX6_faultPlace : Cond.code yX6_faultPlace cX6_faultPlace 3 (some .int) ∈ gw := List.mem_filter.mpr ⟨tabN_mem (j := 4) (k := 71) rfl, rfl⟩
theorem cwX6_rewind : Cond.code yX6_rewind cX6_rewind 1 none ∈ gw := List.mem_filter.mpr ⟨tabN_mem (j := 4) (k := 75) rfl, rfl⟩
theorem cwX6_readItem : Cond.code yX6_readItem cX6_readItem 4 (some .int) ∈ gw := List.mem_filter.mpr ⟨tabN_mem (j := 4) (k := 79) rfl, rfl⟩
theorem cwX6_nextToken : Cond.code yX6_nextToken cX6_nextToken 2 (some .int) ∈ gw := List.mem_filter.mpr ⟨tabN_mem (j := 4) (k := 83) rfl, rfl⟩
theorem cwX6_byteAt : Cond.code yX6_byteAt cX6_byteAt 2 (some .int) ∈ gw := List.mem_filter.mpr ⟨tabN_mem (j := 4) (k := 87) rfl, rfl⟩
theorem cwX6_isLetter : Cond.code yX6_isLetter cX6_isLetter 1 (some .boolean) ∈ gw := List.mem_filter.mpr ⟨tabN_mem (j := 4) (k := 91) rfl, rfl⟩
theorem cwX6_readWord : Cond.code yX6_readWord cX6_readWord 1 (some .int) ∈ gw := List.mem_filter.mpr ⟨tabN_mem (j := 4) (k := 95) rfl, rfl⟩
theorem cwX6_tokenIs : Cond.code yX6_tokenIs cX6_tokenIs 3 (some .boolean) ∈ gw := List.mem_filter.mpr ⟨tabN_mem (j := 4) (k := 100) rfl, rfl⟩
theorem cwX6_isFigure : Cond.code yX6_isFigure cX6_isFigure 1 (some .boolean) ∈ gw := List.mem_filter.mpr ⟨tabN_mem (j := 4) (k := 152) rfl, rfl⟩
theorem cwX6_readNumber : Cond.code yX6_readNumber cX6_readNumber 4 (some .int) ∈ gw := List.mem_filter.mpr ⟨tabN_mem (j := 4) (k := 156) rfl, rfl⟩
theorem cwX8_judge : Cond.code yX8_judge cX8_judge 2 (some .int) ∈ gw := List.mem_filter.mpr ⟨tabN_mem (j := 4) (k := 161) rfl, rfl⟩
theorem cwX8_firstWrongItem : Cond.code yX8_firstWrongItem cX8_firstWrongItem 2 (some .int) ∈ gw := List.mem_filter.mpr ⟨tabN_mem (j := 4) (k := 166) rfl, rfl⟩
theorem cwX8_playItem : Cond.code yX8_playItem cX8_playItem 3 (some .boolean) ∈ gw := List.mem_filter.mpr ⟨tabN_mem (j := 4) (k := 172) rfl, rfl⟩
theorem cwX8_image : Cond.code yX8_image cX8_image 2 (some .int) ∈ gw := List.mem_filter.mpr ⟨tabN_mem (j := 4) (k := 177) rfl, rfl⟩
theorem cwX8_isImage : Cond.code yX8_isImage cX8_isImage 2 (some .boolean) ∈ gw := List.mem_filter.mpr ⟨tabN_mem (j := 4) (k := 181) rfl, rfl⟩
theorem cwX3_copy : Cond.code yX3_copy cX3_copy 2 none ∈ gw := List.mem_filter.mpr ⟨tabN_mem (j := 4) (k := 185) rfl, rfl⟩
theorem cwX4_copy : Cond.code yX4_copy cX4_copy 2 none ∈ gw := List.mem_filter.mpr ⟨tabN_mem (j := 4) (k := 189) rfl, rfl⟩
theorem cwX2_copy : Cond.code yX2_copy cX2_copy 3 none ∈ gw := List.mem_filter.mpr ⟨tabN_mem (j := 4) (k := 194) rfl, rfl⟩
theorem cwX8_from : Cond.code yX8_from cX8_from 2 (some .int) ∈ gw := List.mem_filter.mpr ⟨tabN_mem (j := 4) (k := 199) rfl, rfl⟩
theorem cwX8_status : Cond.code yX8_status cX8_status 2 (some .int) ∈ gw := List.mem_filter.mpr ⟨tabN_mem (j := 4) (k := 203) rfl, rfl⟩
theorem cwX8_count : Cond.code yX8_count cX8_count 2 (some .int) ∈ gw := List.mem_filter.mpr ⟨tabN_mem (j := 4) (k := 207) rfl, rfl⟩
theorem cwX8_digest : Cond.code yX8_digest cX8_digest 4 (some .long) ∈ gw := List.mem_filter.mpr ⟨tabN_mem (j := 4) (k := 211) rfl, rfl⟩
theorem cwX8_mix : Cond.code yX8_mix cX8_mix 3 (some .long) ∈ gw := List.mem_filter.mpr ⟨tabN_mem (j := 4) (k := 215) rfl, rfl⟩
theorem cwX8_mixBoard : Cond.code yX8_mixBoard cX8_mixBoard 6 (some .long) ∈ gw := List.mem_filter.mpr ⟨tabN_mem (j := 4) (k := 220) rfl, rfl⟩
theorem cwX9_init : Cond.code yX9_init cX9_init 1 none ∈ gw := List.mem_filter.mpr ⟨tabN_mem (j := 4) (k := 225) rfl, rfl⟩
theorem cwX9_board : Cond.code yX9_board cX9_board 4 (some .int) ∈ gw := List.mem_filter.mpr ⟨tabN_mem (j := 5) (k := 81) rfl, rfl⟩
theorem cwX9_in : Cond.code yX9_in cX9_in 6 (some .boolean) ∈ gw := List.mem_filter.mpr ⟨tabN_mem (j := 5) (k := 86) rfl, rfl⟩
theorem cwX9_bad : Cond.code yX9_bad cX9_bad 1 (some .int) ∈ gw := List.mem_filter.mpr ⟨tabN_mem (j := 5) (k := 90) rfl, rfl⟩
theorem cwX9_refuses : Cond.code yX9_refuses cX9_refuses 3 (some .int) ∈ gw := List.mem_filter.mpr ⟨tabN_mem (j := 5) (k := 94) rfl, rfl⟩
theorem cwX9_hole : Cond.code yX9_hole cX9_hole 2 (some .int) ∈ gw := List.mem_filter.mpr ⟨tabN_mem (j := 5) (k := 98) rfl, rfl⟩
theorem cwX9_isManOn : Cond.code yX9_isManOn cX9_isManOn 4 (some .boolean) ∈ gw := List.mem_filter.mpr ⟨tabN_mem (j := 5) (k := 103) rfl, rfl⟩
theorem cwX9_no : Cond.code yX9_no cX9_no 1 (some .int) ∈ gw := List.mem_filter.mpr ⟨tabN_mem (j := 5) (k := 107) rfl, rfl⟩
theorem cwX9_man : Cond.code yX9_man cX9_man 6 (some .int) ∈ gw := List.mem_filter.mpr ⟨tabN_mem (j := 5) (k := 111) rfl, rfl⟩
theorem cwX9_isCell : Cond.code yX9_isCell cX9_isCell 2 (some .boolean) ∈ gw := List.mem_filter.mpr ⟨tabN_mem (j := 5) (k := 117) rfl, rfl⟩
theorem cwX9_full : Cond.code yX9_full cX9_full 1 (some .int) ∈ gw := List.mem_filter.mpr ⟨tabN_mem (j := 5) (k := 121) rfl, rfl⟩
theorem cwX9_put : Cond.code yX9_put cX9_put 4 (some .int) ∈ gw := List.mem_filter.mpr ⟨tabN_mem (j := 5) (k := 125) rfl, rfl⟩
theorem cwX9_cell : Cond.code yX9_cell cX9_cell 3 (some .int) ∈ gw := List.mem_filter.mpr ⟨tabN_mem (j := 5) (k := 130) rfl, rfl⟩
theorem cwX9_lays : Cond.code yX9_lays cX9_lays 2 none ∈ gw := List.mem_filter.mpr ⟨tabN_mem (j := 5) (k := 134) rfl, rfl⟩
theorem cwX9_flat : Cond.code yX9_flat cX9_flat 2 none ∈ gw := List.mem_filter.mpr ⟨tabN_mem (j := 5) (k := 138) rfl, rfl⟩
theorem cwX9_turnsOver : Cond.code yX9_turnsOver cX9_turnsOver 6 none ∈ gw := List.mem_filter.mpr ⟨tabN_mem (j := 5) (k := 142) rfl, rfl⟩
theorem cwX9_moves : Cond.code yX9_moves cX9_moves 6 (some .boolean) ∈ gw := List.mem_filter.mpr ⟨tabN_mem (j := 5) (k := 146) rfl, rfl⟩
theorem cwX9_pile : Cond.code yX9_pile cX9_pile 8 (some .int) ∈ gw := List.mem_filter.mpr ⟨tabN_mem (j := 5) (k := 150) rfl, rfl⟩
theorem cwX9_isAt : Cond.code yX9_isAt cX9_isAt 4 (some .boolean) ∈ gw := List.mem_filter.mpr ⟨tabN_mem (j := 5) (k := 154) rfl, rfl⟩
theorem cwX9_strength : Cond.code yX9_strength cX9_strength 2 (some .int) ∈ gw := List.mem_filter.mpr ⟨tabN_mem (j := 5) (k := 158) rfl, rfl⟩
theorem cwX9_isHere : Cond.code yX9_isHere cX9_isHere 2 (some .boolean) ∈ gw := List.mem_filter.mpr ⟨tabN_mem (j := 5) (k := 162) rfl, rfl⟩
theorem cwX9_strengthOf : Cond.code yX9_strengthOf cX9_strengthOf 6 (some .int) ∈ gw := List.mem_filter.mpr ⟨tabN_mem (j := 5) (k := 166) rfl, rfl⟩
theorem cwX9_ruler : Cond.code yX9_ruler cX9_ruler 3 (some .int) ∈ gw := List.mem_filter.mpr ⟨tabN_mem (j := 5) (k := 170) rfl, rfl⟩
theorem cwX9_rulerAt : Cond.code yX9_rulerAt cX9_rulerAt 8 (some .int) ∈ gw := List.mem_filter.mpr ⟨tabN_mem (j := 5) (k := 174) rfl, rfl⟩
theorem cwX9_where : Cond.code yX9_where cX9_where 2 (some .int) ∈ gw := List.mem_filter.mpr ⟨tabN_mem (j := 5) (k := 178) rfl, rfl⟩
theorem cwX9_step : Cond.code yX9_step cX9_step 5 (some .int) ∈ gw := List.mem_filter.mpr ⟨tabN_mem (j := 5) (k := 182) rfl, rfl⟩
theorem cwX9_keeps : Cond.code yX9_keeps cX9_keeps 4 none ∈ gw := List.mem_filter.mpr ⟨tabN_mem (j := 5) (k := 186) rfl, rfl⟩
theorem cwX9_steps : Cond.code yX9_steps cX9_steps 13 (some .boolean) ∈ gw := List.mem_filter.mpr ⟨tabN_mem (j := 5) (k := 190) rfl, rfl⟩
theorem cwX9_ownerOf : Cond.code yX9_ownerOf cX9_ownerOf 2 (some .int) ∈ gw := List.mem_filter.mpr ⟨tabN_mem (j := 5) (k := 194) rfl, rfl⟩
theorem cwX9_turn : Cond.code yX9_turn cX9_turn 1 (some .int) ∈ gw := List.mem_filter.mpr ⟨tabN_mem (j := 5) (k := 198) rfl, rfl⟩
theorem cwX9_wayX : Cond.code yX9_wayX cX9_wayX 1 (some .int) ∈ gw := List.mem_filter.mpr ⟨tabN_mem (j := 5) (k := 201) rfl, rfl⟩
theorem cwX9_wayY : Cond.code yX9_wayY cX9_wayY 1 (some .int) ∈ gw := List.mem_filter.mpr ⟨tabN_mem (j := 5) (k := 204) rfl, rfl⟩
theorem cwX9_topAt : Cond.code yX9_topAt cX9_topAt 5 (some .int) ∈ gw := List.mem_filter.mpr ⟨tabN_mem (j := 5) (k := 208) rfl, rfl⟩
theorem cwX9_anyFold : Cond.code yX9_anyFold cX9_anyFold 1 (some .boolean) ∈ gw := List.mem_filter.mpr ⟨tabN_mem (j := 5) (k := 212) rfl, rfl⟩
theorem cwX9_end : Cond.code yX9_end cX9_end 7 (some .int) ∈ gw := List.mem_filter.mpr ⟨tabN_mem (j := 5) (k := 216) rfl, rfl⟩
theorem cwX9_remembers : Cond.code yX9_remembers cX9_remembers 2 none ∈ gw := List.mem_filter.mpr ⟨tabN_mem (j := 5) (k := 220) rfl, rfl⟩
theorem cwX9_fold : Cond.code yX9_fold cX9_fold 4 (some .int) ∈ gw := List.mem_filter.mpr ⟨tabN_mem (j := 5) (k := 224) rfl, rfl⟩
theorem cwX9_makes : Cond.code yX9_makes cX9_makes 5 (some .boolean) ∈ gw := List.mem_filter.mpr ⟨tabN_mem (j := 5) (k := 228) rfl, rfl⟩
theorem cwX9_mayFold : Cond.code yX9_mayFold cX9_mayFold 7 (some .boolean) ∈ gw := List.mem_filter.mpr ⟨tabN_mem (j := 5) (k := 232) rfl, rfl⟩
theorem cwX9_state : Cond.code yX9_state cX9_state 2 (some .int) ∈ gw := List.mem_filter.mpr ⟨tabN_mem (j := 5) (k := 236) rfl, rfl⟩
theorem cwX9_behind : Cond.code yX9_behind cX9_behind 4 (some .int) ∈ gw := List.mem_filter.mpr ⟨tabN_mem (j := 6) (k := 1) rfl, rfl⟩
theorem cwX9_won : Cond.code yX9_won cX9_won 5 (some .int) ∈ gw := List.mem_filter.mpr ⟨tabN_mem (j := 6) (k := 5) rfl, rfl⟩
theorem cwX9_undo : Cond.code yX9_undo cX9_undo 2 (some .int) ∈ gw := List.mem_filter.mpr ⟨tabN_mem (j := 6) (k := 9) rfl, rfl⟩
theorem cwX9_folds : Cond.code yX9_folds cX9_folds 2 (some .int) ∈ gw := List.mem_filter.mpr ⟨tabN_mem (j := 6) (k := 13) rfl, rfl⟩
theorem cwX9_foldsNow : Cond.code yX9_foldsNow cX9_foldsNow 1 (some .int) ∈ gw := List.mem_filter.mpr ⟨tabN_mem (j := 6) (k := 17) rfl, rfl⟩
theorem cwX9_pick : Cond.code yX9_pick cX9_pick 4 none ∈ gw := List.mem_filter.mpr ⟨tabN_mem (j := 6) (k := 21) rfl, rfl⟩
theorem cwX9_leaves : Cond.code yX9_leaves cX9_leaves 3 (some .int) ∈ gw := List.mem_filter.mpr ⟨tabN_mem (j := 6) (k := 25) rfl, rfl⟩
theorem cwX9_laysWith : Cond.code yX9_laysWith cX9_laysWith 2 none ∈ gw := List.mem_filter.mpr ⟨tabN_mem (j := 6) (k := 29) rfl, rfl⟩
theorem cwX9_rules : Cond.code yX9_rules cX9_rules 5 (some .int) ∈ gw := List.mem_filter.mpr ⟨tabN_mem (j := 6) (k := 33) rfl, rfl⟩
theorem cwX9_habit : Cond.code yX9_habit cX9_habit 1 (some .int) ∈ gw := List.mem_filter.mpr ⟨tabN_mem (j := 6) (k := 37) rfl, rfl⟩
theorem cwX9_habitNow : Cond.code yX9_habitNow cX9_habitNow 7 (some .int) ∈ gw := List.mem_filter.mpr ⟨tabN_mem (j := 6) (k := 41) rfl, rfl⟩
theorem cwX9_safe : Cond.code yX9_safe cX9_safe 4 (some .int) ∈ gw := List.mem_filter.mpr ⟨tabN_mem (j := 6) (k := 45) rfl, rfl⟩
theorem cwX9_safeNow : Cond.code yX9_safeNow cX9_safeNow 3 (some .int) ∈ gw := List.mem_filter.mpr ⟨tabN_mem (j := 6) (k := 49) rfl, rfl⟩
theorem cwX9_small : Cond.code yX9_small cX9_small 9 (some .int) ∈ gw := List.mem_filter.mpr ⟨tabN_mem (j := 6) (k := 53) rfl, rfl⟩
theorem cwX9_places : Cond.code yX9_places cX9_places 5 (some .int) ∈ gw := List.mem_filter.mpr ⟨tabN_mem (j := 6) (k := 58) rfl, rfl⟩
theorem cwX9_reach : Cond.code yX9_reach cX9_reach 9 (some .int) ∈ gw := List.mem_filter.mpr ⟨tabN_mem (j := 6) (k := 62) rfl, rfl⟩
theorem cwX9_wins : Cond.code yX9_wins cX9_wins 3 (some .int) ∈ gw := List.mem_filter.mpr ⟨tabN_mem (j := 6) (k := 66) rfl, rfl⟩
theorem cwX9_plays : Cond.code yX9_plays cX9_plays 8 (some .boolean) ∈ gw := List.mem_filter.mpr ⟨tabN_mem (j := 6) (k := 70) rfl, rfl⟩
theorem cwX9_settles : Cond.code yX9_settles cX9_settles 1 none ∈ gw := List.mem_filter.mpr ⟨tabN_mem (j := 6) (k := 74) rfl, rfl⟩
theorem cwX9_takes : Cond.code yX9_takes cX9_takes 4 none ∈ gw := List.mem_filter.mpr ⟨tabN_mem (j := 6) (k := 78) rfl, rfl⟩
theorem cwX9_picksStep : Cond.code yX9_picksStep cX9_picksStep 4 (some .boolean) ∈ gw := List.mem_filter.mpr ⟨tabN_mem (j := 6) (k := 82) rfl, rfl⟩
theorem cwX9_best : Cond.code yX9_best cX9_best 6 (some .int) ∈ gw := List.mem_filter.mpr ⟨tabN_mem (j := 6) (k := 86) rfl, rfl⟩
theorem cwX9_type : Cond.code yX9_type cX9_type 5 (some .int) ∈ gw := List.mem_filter.mpr ⟨tabN_mem (j := 6) (k := 90) rfl, rfl⟩
theorem cwX9_clear : Cond.code yX9_clear cX9_clear 2 (some .int) ∈ gw := List.mem_filter.mpr ⟨tabN_mem (j := 6) (k := 96) rfl, rfl⟩
theorem cwX9_fault : Cond.code yX9_fault cX9_fault 1 (some .int) ∈ gw := List.mem_filter.mpr ⟨tabN_mem (j := 6) (k := 100) rfl, rfl⟩
theorem cwX9_reads : Cond.code yX9_reads cX9_reads 3 (some .boolean) ∈ gw := List.mem_filter.mpr ⟨tabN_mem (j := 6) (k := 104) rfl, rfl⟩
theorem cwX9_scans : Cond.code yX9_scans cX9_scans 3 none ∈ gw := List.mem_filter.mpr ⟨tabN_mem (j := 6) (k := 108) rfl, rfl⟩
theorem cwX9_isByte : Cond.code yX9_isByte cX9_isByte 3 (some .boolean) ∈ gw := List.mem_filter.mpr ⟨tabN_mem (j := 6) (k := 112) rfl, rfl⟩
theorem cwX9_judge : Cond.code yX9_judge cX9_judge 2 (some .int) ∈ gw := List.mem_filter.mpr ⟨tabN_mem (j := 6) (k := 120) rfl, rfl⟩
theorem cwX9_goes : Cond.code yX9_goes cX9_goes 6 (some .boolean) ∈ gw := List.mem_filter.mpr ⟨tabN_mem (j := 6) (k := 124) rfl, rfl⟩
theorem cwX9_image : Cond.code yX9_image cX9_image 3 (some .int) ∈ gw := List.mem_filter.mpr ⟨tabN_mem (j := 6) (k := 128) rfl, rfl⟩
theorem cwX9_from : Cond.code yX9_from cX9_from 3 (some .int) ∈ gw := List.mem_filter.mpr ⟨tabN_mem (j := 6) (k := 132) rfl, rfl⟩
theorem cwX9_status : Cond.code yX9_status cX9_status 2 (some .int) ∈ gw := List.mem_filter.mpr ⟨tabN_mem (j := 6) (k := 136) rfl, rfl⟩
theorem cwX9_count : Cond.code yX9_count cX9_count 2 (some .int) ∈ gw := List.mem_filter.mpr ⟨tabN_mem (j := 6) (k := 140) rfl, rfl⟩
theorem cwX9_countOf : Cond.code yX9_countOf cX9_countOf 2 (some .int) ∈ gw := List.mem_filter.mpr ⟨tabN_mem (j := 6) (k := 144) rfl, rfl⟩
theorem cwX9_many : Cond.code yX9_many cX9_many 3 (some .int) ∈ gw := List.mem_filter.mpr ⟨tabN_mem (j := 6) (k := 148) rfl, rfl⟩
theorem cwX9_digest : Cond.code yX9_digest cX9_digest 5 (some .long) ∈ gw := List.mem_filter.mpr ⟨tabN_mem (j := 6) (k := 152) rfl, rfl⟩
theorem mz0_ok0 : (((mz0.zip mi0).drop 0).take 24).all (mzOk (ownS 0)) = true := by decide +kernel
theorem mz0_ok1 : (((mz0.zip mi0).drop 24).take 24).all (mzOk (ownS 0)) = true := by decide +kernel
theorem mz0_ok : (mz0.zip mi0).all (mzOk (ownS 0)) = true := by
  have h0 := mz0_ok0
  have h1 := mz0_ok1
  have e : (mz0.zip mi0) = ((mz0.zip mi0).drop 0).take 24 ++ (((mz0.zip mi0).drop 24).take 24) := rfl
  rw [e]
  simp only [List.all_append, Bool.and_eq_true]
  exact ⟨h0, h1⟩
theorem mz0_len : mz0.length = mi0.length := by decide +kernel
theorem mz1_ok0 : (((mz1.zip mi1).drop 0).take 24).all (mzOk (ownS 1)) = true := by decide +kernel
theorem mz1_ok : (mz1.zip mi1).all (mzOk (ownS 1)) = true := by
  have h0 := mz1_ok0
  have e : (mz1.zip mi1) = ((mz1.zip mi1).drop 0).take 24 := rfl
  rw [e]
  exact h0
theorem mz1_len : mz1.length = mi1.length := by decide +kernel
theorem mz2_ok0 : (((mz2.zip mi2).drop 0).take 24).all (mzOk (ownS 2)) = true := by decide +kernel
theorem mz2_ok : (mz2.zip mi2).all (mzOk (ownS 2)) = true := by
  have h0 := mz2_ok0
  have e : (mz2.zip mi2) = ((mz2.zip mi2).drop 0).take 24 := rfl
  rw [e]
  exact h0
theorem mz2_len : mz2.length = mi2.length := by decide +kernel
theorem mz3_ok0 : (((mz3.zip mi3).drop 0).take 24).all (mzOk (ownS 3)) = true := by decide +kernel
theorem mz3_ok : (mz3.zip mi3).all (mzOk (ownS 3)) = true := by
  have h0 := mz3_ok0
  have e : (mz3.zip mi3) = ((mz3.zip mi3).drop 0).take 24 := rfl
  rw [e]
  exact h0
theorem mz3_len : mz3.length = mi3.length := by decide +kernel
theorem mz4_ok0 : (((mz4.zip mi4).drop 0).take 24).all (mzOk (ownS 4)) = true := by decide +kernel
theorem mz4_ok : (mz4.zip mi4).all (mzOk (ownS 4)) = true := by
  have h0 := mz4_ok0
  have e : (mz4.zip mi4) = ((mz4.zip mi4).drop 0).take 24 := rfl
  rw [e]
  exact h0
theorem mz4_len : mz4.length = mi4.length := by decide +kernel
theorem mz5_ok0 : (((mz5.zip mi5).drop 0).take 24).all (mzOk (ownS 5)) = true := by decide +kernel
theorem mz5_ok : (mz5.zip mi5).all (mzOk (ownS 5)) = true := by
  have h0 := mz5_ok0
  have e : (mz5.zip mi5) = ((mz5.zip mi5).drop 0).take 24 := rfl
  rw [e]
  exact h0
theorem mz5_len : mz5.length = mi5.length := by decide +kernel
theorem mz6_ok0 : (((mz6.zip mi6).drop 0).take 24).all (mzOk (ownS 6)) = true := by decide +kernel
theorem mz6_ok : (mz6.zip mi6).all (mzOk (ownS 6)) = true := by
  have h0 := mz6_ok0
  have e : (mz6.zip mi6) = ((mz6.zip mi6).drop 0).take 24 := rfl
  rw [e]
  exact h0
theorem mz6_len : mz6.length = mi6.length := by decide +kernel
theorem mz7_ok0 : (((mz7.zip mi7).drop 0).take 24).all (mzOk (ownS 7)) = true := by decide +kernel
theorem mz7_ok : (mz7.zip mi7).all (mzOk (ownS 7)) = true := by
  have h0 := mz7_ok0
  have e : (mz7.zip mi7) = ((mz7.zip mi7).drop 0).take 24 := rfl
  rw [e]
  exact h0
theorem mz7_len : mz7.length = mi7.length := by decide +kernel
theorem mz8_ok0 : (((mz8.zip mi8).drop 0).take 24).all (mzOk (ownS 8)) = true := by decide +kernel
theorem mz8_ok1 : (((mz8.zip mi8).drop 24).take 24).all (mzOk (ownS 8)) = true := by decide +kernel
theorem mz8_ok2 : (((mz8.zip mi8).drop 48).take 24).all (mzOk (ownS 8)) = true := by decide +kernel
theorem mz8_ok : (mz8.zip mi8).all (mzOk (ownS 8)) = true := by
  have h0 := mz8_ok0
  have h1 := mz8_ok1
  have h2 := mz8_ok2
  have e : (mz8.zip mi8) = ((mz8.zip mi8).drop 0).take 24 ++ (((mz8.zip mi8).drop 24).take 24 ++ (((mz8.zip mi8).drop 48).take 24)) := rfl
  rw [e]
  simp only [List.all_append, Bool.and_eq_true]
  exact ⟨h0, h1, h2⟩
theorem mz8_len : mz8.length = mi8.length := by decide +kernel
theorem mz9_ok0 : (((mz9.zip mi9).drop 0).take 24).all (mzOk (ownS 9)) = true := by decide +kernel
theorem mz9_ok1 : (((mz9.zip mi9).drop 24).take 24).all (mzOk (ownS 9)) = true := by decide +kernel
theorem mz9_ok : (mz9.zip mi9).all (mzOk (ownS 9)) = true := by
  have h0 := mz9_ok0
  have h1 := mz9_ok1
  have e : (mz9.zip mi9) = ((mz9.zip mi9).drop 0).take 24 ++ (((mz9.zip mi9).drop 24).take 24) := rfl
  rw [e]
  simp only [List.all_append, Bool.and_eq_true]
  exact ⟨h0, h1⟩
theorem mz9_len : mz9.length = mi9.length := by decide +kernel
theorem mz10_ok0 : (((mz10.zip mi10).drop 0).take 24).all (mzOk (ownS 10)) = true := by decide +kernel
theorem mz10_ok1 : (((mz10.zip mi10).drop 24).take 24).all (mzOk (ownS 10)) = true := by decide +kernel
theorem mz10_ok2 : (((mz10.zip mi10).drop 48).take 24).all (mzOk (ownS 10)) = true := by decide +kernel
theorem mz10_ok : (mz10.zip mi10).all (mzOk (ownS 10)) = true := by
  have h0 := mz10_ok0
  have h1 := mz10_ok1
  have h2 := mz10_ok2
  have e : (mz10.zip mi10) = ((mz10.zip mi10).drop 0).take 24 ++ (((mz10.zip mi10).drop 24).take 24 ++ (((mz10.zip mi10).drop 48).take 24)) := rfl
  rw [e]
  simp only [List.all_append, Bool.and_eq_true]
  exact ⟨h0, h1, h2⟩
theorem mz10_len : mz10.length = mi10.length := by decide +kernel
theorem mz11_ok0 : (((mz11.zip mi11).drop 0).take 24).all (mzOk (ownS 11)) = true := by decide +kernel
theorem mz11_ok : (mz11.zip mi11).all (mzOk (ownS 11)) = true := by
  have h0 := mz11_ok0
  have e : (mz11.zip mi11) = ((mz11.zip mi11).drop 0).take 24 := rfl
  rw [e]
  exact h0
theorem mz11_len : mz11.length = mi11.length := by decide +kernel
def mzI (c : Nat) : List (List (Nat × Nat)) := match c with
  | 0 => mi0
  | 1 => mi1
  | 2 => mi2
  | 3 => mi3
  | 4 => mi4
  | 5 => mi5
  | 6 => mi6
  | 7 => mi7
  | 8 => mi8
  | 9 => mi9
  | 10 => mi10
  | 11 => mi11
  | _ => []
theorem mz_all (c : Nat) : ((mz c).zip (mzI c)).all (mzOk (ownS c)) = true ∧ (mz c).length = (mzI c).length := by
  match c with
  | 0 => exact ⟨mz0_ok, mz0_len⟩
  | 1 => exact ⟨mz1_ok, mz1_len⟩
  | 2 => exact ⟨mz2_ok, mz2_len⟩
  | 3 => exact ⟨mz3_ok, mz3_len⟩
  | 4 => exact ⟨mz4_ok, mz4_len⟩
  | 5 => exact ⟨mz5_ok, mz5_len⟩
  | 6 => exact ⟨mz6_ok, mz6_len⟩
  | 7 => exact ⟨mz7_ok, mz7_len⟩
  | 8 => exact ⟨mz8_ok, mz8_len⟩
  | 9 => exact ⟨mz9_ok, mz9_len⟩
  | 10 => exact ⟨mz10_ok, mz10_len⟩
  | 11 => exact ⟨mz11_ok, mz11_len⟩
  | n + 12 => exact ⟨rfl, rfl⟩
theorem mzl_mem : ∀ {t : List (Nat × MI × Nat × Nat)} {i : Nat} {q : MI × Nat × Nat}, mzl t i = some q → (i, q) ∈ t
  | [], _, _, h => by simp [mzl] at h
  | a :: t, i, q, h => by
    unfold mzl at h
    cases hb : a.1 == i with
    | true =>
      rw [hb] at h
      have e : a.1 = i := by simpa using hb
      have h2 : a.2 = q := by simpa using h
      rw [← h2, ← e]
      exact List.mem_cons_self
    | false =>
      rw [hb] at h
      exact List.mem_cons_of_mem _ (mzl_mem h)

