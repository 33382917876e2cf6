def wsL_law_r1 : List Cond := [Cond.classLink RL 7 RX7, Cond.instantiable RX7 7, Cond.initialized RX7, Cond.classLink RL 10 RX8, Cond.instantiable RX8 23, Cond.initialized RX8, Cond.constantLong RL 18 (4294967295), Cond.methodLink RL 9 yX7_init, Cond.instanceMethod yX7_init, Cond.code yX7_init cX7_init 2 none, Cond.methodLink RX7 3 objectInit, Cond.instanceMethod objectInit, Cond.code objectInit ⟨#[0xb1]⟩ 1 none, Cond.classLink RX7 15 RX6, Cond.instantiable RX6 13, Cond.initialized RX6, Cond.fieldLink RX7 20 "RummyTable" "walk" "LRummyTable$Walk;", Cond.classLink RX7 24 RX4, Cond.instantiable RX4 3, Cond.initialized RX4, Cond.fieldLink RX7 27 "RummyTable" "search" "LRummyTable$Search;", Cond.classLink RX7 31 RX1, Cond.instantiable RX1 12, Cond.initialized RX1]
def wsL_law_r2 : List Cond := [Cond.fieldLink RX7 34 "RummyTable" "game" "LRummyTable$Game;", Cond.classLink RX7 38 RX2, Cond.instantiable RX2 2, Cond.initialized RX2, Cond.fieldLink RX7 41 "RummyTable" "kept" "LRummyTable$Layout;", Cond.fieldLink RX7 45 "RummyTable" "trial" "LRummyTable$Layout;", Cond.fieldLink RX7 48 "RummyTable" "opening" "I", Cond.fieldLink RX7 52 "RummyTable" "status" "I", Cond.methodLink RX7 9 yX5_allInOrder, Cond.static yX5_allInOrder, Cond.initialized RX5, Cond.code yX5_allInOrder cX5_allInOrder 5 (some (.array .int)), Cond.arrayClass .int, Cond.methodLink RX5 9 yX5_fromPlaces, Cond.static yX5_fromPlaces, Cond.code yX5_fromPlaces cX5_fromPlaces 4 (some .int), Cond.methodLink RX5 15 yX5_grouped, Cond.static yX5_grouped, Cond.code yX5_grouped cX5_grouped 1 (some .int), Cond.methodLink RX5 18 yJ6_bitCount_0f7a4, Cond.static yJ6_bitCount_0f7a4, Cond.initialized RJ6, Cond.code yJ6_bitCount_0f7a4 cJ6_bitCount_0f7a4 1 (some .int), Cond.constant RJ6 265 (1431655765)]
def wsL_law_r3 : List Cond := [Cond.constant RJ6 266 (858993459), Cond.constant RJ6 267 (252645135), Cond.methodLink RX7 17 yX6_init, Cond.instanceMethod yX6_init, Cond.code yX6_init cX6_init 5 none, Cond.methodLink RX6 3 objectInit, Cond.fieldLink RX6 9 "RummyTable$Walk" "steps" "[I", Cond.fieldLink RX6 15 "RummyTable$Walk" "fitting" "[I", Cond.fieldLink RX6 18 "RummyTable$Walk" "firstFit" "[I", Cond.arrayClass .long, Cond.fieldLink RX6 21 "RummyTable$Walk" "gains" "[J", Cond.classLink RX6 25 RX3, Cond.instantiable RX3 4, Cond.initialized RX3, Cond.fieldLink RX6 28 "RummyTable$Walk" "here" "LRummyTable$Row;", Cond.fieldLink RX6 32 "RummyTable$Walk" "there" "LRummyTable$Row;", Cond.instanceMethod yX3_init, Cond.code yX3_init cX3_init 1 none, Cond.methodLink RX3 3 objectInit, Cond.fieldLink RX3 9 "RummyTable$Row" "cells" "[J", Cond.arrayClass .boolean, Cond.fieldLink RX3 15 "RummyTable$Row" "listed" "[Z", Cond.fieldLink RX3 19 "RummyTable$Row" "states" "[I", Cond.methodLink RX6 35 yX5_continued]
def wsL_law_r4 : List Cond := [Cond.static yX5_continued, Cond.code yX5_continued cX5_continued 1 (some .int), Cond.methodLink RX7 26 yX4_init, Cond.instanceMethod yX4_init, Cond.code yX4_init cX4_init 2 none, Cond.methodLink RX4 3 objectInit, Cond.fieldLink RX4 11 "RummyTable$Search" "hopeless" "[J", Cond.fieldLink RX4 15 "RummyTable$Search" "steps" "[I", Cond.instanceMethod yX1_init, Cond.code yX1_init cX1_init 1 none, Cond.methodLink RX1 3 objectInit, Cond.fieldLink RX1 9 "RummyTable$Game" "hands" "[J", Cond.fieldLink RX1 15 "RummyTable$Game" "opened" "[Z", Cond.fieldLink RX1 19 "RummyTable$Game" "pack" "[I", Cond.instanceMethod yX2_init, Cond.code yX2_init cX2_init 1 none, Cond.methodLink RX2 3 objectInit, Cond.fieldLink RX2 9 "RummyTable$Layout" "steps" "[I", Cond.methodLink RL 12 yX8_init, Cond.instanceMethod yX8_init, Cond.code yX8_init cX8_init 1 none, Cond.methodLink RX8 1 objectInit, Cond.constant RX8 7 (203520), Cond.fieldLink RX8 8 "RummyTableModel" "ways" "[J"]
def wsL_law_r5 : List Cond := [Cond.fieldLink RX8 14 "RummyTableModel" "places" "[I", Cond.fieldLink RX8 18 "RummyTableModel" "stands" "[Z", Cond.fieldLink RX8 22 "RummyTableModel" "most" "[I", Cond.fieldLink RX8 25 "RummyTableModel" "here" "[Z", Cond.fieldLink RX8 28 "RummyTableModel" "there" "[Z", Cond.fieldLink RX8 31 "RummyTableModel" "opening" "I", Cond.fieldLink RX8 35 "RummyTableModel" "hands" "[J", Cond.fieldLink RX8 38 "RummyTableModel" "opened" "[Z", Cond.fieldLink RX8 41 "RummyTableModel" "cards" "[I", Cond.fieldLink RX8 44 "RummyTableModel" "oldPlaces" "[I", Cond.fieldLink RX8 47 "RummyTableModel" "oldStands" "[Z", Cond.methodLink RL 13 yX7_status, Cond.instanceMethod yX7_status, Cond.selects RX7 yX7_status yX7_status, Cond.code yX7_status cX7_status 1 (some .int), Cond.methodLink RL 17 yX8_status, Cond.instanceMethod yX8_status, Cond.selects RX8 yX8_status yX8_status, Cond.code yX8_status cX8_status 1 (some .int), Cond.fieldLink RX8 50 "RummyTableModel" "status" "I", Cond.methodLink RL 20 yX7_ways, Cond.instanceMethod yX7_ways, Cond.selects RX7 yX7_ways yX7_ways, Cond.code yX7_ways cX7_ways 3 (some .long)]
def wsL_law_r6 : List Cond := [Cond.methodLink RX7 55 yX0_isSet, Cond.static yX0_isSet, Cond.initialized RX0, Cond.code yX0_isSet cX0_isSet 2 (some .boolean), Cond.methodLink RX7 61 yX7_refuse, Cond.instanceMethod yX7_refuse, Cond.selects RX7 yX7_refuse yX7_refuse, Cond.code yX7_refuse cX7_refuse 2 (some .int), Cond.methodLink RX7 65 yX6_countLayouts, Cond.instanceMethod yX6_countLayouts, Cond.selects RX6 yX6_countLayouts yX6_countLayouts, Cond.code yX6_countLayouts cX6_countLayouts 7 (some .long), Cond.fieldLink RX6 41 "RummyTable$Walk" "must" "J", Cond.fieldLink RX6 45 "RummyTable$Walk" "may" "J", Cond.fieldLink RX6 48 "RummyTable$Walk" "counting" "Z", Cond.methodLink RX6 52 yX0_jokersIn, Cond.static yX0_jokersIn, Cond.code yX0_jokersIn cX0_jokersIn 2 (some .int), Cond.methodLink RX0 34 yJ13_bitCount_95d88, Cond.static yJ13_bitCount_95d88, Cond.initialized RJ13, Cond.code yJ13_bitCount_95d88 cJ13_bitCount_95d88 2 (some .int), Cond.constantLong RJ13 314 (6148914691236517205), Cond.constantLong RJ13 316 (3689348814741910323)]
def wsL_law_r7 : List Cond := [Cond.constantLong RJ13 318 (1085102592571150095), Cond.methodLink RX6 58 yX6_goThrough, Cond.instanceMethod yX6_goThrough, Cond.selects RX6 yX6_goThrough yX6_goThrough, Cond.code yX6_goThrough cX6_goThrough 4 none, Cond.methodLink RX6 80 Lib.Math.min.name, Cond.static Lib.Math.min.name, Cond.initialized "java/lang/Math", Cond.code Lib.Math.min.name Lib.Math.min.code 2 (some .int), Cond.fieldLink RX6 103 "RummyTable$Walk" "jokers" "I", Cond.methodLink RX6 106 yX3_clear, Cond.instanceMethod yX3_clear, Cond.selects RX3 yX3_clear yX3_clear, Cond.code yX3_clear cX3_clear 4 none, Cond.fieldLink RX3 23 "RummyTable$Row" "count" "I", Cond.methodLink RX6 109 yX3_put, Cond.instanceMethod yX3_put, Cond.selects RX3 yX3_put yX3_put, Cond.code yX3_put cX3_put 5 none, Cond.methodLink RX3 27 yX3_isCell, Cond.static yX3_isCell, Cond.code yX3_isCell cX3_isCell 2 (some .boolean), Cond.methodLink RX6 113 yX6_gatherFitting, Cond.instanceMethod yX6_gatherFitting]
def wsL_law_r8 : List Cond := [Cond.selects RX6 yX6_gatherFitting yX6_gatherFitting, Cond.code yX6_gatherFitting cX6_gatherFitting 7 none, Cond.fieldLink RX6 77 "RummyTable$Walk" "byWorth" "Z", Cond.fieldLink RX6 137 "RummyTable$Walk" "unit" "I", Cond.fieldLink RX6 140 "RummyTable$Walk" "fits" "I", Cond.methodLink RX6 130 yX0_coloursOf, Cond.static yX0_coloursOf, Cond.code yX0_coloursOf cX0_coloursOf 3 (some .int), Cond.methodLink RX6 134 yX0_worthOfNumber, Cond.static yX0_worthOfNumber, Cond.code yX0_worthOfNumber cX0_worthOfNumber 1 (some .int), Cond.methodLink RX0 9 Lib.Math.min.name, Cond.methodLink RX6 143 yX5_shown, Cond.static yX5_shown, Cond.code yX5_shown cX5_shown 1 (some .int), Cond.methodLink RX6 146 yJ6_bitCount_0f7a4, Cond.methodLink RX6 151 yX6_setGains, Cond.instanceMethod yX6_setGains, Cond.selects RX6 yX6_setGains yX6_setGains, Cond.code yX6_setGains cX6_setGains 8 none, Cond.constantLong RX6 90 (-1), Cond.methodLink RX6 154 yX6_gainOf, Cond.instanceMethod yX6_gainOf, Cond.selects RX6 yX6_gainOf yX6_gainOf]
def wsL_law_r9 : List Cond := [Cond.code yX6_gainOf cX6_gainOf 6 (some .long), Cond.methodLink RX6 157 yX6_withoutLast, Cond.static yX6_withoutLast, Cond.code yX6_withoutLast cX6_withoutLast 2 (some .int), Cond.methodLink RX6 116 yX6_goOnFrom, Cond.instanceMethod yX6_goOnFrom, Cond.selects RX6 yX6_goOnFrom yX6_goOnFrom, Cond.code yX6_goOnFrom cX6_goOnFrom 4 none, Cond.methodLink RX6 119 yX5_canContinue, Cond.static yX5_canContinue, Cond.code yX5_canContinue cX5_canContinue 4 (some .boolean), Cond.methodLink RX6 123 yX5_stateAfter, Cond.static yX5_stateAfter, Cond.code yX5_stateAfter cX5_stateAfter 3 (some .int), Cond.methodLink RX5 26 yX5_continued, Cond.methodLink RX5 23 yX5_begun, Cond.static yX5_begun, Cond.code yX5_begun cX5_begun 1 (some .int), Cond.methodLink RX6 126 yX6_carry, Cond.instanceMethod yX6_carry, Cond.selects RX6 yX6_carry yX6_carry, Cond.code yX6_carry cX6_carry 12 none, Cond.methodLink RX6 99 Lib.MathLoose.max_long.x, Cond.static Lib.MathLoose.max_long.x]
def wsL_law_r10 : List Cond := [Cond.code Lib.MathLoose.max_long.x Lib.MathLoose.max_long.code 4 (some .long), Cond.methodLink RX6 73 yX3_at, Cond.instanceMethod yX3_at, Cond.selects RX3 yX3_at yX3_at, Cond.code yX3_at cX3_at 3 (some .long), Cond.methodLink RX6 69 yX5_mayEnd, Cond.static yX5_mayEnd, Cond.code yX5_mayEnd cX5_mayEnd 1 (some .boolean), Cond.methodLink RL 24 yX8_ways, Cond.instanceMethod yX8_ways, Cond.selects RX8 yX8_ways yX8_ways, Cond.code yX8_ways cX8_ways 3 (some .long), Cond.methodLink RX8 86 yX8_isSet, Cond.static yX8_isSet, Cond.code yX8_isSet cX8_isSet 2 (some .boolean), Cond.constantLong RX8 53 (18014398509481983), Cond.methodLink RX8 90 yX8_none, Cond.instanceMethod yX8_none, Cond.selects RX8 yX8_none yX8_none, Cond.code yX8_none cX8_none 2 (some .int), Cond.methodLink RX8 93 yX8_count, Cond.instanceMethod yX8_count, Cond.selects RX8 yX8_count yX8_count, Cond.code yX8_count cX8_count 10 none]
def wsL_law_r11 : List Cond := [Cond.constant RX8 73 (199680), Cond.methodLink RX8 74 yX8_isWhole, Cond.static yX8_isWhole, Cond.code yX8_isWhole cX8_isWhole 2 (some .boolean), Cond.methodLink RX8 63 yX8_run, Cond.static yX8_run, Cond.code yX8_run cX8_run 2 (some .int), Cond.methodLink RX8 67 yX8_inGroup, Cond.static yX8_inGroup, Cond.code yX8_inGroup cX8_inGroup 1 (some .int), Cond.methodLink RX8 70 yX8_jokers, Cond.static yX8_jokers, Cond.code yX8_jokers cX8_jokers 1 (some .int), Cond.methodLink RX8 78 yX8_jokersOf, Cond.static yX8_jokersOf, Cond.code yX8_jokersOf cX8_jokersOf 2 (some .int), Cond.methodLink RX8 55 yX8_has, Cond.static yX8_has, Cond.code yX8_has cX8_has 3 (some .boolean), Cond.methodLink RX8 82 yX8_behind, Cond.static yX8_behind, Cond.code yX8_behind cX8_behind 10 (some .int), Cond.methodLink RL 25 yX7_layout, Cond.instanceMethod yX7_layout]
def wsL_law_r12 : List Cond := [Cond.selects RX7 yX7_layout yX7_layout, Cond.code yX7_layout cX7_layout 3 (some .int), Cond.methodLink RX7 69 yX4_findFirst, Cond.instanceMethod yX4_findFirst, Cond.selects RX4 yX4_findFirst yX4_findFirst, Cond.code yX4_findFirst cX4_findFirst 4 (some .boolean), Cond.fieldLink RX4 19 "RummyTable$Search" "set" "J", Cond.methodLink RX4 23 yJ7_fill_d0a16, Cond.static yJ7_fill_d0a16, Cond.initialized RJ7, Cond.code yJ7_fill_d0a16 cJ7_fill_d0a16 5 none, Cond.methodLink RX4 29 yX0_jokersIn, Cond.methodLink RX4 35 yX4_reachesEnd, Cond.instanceMethod yX4_reachesEnd, Cond.selects RX4 yX4_reachesEnd yX4_reachesEnd, Cond.code yX4_reachesEnd cX4_reachesEnd 10 (some .boolean), Cond.methodLink RX4 44 yX5_mayEnd, Cond.methodLink RX4 50 yX0_coloursOf, Cond.methodLink RX4 54 yX5_shown, Cond.methodLink RX4 58 yX5_continued, Cond.methodLink RX4 61 yX5_canContinue, Cond.methodLink RX4 65 yJ6_bitCount_0f7a4, Cond.methodLink RX4 70 yX5_stateAfter, Cond.methodLink RX7 73 yX7_keepTrial]
def wsL_law_r13 : List Cond := [Cond.instanceMethod yX7_keepTrial, Cond.selects RX7 yX7_keepTrial yX7_keepTrial, Cond.code yX7_keepTrial cX7_keepTrial 2 none, Cond.methodLink RX7 76 yX2_groups, Cond.instanceMethod yX2_groups, Cond.selects RX2 yX2_groups yX2_groups, Cond.code yX2_groups cX2_groups 6 (some .int), Cond.methodLink RX2 28 yX5_grouped, Cond.methodLink RX7 80 yX2_runs, Cond.instanceMethod yX2_runs, Cond.selects RX2 yX2_runs yX2_runs, Cond.code yX2_runs cX2_runs 6 (some .int), Cond.methodLink RX2 31 yX5_begun, Cond.methodLink RX2 34 yJ6_bitCount_0f7a4, Cond.methodLink RL 29 yX8_layout, Cond.instanceMethod yX8_layout, Cond.selects RX8 yX8_layout yX8_layout, Cond.code yX8_layout cX8_layout 3 (some .int), Cond.methodLink RX8 97 yX8_keeps, Cond.instanceMethod yX8_keeps, Cond.selects RX8 yX8_keeps yX8_keeps, Cond.code yX8_keeps cX8_keeps 8 (some .boolean), Cond.methodLink RX8 100 yX8_melds, Cond.instanceMethod yX8_melds]
def wsL_law_r14 : List Cond := [Cond.selects RX8 yX8_melds yX8_melds, Cond.code yX8_melds cX8_melds 4 (some .int), Cond.methodLink RL 30 yX7_best, Cond.instanceMethod yX7_best, Cond.selects RX7 yX7_best yX7_best, Cond.code yX7_best cX7_best 8 (some .long), Cond.methodLink RX7 83 yX7_isAim, Cond.static yX7_isAim, Cond.code yX7_isAim cX7_isAim 1 (some .boolean), Cond.methodLink RX7 87 yX6_bestPart, Cond.instanceMethod yX6_bestPart, Cond.selects RX6 yX6_bestPart yX6_bestPart, Cond.code yX6_bestPart cX6_bestPart 14 (some .long), Cond.methodLink RX6 86 yX6_greatestAtEnd, Cond.instanceMethod yX6_greatestAtEnd, Cond.selects RX6 yX6_greatestAtEnd yX6_greatestAtEnd, Cond.code yX6_greatestAtEnd cX6_greatestAtEnd 5 (some .long), Cond.methodLink RX6 92 yX6_cardsOfKey, Cond.instanceMethod yX6_cardsOfKey, Cond.selects RX6 yX6_cardsOfKey yX6_cardsOfKey, Cond.code yX6_cardsOfKey cX6_cardsOfKey 6 (some .long), Cond.methodLink RX6 96 yX6_firstJokers, Cond.instanceMethod yX6_firstJokers, Cond.selects RX6 yX6_firstJokers yX6_firstJokers]
def wsL_law_r15 : List Cond := [Cond.code yX6_firstJokers cX6_firstJokers 6 (some .long), Cond.methodLink RL 34 yX8_best, Cond.instanceMethod yX8_best, Cond.selects RX8 yX8_best yX8_best, Cond.code yX8_best cX8_best 9 (some .long), Cond.methodLink RX8 143 yX8_bestOf, Cond.instanceMethod yX8_bestOf, Cond.selects RX8 yX8_bestOf yX8_bestOf, Cond.code yX8_bestOf cX8_bestOf 12 (some .long), Cond.constantLong RX8 137 (-1), Cond.methodLink RX8 133 yX8_reckon, Cond.instanceMethod yX8_reckon, Cond.selects RX8 yX8_reckon yX8_reckon, Cond.code yX8_reckon cX8_reckon 12 none, Cond.methodLink RX8 128 Lib.Math.max.name, Cond.static Lib.Math.max.name, Cond.code Lib.Math.max.name Lib.Math.max.code 2 (some .int), Cond.methodLink RX8 122 yX8_gain, Cond.static yX8_gain, Cond.code yX8_gain cX8_gain 2 (some .int), Cond.methodLink RX8 59 yX8_worthOf, Cond.static yX8_worthOf, Cond.code yX8_worthOf cX8_worthOf 1 (some .int), Cond.methodLink RX8 125 yX8_after]
def wsL_law_r16 : List Cond := [Cond.instanceMethod yX8_after, Cond.selects RX8 yX8_after yX8_after, Cond.code yX8_after cX8_after 3 (some .int), Cond.methodLink RX8 139 yX8_goes, Cond.instanceMethod yX8_goes, Cond.selects RX8 yX8_goes yX8_goes, Cond.code yX8_goes cX8_goes 8 (some .boolean), Cond.methodLink RL 35 yX7_place, Cond.instanceMethod yX7_place, Cond.selects RX7 yX7_place yX7_place, Cond.code yX7_place cX7_place 2 (some .int), Cond.methodLink RX7 91 yX2_placeOf, Cond.instanceMethod yX2_placeOf, Cond.selects RX2 yX2_placeOf yX2_placeOf, Cond.code yX2_placeOf cX2_placeOf 2 (some .int), Cond.methodLink RX2 15 yX5_placeOf, Cond.static yX5_placeOf, Cond.code yX5_placeOf cX5_placeOf 2 (some .int), Cond.methodLink RL 39 yX8_place, Cond.instanceMethod yX8_place, Cond.selects RX8 yX8_place yX8_place, Cond.code yX8_place cX8_place 2 (some .int), Cond.methodLink RL 40 yX7_stands, Cond.instanceMethod yX7_stands]
def wsL_law_r17 : List Cond := [Cond.selects RX7 yX7_stands yX7_stands, Cond.code yX7_stands cX7_stands 2 (some .int), Cond.methodLink RX7 94 yX2_jokerFor, Cond.instanceMethod yX2_jokerFor, Cond.selects RX2 yX2_jokerFor yX2_jokerFor, Cond.code yX2_jokerFor cX2_jokerFor 2 (some .int), Cond.fieldLink RX2 24 "RummyTable$Layout" "own" "J", Cond.methodLink RX2 21 yX2_placeOf, Cond.methodLink RL 43 yX8_stands, Cond.instanceMethod yX8_stands, Cond.selects RX8 yX8_stands yX8_stands, Cond.code yX8_stands cX8_stands 2 (some .int), Cond.methodLink RL 44 yX7_shows, Cond.instanceMethod yX7_shows, Cond.selects RX7 yX7_shows yX7_shows, Cond.code yX7_shows cX7_shows 2 (some .int), Cond.methodLink RX7 97 yX2_shownCards, Cond.instanceMethod yX2_shownCards, Cond.selects RX2 yX2_shownCards yX2_shownCards, Cond.code yX2_shownCards cX2_shownCards 6 (some .int), Cond.methodLink RX2 39 yX5_shown, Cond.methodLink RX7 104 yX0_jokersIn, Cond.methodLink RX7 108 yX2_shownWorth, Cond.instanceMethod yX2_shownWorth]
def wsL_law_r18 : List Cond := [Cond.selects RX2 yX2_shownWorth yX2_shownWorth, Cond.code yX2_shownWorth cX2_shownWorth 3 (some .int), Cond.methodLink RX2 42 yX0_worthOfNumber, Cond.methodLink RX7 111 yX2_longestRun, Cond.instanceMethod yX2_longestRun, Cond.selects RX2 yX2_longestRun yX2_longestRun, Cond.code yX2_longestRun cX2_longestRun 6 (some .int), Cond.methodLink RX2 47 Lib.Math.max.name, Cond.methodLink RL 47 yX8_shows, Cond.instanceMethod yX8_shows, Cond.selects RX8 yX8_shows yX8_shows, Cond.code yX8_shows cX8_shows 2 (some .int), Cond.methodLink RX8 104 yX8_runs, Cond.instanceMethod yX8_runs, Cond.selects RX8 yX8_runs yX8_runs, Cond.code yX8_runs cX8_runs 3 (some .int), Cond.methodLink RX8 107 yX8_shown, Cond.instanceMethod yX8_shown, Cond.selects RX8 yX8_shown yX8_shown, Cond.code yX8_shown cX8_shown 3 (some .int), Cond.methodLink RX8 110 yX8_stood, Cond.instanceMethod yX8_stood, Cond.selects RX8 yX8_stood yX8_stood, Cond.code yX8_stood cX8_stood 3 (some .int)]
def wsL_law_r19 : List Cond := [Cond.methodLink RX8 113 yX8_worthShown, Cond.instanceMethod yX8_worthShown, Cond.selects RX8 yX8_worthShown yX8_worthShown, Cond.code yX8_worthShown cX8_worthShown 3 (some .int), Cond.methodLink RX8 116 yX8_longest, Cond.instanceMethod yX8_longest, Cond.selects RX8 yX8_longest yX8_longest, Cond.code yX8_longest cX8_longest 5 (some .int), Cond.methodLink RL 48 yX7_worth, Cond.instanceMethod yX7_worth, Cond.selects RX7 yX7_worth yX7_worth, Cond.code yX7_worth cX7_worth 3 (some .int), Cond.methodLink RX7 114 yX0_worthOfSet, Cond.static yX0_worthOfSet, Cond.code yX0_worthOfSet cX0_worthOfSet 4 (some .int), Cond.methodLink RX0 15 yX0_jokersIn, Cond.methodLink RX0 21 yX0_worthOfNumber, Cond.methodLink RX0 25 yX0_coloursOf, Cond.methodLink RX0 29 yJ6_bitCount_0f7a4, Cond.methodLink RL 51 yX8_worth, Cond.instanceMethod yX8_worth, Cond.selects RX8 yX8_worth yX8_worth, Cond.code yX8_worth cX8_worth 3 (some .int), Cond.methodLink RX8 119 yX8_worthAll]
def wsL_law_r20 : List Cond := [Cond.static yX8_worthAll, Cond.code yX8_worthAll cX8_worthAll 4 (some .int), Cond.methodLink RL 52 yX7_opening, Cond.instanceMethod yX7_opening, Cond.selects RX7 yX7_opening yX7_opening, Cond.code yX7_opening cX7_opening 2 (some .boolean), Cond.methodLink RL 56 yX8_opening, Cond.instanceMethod yX8_opening, Cond.selects RX8 yX8_opening yX8_opening, Cond.code yX8_opening cX8_opening 2 (some .boolean), Cond.methodLink RL 57 yX7_deal, Cond.instanceMethod yX7_deal, Cond.selects RX7 yX7_deal yX7_deal, Cond.code yX7_deal cX7_deal 5 (some .boolean), Cond.constant RX7 117 (2147483646), Cond.methodLink RX7 118 yX1_begin, Cond.instanceMethod yX1_begin, Cond.selects RX1 yX1_begin yX1_begin, Cond.code yX1_begin cX1_begin 6 none, Cond.methodLink RX1 27 Lib.Math.min.name, Cond.fieldLink RX1 33 "RummyTable$Game" "players" "I", Cond.fieldLink RX1 37 "RummyTable$Game" "top" "I", Cond.fieldLink RX1 48 "RummyTable$Game" "lying" "J", Cond.fieldLink RX1 52 "RummyTable$Game" "turn" "I"]
def wsL_law_r21 : List Cond := [Cond.fieldLink RX1 55 "RummyTable$Game" "turnsEnded" "I", Cond.fieldLink RX1 58 "RummyTable$Game" "layings" "I", Cond.fieldLink RX1 61 "RummyTable$Game" "idleTurns" "I", Cond.fieldLink RX1 64 "RummyTable$Game" "over" "Z", Cond.fieldLink RX1 68 "RummyTable$Game" "winner" "I", Cond.methodLink RX1 23 yX1_shuffle, Cond.instanceMethod yX1_shuffle, Cond.selects RX1 yX1_shuffle yX1_shuffle, Cond.code yX1_shuffle cX1_shuffle 7 none, Cond.constantLong RX1 71 (48271), Cond.constantLong RX1 73 (2147483647), Cond.methodLink RX1 40 yX1_drawn, Cond.instanceMethod yX1_drawn, Cond.selects RX1 yX1_drawn yX1_drawn, Cond.code yX1_drawn cX1_drawn 2 (some .int), Cond.methodLink RX1 44 yX1_bitOf, Cond.static yX1_bitOf, Cond.code yX1_bitOf cX1_bitOf 1 (some .long), Cond.methodLink RL 61 yX8_deal, Cond.instanceMethod yX8_deal, Cond.selects RX8 yX8_deal yX8_deal, Cond.code yX8_deal cX8_deal 9 (some .boolean), Cond.constant RX8 147 (2147483646), Cond.constantLong RX8 148 (48271)]
def wsL_law_r22 : List Cond := [Cond.constantLong RX8 150 (2147483647), Cond.fieldLink RX8 152 "RummyTableModel" "drawn" "I", Cond.fieldLink RX8 155 "RummyTableModel" "players" "I", Cond.fieldLink RX8 158 "RummyTableModel" "isGame" "Z", Cond.fieldLink RX8 162 "RummyTableModel" "isOver" "Z", Cond.fieldLink RX8 165 "RummyTableModel" "plays" "I", Cond.fieldLink RX8 168 "RummyTableModel" "won" "I", Cond.fieldLink RX8 171 "RummyTableModel" "turns" "I", Cond.fieldLink RX8 174 "RummyTableModel" "layings" "I", Cond.fieldLink RX8 177 "RummyTableModel" "passed" "I", Cond.fieldLink RX8 180 "RummyTableModel" "table" "J", Cond.methodLink RL 62 yX7_hand, Cond.instanceMethod yX7_hand, Cond.selects RX7 yX7_hand yX7_hand, Cond.code yX7_hand cX7_hand 2 (some .long), Cond.methodLink RX7 122 yX1_isDealt, Cond.instanceMethod yX1_isDealt, Cond.selects RX1 yX1_isDealt yX1_isDealt, Cond.code yX1_isDealt cX1_isDealt 1 (some .boolean), Cond.methodLink RX7 126 yX1_has, Cond.instanceMethod yX1_has, Cond.selects RX1 yX1_has yX1_has, Cond.code yX1_has cX1_has 2 (some .boolean), Cond.methodLink RX7 129 yX1_handOf]
def wsL_law_r23 : List Cond := [Cond.instanceMethod yX1_handOf, Cond.selects RX1 yX1_handOf yX1_handOf, Cond.code yX1_handOf cX1_handOf 2 (some .long), Cond.methodLink RX1 75 yX1_has, Cond.methodLink RL 66 yX8_hand, Cond.instanceMethod yX8_hand, Cond.selects RX8 yX8_hand yX8_hand, Cond.code yX8_hand cX8_hand 2 (some .long), Cond.methodLink RL 67 yX7_table, Cond.instanceMethod yX7_table, Cond.selects RX7 yX7_table yX7_table, Cond.code yX7_table cX7_table 1 (some .long), Cond.methodLink RL 71 yX8_table, Cond.instanceMethod yX8_table, Cond.selects RX8 yX8_table yX8_table, Cond.code yX8_table cX8_table 1 (some .long), Cond.methodLink RL 72 yX7_tell, Cond.instanceMethod yX7_tell, Cond.selects RX7 yX7_tell yX7_tell, Cond.code yX7_tell cX7_tell 2 (some .int), Cond.methodLink RX7 136 yX1_fact, Cond.instanceMethod yX1_fact, Cond.selects RX1 yX1_fact yX1_fact, Cond.code yX1_fact cX1_fact 2 (some .int)]
def wsL_law_r24 : List Cond := [Cond.methodLink RL 75 yX8_tell, Cond.instanceMethod yX8_tell, Cond.selects RX8 yX8_tell yX8_tell, Cond.code yX8_tell cX8_tell 2 (some .int), Cond.methodLink RL 76 yX7_player, Cond.instanceMethod yX7_player, Cond.selects RX7 yX7_player yX7_player, Cond.code yX7_player cX7_player 5 (some .int), Cond.methodLink RX7 139 yX1_hasOpened, Cond.instanceMethod yX1_hasOpened, Cond.selects RX1 yX1_hasOpened yX1_hasOpened, Cond.code yX1_hasOpened cX1_hasOpened 2 (some .boolean), Cond.methodLink RX7 142 yJ13_bitCount_95d88, Cond.methodLink RL 80 yX8_player, Cond.instanceMethod yX8_player, Cond.selects RX8 yX8_player yX8_player, Cond.code yX8_player cX8_player 3 (some .int), Cond.methodLink RX8 184 yX8_many, Cond.static yX8_many, Cond.code yX8_many cX8_many 4 (some .int), Cond.methodLink RL 81 yX7_lay, Cond.instanceMethod yX7_lay, Cond.selects RX7 yX7_lay yX7_lay, Cond.code yX7_lay cX7_lay 5 (some .int)]
def wsL_law_r25 : List Cond := [Cond.constantLong RX7 153 (-1), Cond.methodLink RX7 147 yX7_barToPlay, Cond.instanceMethod yX7_barToPlay, Cond.selects RX7 yX7_barToPlay yX7_barToPlay, Cond.code yX7_barToPlay cX7_barToPlay 1 (some .int), Cond.methodLink RX7 155 yX7_tryLaying, Cond.instanceMethod yX7_tryLaying, Cond.selects RX7 yX7_tryLaying yX7_tryLaying, Cond.code yX7_tryLaying cX7_tryLaying 3 (some .int), Cond.methodLink RX7 158 yX7_carryOut, Cond.instanceMethod yX7_carryOut, Cond.selects RX7 yX7_carryOut yX7_carryOut, Cond.code yX7_carryOut cX7_carryOut 3 none, Cond.methodLink RX7 172 yX1_putDown, Cond.instanceMethod yX1_putDown, Cond.selects RX1 yX1_putDown yX1_putDown, Cond.code yX1_putDown cX1_putDown 3 none, Cond.constantLong RX1 79 (-1), Cond.methodLink RL 84 yX8_lay, Cond.instanceMethod yX8_lay, Cond.selects RX8 yX8_lay yX8_lay, Cond.code yX8_lay cX8_lay 4 (some .int), Cond.methodLink RX8 193 yX8_mayLay, Cond.instanceMethod yX8_mayLay]
def wsL_law_r26 : List Cond := [Cond.selects RX8 yX8_mayLay yX8_mayLay, Cond.code yX8_mayLay cX8_mayLay 4 (some .int), Cond.methodLink RX8 187 yX8_remember, Cond.instanceMethod yX8_remember, Cond.selects RX8 yX8_remember yX8_remember, Cond.code yX8_remember cX8_remember 2 none, Cond.methodLink RX8 190 yX8_recall, Cond.instanceMethod yX8_recall, Cond.selects RX8 yX8_recall yX8_recall, Cond.code yX8_recall cX8_recall 2 none, Cond.methodLink RX8 196 yX8_laid, Cond.instanceMethod yX8_laid, Cond.selects RX8 yX8_laid yX8_laid, Cond.code yX8_laid cX8_laid 3 none, Cond.methodLink RL 85 yX7_end, Cond.instanceMethod yX7_end, Cond.selects RX7 yX7_end yX7_end, Cond.code yX7_end cX7_end 2 (some .int), Cond.methodLink RX7 162 yX1_endTurn, Cond.instanceMethod yX1_endTurn, Cond.selects RX1 yX1_endTurn yX1_endTurn, Cond.code yX1_endTurn cX1_endTurn 2 (some .int), Cond.methodLink RL 88 yX8_end, Cond.instanceMethod yX8_end]
def wsL_law_r27 : List Cond := [Cond.selects RX8 yX8_end yX8_end, Cond.code yX8_end cX8_end 1 (some .int), Cond.methodLink RX8 199 yX8_ends, Cond.instanceMethod yX8_ends, Cond.selects RX8 yX8_ends yX8_ends, Cond.code yX8_ends cX8_ends 2 (some .int), Cond.methodLink RL 89 yX7_robot, Cond.instanceMethod yX7_robot, Cond.selects RX7 yX7_robot yX7_robot, Cond.code yX7_robot cX7_robot 4 (some .int), Cond.methodLink RX7 165 yX7_layAllBest, Cond.instanceMethod yX7_layAllBest, Cond.selects RX7 yX7_layAllBest yX7_layAllBest, Cond.code yX7_layAllBest cX7_layAllBest 8 (some .int), Cond.methodLink RL 92 yX8_robot, Cond.instanceMethod yX8_robot, Cond.selects RX8 yX8_robot yX8_robot, Cond.code yX8_robot cX8_robot 6 (some .int)]
def wsL_law : List Cond := (wsL_law_r1 ++ (wsL_law_r2 ++ (wsL_law_r3 ++ (wsL_law_r4 ++ (wsL_law_r5 ++ (wsL_law_r6 ++ (wsL_law_r7 ++ (wsL_law_r8 ++ (wsL_law_r9 ++ (wsL_law_r10 ++ (wsL_law_r11 ++ (wsL_law_r12 ++ (wsL_law_r13 ++ (wsL_law_r14 ++ (wsL_law_r15 ++ (wsL_law_r16 ++ (wsL_law_r17 ++ (wsL_law_r18 ++ (wsL_law_r19 ++ (wsL_law_r20 ++ (wsL_law_r21 ++ (wsL_law_r22 ++ (wsL_law_r23 ++ (wsL_law_r24 ++ (wsL_law_r25 ++ (wsL_law_r26 ++ wsL_law_r27)))))))))))))))))))))))))) ++ wsX70 ++ wsX80 ++ wsX60 ++ wsX40 ++ wsX10 ++ wsX20 ++ wsX30 ++ ([] : List Cond)
set_option maxRecDepth 20000 in
theorem wsL_in1 : ∀ w ∈ wsL_law_r1, w ∈ lw_tbl := fun w h => (goodIn_p wsL_law_r1 [54, 57] (by decide +kernel) (by decide +kernel) w h).1
set_option maxRecDepth 20000 in
theorem wsL_in2 : ∀ w ∈ wsL_law_r2, w ∈ lw_tbl := fun w h => (goodIn_p wsL_law_r2 [60, 63, 66, 69] (by decide +kernel) (by decide +kernel) w h).1
set_option maxRecDepth 20000 in
theorem wsL_in3 : ∀ w ∈ wsL_law_r3, w ∈ lw_tbl := fun w h => (goodIn_p wsL_law_r3 [77, 83] (by decide +kernel) (by decide +kernel) w h).1
set_option maxRecDepth 20000 in
theorem wsL_in4 : ∀ w ∈ wsL_law_r4, w ∈ lw_tbl := fun w h => (goodIn_p wsL_law_r4 [105, 150, 166, 212, 568] (by decide +kernel) (by decide +kernel) w h).1
set_option maxRecDepth 20000 in
theorem wsL_in5 : ∀ w ∈ wsL_law_r5, w ∈ lw_tbl := fun w h => (goodIn_p wsL_law_r5 [249, 644, 253] (by decide +kernel) (by decide +kernel) w h).1
set_option maxRecDepth 20000 in
theorem wsL_in6 : ∀ w ∈ wsL_law_r6, w ∈ lw_tbl := fun w h => (goodIn_p wsL_law_r6 [256, 260, 264, 267, 270] (by decide +kernel) (by decide +kernel) w h).1
set_option maxRecDepth 20000 in
theorem wsL_in7 : ∀ w ∈ wsL_law_r7, w ∈ lw_tbl := fun w h => (goodIn_p wsL_law_r7 [277, 280, 284, 288, 291] (by decide +kernel) (by decide +kernel) w h).1
set_option maxRecDepth 20000 in
theorem wsL_in8 : ∀ w ∈ wsL_law_r8, w ∈ lw_tbl := fun w h => (goodIn_p wsL_law_r8 [295, 298, 301, 305, 310] (by decide +kernel) (by decide +kernel) w h).1
set_option maxRecDepth 20000 in
theorem wsL_in9 : ∀ w ∈ wsL_law_r9, w ∈ lw_tbl := fun w h => (goodIn_p wsL_law_r9 [315, 318, 322, 325, 328, 332, 336] (by decide +kernel) (by decide +kernel) w h).1
set_option maxRecDepth 20000 in
theorem wsL_in10 : ∀ w ∈ wsL_law_r10, w ∈ lw_tbl := fun w h => (goodIn_p wsL_law_r10 [343, 340, 346, 648, 651, 656, 660] (by decide +kernel) (by decide +kernel) w h).1
set_option maxRecDepth 20000 in
theorem wsL_in11 : ∀ w ∈ wsL_law_r11, w ∈ lw_tbl := fun w h => (goodIn_p wsL_law_r11 [664, 667, 670, 673, 676, 679, 682] (by decide +kernel) (by decide +kernel) w h).1
set_option maxRecDepth 20000 in
theorem wsL_in12 : ∀ w ∈ wsL_law_r12, w ∈ lw_tbl := fun w h => (goodIn_p wsL_law_r12 [350, 354, 357, 362] (by decide +kernel) (by decide +kernel) w h).1
set_option maxRecDepth 20000 in
theorem wsL_in13 : ∀ w ∈ wsL_law_r13, w ∈ lw_tbl := fun w h => (goodIn_p wsL_law_r13 [373, 377, 382, 686, 690] (by decide +kernel) (by decide +kernel) w h).1
set_option maxRecDepth 20000 in
theorem wsL_in14 : ∀ w ∈ wsL_law_r14, w ∈ lw_tbl := fun w h => (goodIn_p wsL_law_r14 [694, 388, 391, 395, 399, 403] (by decide +kernel) (by decide +kernel) w h).1
set_option maxRecDepth 20000 in
theorem wsL_in15 : ∀ w ∈ wsL_law_r15, w ∈ lw_tbl := fun w h => (goodIn_p wsL_law_r15 [407, 740, 744, 748, 449, 751, 725] (by decide +kernel) (by decide +kernel) w h).1
set_option maxRecDepth 20000 in
theorem wsL_in16 : ∀ w ∈ wsL_law_r16, w ∈ lw_tbl := fun w h => (goodIn_p wsL_law_r16 [755, 761, 411, 415, 418, 698] (by decide +kernel) (by decide +kernel) w h).1
set_option maxRecDepth 20000 in
theorem wsL_in17 : ∀ w ∈ wsL_law_r17, w ∈ lw_tbl := fun w h => (goodIn_p wsL_law_r17 [422, 426, 702, 431, 435] (by decide +kernel) (by decide +kernel) w h).1
set_option maxRecDepth 20000 in
theorem wsL_in18 : ∀ w ∈ wsL_law_r18, w ∈ lw_tbl := fun w h => (goodIn_p wsL_law_r18 [441, 446, 706, 710, 714, 718] (by decide +kernel) (by decide +kernel) w h).1
set_option maxRecDepth 20000 in
theorem wsL_in19 : ∀ w ∈ wsL_law_r19, w ∈ lw_tbl := fun w h => (goodIn_p wsL_law_r19 [722, 729, 453, 456, 733] (by decide +kernel) (by decide +kernel) w h).1
set_option maxRecDepth 20000 in
theorem wsL_in20 : ∀ w ∈ wsL_law_r20, w ∈ lw_tbl := fun w h => (goodIn_p wsL_law_r20 [736, 464, 765, 468, 473] (by decide +kernel) (by decide +kernel) w h).1
set_option maxRecDepth 20000 in
theorem wsL_in21 : ∀ w ∈ wsL_law_r21, w ∈ lw_tbl := fun w h => (goodIn_p wsL_law_r21 [477, 484, 487, 769] (by decide +kernel) (by decide +kernel) w h).1
set_option maxRecDepth 20000 in
theorem wsL_in22 : ∀ w ∈ wsL_law_r22, w ∈ lw_tbl := fun w h => (goodIn_p wsL_law_r22 [491, 495, 499] (by decide +kernel) (by decide +kernel) w h).1
set_option maxRecDepth 20000 in
theorem wsL_in23 : ∀ w ∈ wsL_law_r23, w ∈ lw_tbl := fun w h => (goodIn_p wsL_law_r23 [503, 776, 508, 780, 512, 516] (by decide +kernel) (by decide +kernel) w h).1
set_option maxRecDepth 20000 in
theorem wsL_in24 : ∀ w ∈ wsL_law_r24, w ∈ lw_tbl := fun w h => (goodIn_p wsL_law_r24 [784, 520, 524, 788, 791, 529] (by decide +kernel) (by decide +kernel) w h).1
set_option maxRecDepth 20000 in
theorem wsL_in25 : ∀ w ∈ wsL_law_r25, w ∈ lw_tbl := fun w h => (goodIn_p wsL_law_r25 [533, 538, 542, 546, 795] (by decide +kernel) (by decide +kernel) w h).1
set_option maxRecDepth 20000 in
theorem wsL_in26 : ∀ w ∈ wsL_law_r26, w ∈ lw_tbl := fun w h => (goodIn_p wsL_law_r26 [799, 803, 807, 811, 551, 555] (by decide +kernel) (by decide +kernel) w h).1
set_option maxRecDepth 20000 in
theorem wsL_in27 : ∀ w ∈ wsL_law_r27, w ∈ lw_tbl := fun w h => (goodIn_p wsL_law_r27 [815, 819, 559, 563, 823] (by decide +kernel) (by decide +kernel) w h).1
theorem inX7 : ∀ w ∈ wsX70, w ∈ lw_tbl := by decide +kernel
theorem inX8 : ∀ w ∈ wsX80, w ∈ lw_tbl := by decide +kernel
theorem inX6 : ∀ w ∈ wsX60, w ∈ lw_tbl := by decide +kernel
theorem inX4 : ∀ w ∈ wsX40, w ∈ lw_tbl := by decide +kernel
theorem inX1 : ∀ w ∈ wsX10, w ∈ lw_tbl := by decide +kernel
theorem inX2 : ∀ w ∈ wsX20, w ∈ lw_tbl := by decide +kernel
theorem inX3 : ∀ w ∈ wsX30, w ∈ lw_tbl := by decide +kernel
theorem wsL_law_in : ∀ w ∈ wsL_law, w ∈ lw_tbl := by
  intro w h
  unfold wsL_law at h
  rw [List.append_nil] at h
  rcases List.mem_append.mp h with h | h
  rotate_left
  · exact inX3 w h
  rcases List.mem_append.mp h with h | h
  rotate_left
  · exact inX2 w h
  rcases List.mem_append.mp h with h | h
  rotate_left
  · exact inX1 w h
  rcases List.mem_append.mp h with h | h
  rotate_left
  · exact inX4 w h
  rcases List.mem_append.mp h with h | h
  rotate_left
  · exact inX6 w h
  rcases List.mem_append.mp h with h | h
  rotate_left
  · exact inX8 w h
  rcases List.mem_append.mp h with h | h
  rotate_left
  · exact inX7 w h
  rcases List.mem_append.mp h with h | h
  · exact wsL_in1 w h
  rcases List.mem_append.mp h with h | h
  · exact wsL_in2 w h
  rcases List.mem_append.mp h with h | h
  · exact wsL_in3 w h
  rcases List.mem_append.mp h with h | h
  · exact wsL_in4 w h
  rcases List.mem_append.mp h with h | h
  · exact wsL_in5 w h
  rcases List.mem_append.mp h with h | h
  · exact wsL_in6 w h
  rcases List.mem_append.mp h with h | h
  · exact wsL_in7 w h
  rcases List.mem_append.mp h with h | h
  · exact wsL_in8 w h
  rcases List.mem_append.mp h with h | h
  · exact wsL_in9 w h
  rcases List.mem_append.mp h with h | h
  · exact wsL_in10 w h
  rcases List.mem_append.mp h with h | h
  · exact wsL_in11 w h
  rcases List.mem_append.mp h with h | h
  · exact wsL_in12 w h
  rcases List.mem_append.mp h with h | h
  · exact wsL_in13 w h
  rcases List.mem_append.mp h with h | h
  · exact wsL_in14 w h
  rcases List.mem_append.mp h with h | h
  · exact wsL_in15 w h
  rcases List.mem_append.mp h with h | h
  · exact wsL_in16 w h
  rcases List.mem_append.mp h with h | h
  · exact wsL_in17 w h
  rcases List.mem_append.mp h with h | h
  · exact wsL_in18 w h
  rcases List.mem_append.mp h with h | h
  · exact wsL_in19 w h
  rcases List.mem_append.mp h with h | h
  · exact wsL_in20 w h
  rcases List.mem_append.mp h with h | h
  · exact wsL_in21 w h
  rcases List.mem_append.mp h with h | h
  · exact wsL_in22 w h
  rcases List.mem_append.mp h with h | h
  · exact wsL_in23 w h
  rcases List.mem_append.mp h with h | h
  · exact wsL_in24 w h
  rcases List.mem_append.mp h with h | h
  · exact wsL_in25 w h
  rcases List.mem_append.mp h with h | h
  · exact wsL_in26 w h
  exact wsL_in27 w h
theorem inX0 : ∀ w ∈ wsX00, w ∈ lw_tbl := by decide +kernel
theorem inlX1 : ∀ w ∈ wsX10, w ∈ wsL_law := fun _ h => List.mem_append_left _ (List.mem_append_left _ (List.mem_append_left _ (List.mem_append_right _ h)))
theorem inlX2 : ∀ w ∈ wsX20, w ∈ wsL_law := fun _ h => List.mem_append_left _ (List.mem_append_left _ (List.mem_append_right _ h))
theorem inlX3 : ∀ w ∈ wsX30, w ∈ wsL_law := fun _ h => List.mem_append_left _ (List.mem_append_right _ h)
theorem inlX4 : ∀ w ∈ wsX40, w ∈ wsL_law := fun _ h => List.mem_append_left _ (List.mem_append_left _ (List.mem_append_left _ (List.mem_append_left _ (List.mem_append_right _ h))))
theorem inX5 : ∀ w ∈ wsX50, w ∈ lw_tbl := by decide +kernel
theorem inlX6 : ∀ w ∈ wsX60, w ∈ wsL_law := fun _ h => List.mem_append_left _ (List.mem_append_left _ (List.mem_append_left _ (List.mem_append_left _ (List.mem_append_left _ (List.mem_append_right _ h)))))
theorem inlX7 : ∀ w ∈ wsX70, w ∈ wsL_law := fun _ h => List.mem_append_left _ (List.mem_append_left _ (List.mem_append_left _ (List.mem_append_left _ (List.mem_append_left _ (List.mem_append_left _ (List.mem_append_left _ (List.mem_append_right _ h)))))))
theorem inlX8 : ∀ w ∈ wsX80, w ∈ wsL_law := fun _ h => List.mem_append_left _ (List.mem_append_left _ (List.mem_append_left _ (List.mem_append_left _ (List.mem_append_left _ (List.mem_append_left _ (List.mem_append_right _ h))))))
theorem inJ6 : ∀ w ∈ wsJ60, w ∈ lw_tbl := by decide +kernel
theorem inJ13 : ∀ w ∈ wsJ130, w ∈ lw_tbl := by decide +kernel
theorem inJ9 : ∀ w ∈ wsJ90, w ∈ lw_tbl := by decide +kernel
theorem inJ7 : ∀ w ∈ wsJ70, w ∈ lw_tbl := by decide +kernel

