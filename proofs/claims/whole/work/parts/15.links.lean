def mX10_init : q_M := ({ frames := 4, cells := 172, slots := 8634, locals := 85 }, yX10_init, cX10_init, 1, none)
def mX10_letter : q_M := ({ frames := 1, cells := 0, slots := 0, locals := 22 }, yX10_letter, cX10_letter, 2, some .int)
def mX10_blank : q_M := ({ frames := 1, cells := 0, slots := 0, locals := 20 }, yX10_blank, cX10_blank, 2, some .int)
def mX10_fault : q_M := ({ frames := 5, cells := 0, slots := 0, locals := 116 }, yX10_fault, cX10_fault, 1, some .int)
def mX10_rows : q_M := ({ frames := 6, cells := 0, slots := 0, locals := 137 }, yX10_rows, cX10_rows, 1, some .int)
def mX10_row : q_M := ({ frames := 2, cells := 0, slots := 0, locals := 43 }, yX10_row, cX10_row, 4, some .int)
def mX10_as : q_M := ({ frames := 2, cells := 0, slots := 0, locals := 42 }, yX10_as, cX10_as, 4, some .int)
def mX10_term : q_M := ({ frames := 4, cells := 0, slots := 0, locals := 102 }, yX10_term, cX10_term, 3, some .int)
def mX10_by : q_M := ({ frames := 4, cells := 0, slots := 0, locals := 98 }, yX10_by, cX10_by, 4, some .int)
def mX10_lap : q_M := ({ frames := 4, cells := 0, slots := 0, locals := 98 }, yX10_lap, cX10_lap, 7, some .int)
def mX10_least : q_M := ({ frames := 4, cells := 0, slots := 0, locals := 98 }, yX10_least, cX10_least, 4, some .int)
def mX10_rule : q_M := ({ frames := 3, cells := 0, slots := 0, locals := 79 }, yX10_rule, cX10_rule, 4, some .int)
def mX10_roots : q_M := ({ frames := 2, cells := 0, slots := 0, locals := 43 }, yX10_roots, cX10_roots, 5, some .int)
def mX10_noughts : q_M := ({ frames := 4, cells := 0, slots := 0, locals := 102 }, yX10_noughts, cX10_noughts, 4, some .int)
def mX10_ends : q_M := ({ frames := 5, cells := 0, slots := 0, locals := 124 }, yX10_ends, cX10_ends, 3, some .int)
def mX10_open : q_M := ({ frames := 6, cells := 0, slots := 0, locals := 143 }, yX10_open, cX10_open, 6, some .int)
def mX10_meets : q_M := ({ frames := 4, cells := 0, slots := 0, locals := 98 }, yX10_meets, cX10_meets, 4, some .int)
def mX10_told : q_M := ({ frames := 3, cells := 0, slots := 0, locals := 77 }, yX10_told, cX10_told, 5, some .int)
def mX10_sum : q_M := ({ frames := 3, cells := 0, slots := 0, locals := 77 }, yX10_sum, cX10_sum, 3, some .int)
def mX10_product : q_M := ({ frames := 3, cells := 0, slots := 0, locals := 77 }, yX10_product, cX10_product, 3, some .int)
def mX10_each : q_M := ({ frames := 3, cells := 0, slots := 0, locals := 77 }, yX10_each, cX10_each, 4, some .int)
def mX10_step : q_M := ({ frames := 3, cells := 0, slots := 0, locals := 77 }, yX10_step, cX10_step, 2, some .int)
def mX10_put : q_M := ({ frames := 3, cells := 0, slots := 0, locals := 64 }, yX10_put, cX10_put, 6, some .int)
def mX10_drop : q_M := ({ frames := 3, cells := 0, slots := 0, locals := 64 }, yX10_drop, cX10_drop, 1, some .int)
def mX10_ease : q_M := ({ frames := 5, cells := 0, slots := 0, locals := 110 }, yX10_ease, cX10_ease, 7, some .int)
def mX10_give : q_M := ({ frames := 1, cells := 0, slots := 0, locals := 22 }, yX10_give, cX10_give, 2, some .int)
def mX10_forget : q_M := ({ frames := 1, cells := 0, slots := 0, locals := 20 }, yX10_forget, cX10_forget, 2, some .int)
def mX10_guess : q_M := ({ frames := 4, cells := 0, slots := 0, locals := 87 }, yX10_guess, cX10_guess, 2, some .int)
def mX10_found : q_M := ({ frames := 4, cells := 0, slots := 0, locals := 87 }, yX10_found, cX10_found, 1, some .int)
def mX10_drawn : q_M := ({ frames := 2, cells := 0, slots := 0, locals := 47 }, yX10_drawn, cX10_drawn, 13, some .int)
def mX10_image : q_M := ({ frames := 2, cells := 0, slots := 0, locals := 57 }, yX10_image, cX10_image, 1, some .int)
def mX10_restore : q_M := ({ frames := 3, cells := 0, slots := 0, locals := 64 }, yX10_restore, cX10_restore, 1, some .int)
def mX10_count : q_M := ({ frames := 3, cells := 0, slots := 0, locals := 65 }, yX10_count, cX10_count, 2, some .int)
def mX10_digest : q_M := ({ frames := 6, cells := 0, slots := 0, locals := 151 }, yX10_digest, cX10_digest, 4, some .long)
def mX10_digestWithRow : q_M := ({ frames := 5, cells := 0, slots := 0, locals := 125 }, yX10_digestWithRow, cX10_digestWithRow, 7, some .long)
def mX10_added : q_M := ({ frames := 2, cells := 0, slots := 0, locals := 52 }, yX10_added, cX10_added, 6, some .int)
def mX10_changedFrom : q_M := ({ frames := 2, cells := 0, slots := 0, locals := 43 }, yX10_changedFrom, cX10_changedFrom, 2, none)
def mX10_isOpenAt : q_M := ({ frames := 5, cells := 0, slots := 0, locals := 121 }, yX10_isOpenAt, cX10_isOpenAt, 3, some .boolean)
def mX10_hasRemainderNought : q_M := ({ frames := 4, cells := 0, slots := 0, locals := 98 }, yX10_hasRemainderNought, cX10_hasRemainderNought, 4, some .boolean)
def mX10_isEasy : q_M := ({ frames := 4, cells := 0, slots := 0, locals := 88 }, yX10_isEasy, cX10_isEasy, 3, some .boolean)
def mX10_isPartOfPowers : q_M := ({ frames := 3, cells := 0, slots := 0, locals := 66 }, yX10_isPartOfPowers, cX10_isPartOfPowers, 3, some .boolean)
def mX10_numberOfPart : q_M := ({ frames := 2, cells := 0, slots := 0, locals := 43 }, yX10_numberOfPart, cX10_numberOfPart, 4, some .int)
def mX10_toldRows : q_M := ({ frames := 2, cells := 0, slots := 0, locals := 42 }, yX10_toldRows, cX10_toldRows, 3, some .int)
def mX10_degenerateRows : q_M := ({ frames := 2, cells := 0, slots := 0, locals := 43 }, yX10_degenerateRows, cX10_degenerateRows, 3, some .int)
def mX10_nextState : q_M := ({ frames := 0, cells := 0, slots := 0, locals := 0 }, yX10_nextState, cX10_nextState, 1, some .int)
def mX10_numberDrawnAt : q_M := ({ frames := 0, cells := 0, slots := 0, locals := 0 }, yX10_numberDrawnAt, cX10_numberDrawnAt, 1, some .int)
def mX10_numbersOf : q_M := ({ frames := 0, cells := 0, slots := 0, locals := 0 }, yX10_numbersOf, cX10_numbersOf, 1, some .int)
def mX10_classAbove : q_M := ({ frames := 0, cells := 0, slots := 0, locals := 0 }, yX10_classAbove, cX10_classAbove, 1, some .int)
def mX10_isTellable : q_M := ({ frames := 1, cells := 0, slots := 0, locals := 22 }, yX10_isTellable, cX10_isTellable, 4, some .boolean)
def mX10_isModulus : q_M := ({ frames := 1, cells := 0, slots := 0, locals := 22 }, yX10_isModulus, cX10_isModulus, 1, some .boolean)
def mX10_isPrime : q_M := ({ frames := 0, cells := 0, slots := 0, locals := 0 }, yX10_isPrime, cX10_isPrime, 1, some .boolean)
def mX10_isWithin : q_M := ({ frames := 0, cells := 0, slots := 0, locals := 0 }, yX10_isWithin, cX10_isWithin, 3, some .boolean)
def mX11_init : q_M := ({ frames := 1, cells := 17, slots := 7816, locals := 20 }, yX11_init, cX11_init, 1, none)
def mX11_within : q_M := ({ frames := 0, cells := 0, slots := 0, locals := 0 }, yX11_within, cX11_within, 3, some .boolean)
def mX11_letter : q_M := ({ frames := 1, cells := 0, slots := 0, locals := 22 }, yX11_letter, cX11_letter, 2, some .int)
def mX11_blank : q_M := ({ frames := 0, cells := 0, slots := 0, locals := 0 }, yX11_blank, cX11_blank, 2, some .int)
def mX11_kindBy : q_M := ({ frames := 0, cells := 0, slots := 0, locals := 0 }, yX11_kindBy, cX11_kindBy, 1, some .int)
def mX11_signsOf : q_M := ({ frames := 0, cells := 0, slots := 0, locals := 0 }, yX11_signsOf, cX11_signsOf, 1, some .int)
def mX11_valueOf : q_M := ({ frames := 1, cells := 0, slots := 0, locals := 22 }, yX11_valueOf, cX11_valueOf, 1, some .int)
def mX11_fitsSign : q_M := ({ frames := 2, cells := 0, slots := 0, locals := 42 }, yX11_fitsSign, cX11_fitsSign, 3, some .boolean)
def mX11_isDone : q_M := ({ frames := 1, cells := 0, slots := 0, locals := 20 }, yX11_isDone, cX11_isDone, 1, some .boolean)
def mX11_takes : q_M := ({ frames := 3, cells := 0, slots := 0, locals := 64 }, yX11_takes, cX11_takes, 2, some .boolean)
def mX11_takesKind : q_M := ({ frames := 1, cells := 0, slots := 0, locals := 20 }, yX11_takesKind, cX11_takesKind, 4, some .boolean)
def mX11_read : q_M := ({ frames := 4, cells := 0, slots := 0, locals := 85 }, yX11_read, cX11_read, 2, some .int)
def mX11_fault : q_M := ({ frames := 5, cells := 0, slots := 0, locals := 106 }, yX11_fault, cX11_fault, 1, some .int)
def mX11_rows : q_M := ({ frames := 5, cells := 0, slots := 0, locals := 106 }, yX11_rows, cX11_rows, 2, some .int)
def mX11_changes : q_M := ({ frames := 0, cells := 0, slots := 0, locals := 0 }, yX11_changes, cX11_changes, 1, none)
def mX11_termAt : q_M := ({ frames := 0, cells := 0, slots := 0, locals := 0 }, yX11_termAt, cX11_termAt, 3, some .int)
def mX11_near : q_M := ({ frames := 0, cells := 0, slots := 0, locals := 0 }, yX11_near, cX11_near, 2, some .int)
def mX11_toldTerm : q_M := ({ frames := 1, cells := 0, slots := 0, locals := 22 }, yX11_toldTerm, cX11_toldTerm, 5, some .int)
def mX11_bothTerm : q_M := ({ frames := 1, cells := 0, slots := 0, locals := 22 }, yX11_bothTerm, cX11_bothTerm, 5, some .int)
def mX11_stepTerm : q_M := ({ frames := 1, cells := 0, slots := 0, locals := 22 }, yX11_stepTerm, cX11_stepTerm, 5, some .int)
def mX11_madeTerm : q_M := ({ frames := 2, cells := 0, slots := 0, locals := 46 }, yX11_madeTerm, cX11_madeTerm, 3, some .int)
def mX11_layTerms : q_M := ({ frames := 3, cells := 0, slots := 0, locals := 68 }, yX11_layTerms, cX11_layTerms, 2, none)
def mX11_termOf : q_M := ({ frames := 4, cells := 0, slots := 0, locals := 89 }, yX11_termOf, cX11_termOf, 3, some .int)
def mX11_restAt : q_M := ({ frames := 0, cells := 0, slots := 0, locals := 0 }, yX11_restAt, cX11_restAt, 6, some .int)
def mX11_common : q_M := ({ frames := 0, cells := 0, slots := 0, locals := 0 }, yX11_common, cX11_common, 5, some .int)
def mX11_mod : q_M := ({ frames := 0, cells := 0, slots := 0, locals := 0 }, yX11_mod, cX11_mod, 2, some .int)
def mX11_layTold : q_M := ({ frames := 1, cells := 0, slots := 0, locals := 21 }, yX11_layTold, cX11_layTold, 7, none)
def mX11_madeRest : q_M := ({ frames := 1, cells := 0, slots := 0, locals := 25 }, yX11_madeRest, cX11_madeRest, 5, some .int)
def mX11_layTurn : q_M := ({ frames := 1, cells := 0, slots := 0, locals := 24 }, yX11_layTurn, cX11_layTurn, 5, none)
def mX11_layRest : q_M := ({ frames := 2, cells := 0, slots := 0, locals := 49 }, yX11_layRest, cX11_layRest, 4, none)
def mX11_layRests : q_M := ({ frames := 3, cells := 0, slots := 0, locals := 72 }, yX11_layRests, cX11_layRests, 3, none)
def mX11_comesAgain : q_M := ({ frames := 1, cells := 0, slots := 0, locals := 25 }, yX11_comesAgain, cX11_comesAgain, 6, some .boolean)
def mX11_lapOf : q_M := ({ frames := 2, cells := 0, slots := 0, locals := 50 }, yX11_lapOf, cX11_lapOf, 3, some .int)
def mX11_headOf : q_M := ({ frames := 3, cells := 0, slots := 0, locals := 72 }, yX11_headOf, cX11_headOf, 4, some .int)
def mX11_zerosOf : q_M := ({ frames := 4, cells := 0, slots := 0, locals := 95 }, yX11_zerosOf, cX11_zerosOf, 6, some .int)
def mX11_isRow : q_M := ({ frames := 1, cells := 0, slots := 0, locals := 22 }, yX11_isRow, cX11_isRow, 2, some .boolean)
def mX11_row : q_M := ({ frames := 2, cells := 0, slots := 0, locals := 43 }, yX11_row, cX11_row, 3, some .int)
def mX11_isSuch : q_M := ({ frames := 0, cells := 0, slots := 0, locals := 0 }, yX11_isSuch, cX11_isSuch, 2, some .boolean)
def mX11_as : q_M := ({ frames := 2, cells := 0, slots := 0, locals := 43 }, yX11_as, cX11_as, 3, some .int)
def mX11_term : q_M := ({ frames := 5, cells := 0, slots := 0, locals := 111 }, yX11_term, cX11_term, 3, some .int)
def mX11_byNow : q_M := ({ frames := 4, cells := 0, slots := 0, locals := 94 }, yX11_byNow, cX11_byNow, 4, some .int)
def mX11_by : q_M := ({ frames := 5, cells := 0, slots := 0, locals := 117 }, yX11_by, cX11_by, 4, some .int)
def mX11_lapNow : q_M := ({ frames := 5, cells := 0, slots := 0, locals := 120 }, yX11_lapNow, cX11_lapNow, 4, some .int)
def mX11_lap : q_M := ({ frames := 6, cells := 0, slots := 0, locals := 143 }, yX11_lap, cX11_lap, 4, some .int)
def mX11_layTable : q_M := ({ frames := 1, cells := 0, slots := 0, locals := 25 }, yX11_layTable, cX11_layTable, 5, none)
def mX11_swapLines : q_M := ({ frames := 0, cells := 0, slots := 0, locals := 0 }, yX11_swapLines, cX11_swapLines, 5, none)
def mX11_makeOne : q_M := ({ frames := 0, cells := 0, slots := 0, locals := 0 }, yX11_makeOne, cX11_makeOne, 6, none)
def mX11_takeAway : q_M := ({ frames := 1, cells := 0, slots := 0, locals := 21 }, yX11_takeAway, cX11_takeAway, 7, none)
def mX11_lineWith : q_M := ({ frames := 0, cells := 0, slots := 0, locals := 0 }, yX11_lineWith, cX11_lineWith, 5, some .int)
def mX11_isSolved : q_M := ({ frames := 2, cells := 0, slots := 0, locals := 49 }, yX11_isSolved, cX11_isSolved, 9, some .boolean)
def mX11_isMet : q_M := ({ frames := 0, cells := 0, slots := 0, locals := 0 }, yX11_isMet, cX11_isMet, 7, some .boolean)
def mX11_leastNow : q_M := ({ frames := 4, cells := 0, slots := 0, locals := 94 }, yX11_leastNow, cX11_leastNow, 5, some .int)
def mX11_isPrime : q_M := ({ frames := 0, cells := 0, slots := 0, locals := 0 }, yX11_isPrime, cX11_isPrime, 1, some .boolean)
def mX11_least : q_M := ({ frames := 5, cells := 0, slots := 0, locals := 118 }, yX11_least, cX11_least, 4, some .int)
def mX11_isTold : q_M := ({ frames := 0, cells := 0, slots := 0, locals := 0 }, yX11_isTold, cX11_isTold, 2, some .boolean)
def mX11_arePartsTold : q_M := ({ frames := 1, cells := 0, slots := 0, locals := 21 }, yX11_arePartsTold, cX11_arePartsTold, 3, some .boolean)
def mX11_powers : q_M := ({ frames := 0, cells := 0, slots := 0, locals := 0 }, yX11_powers, cX11_powers, 7, some .int)
def mX11_power : q_M := ({ frames := 0, cells := 0, slots := 0, locals := 0 }, yX11_power, cX11_power, 4, some .int)
def mX11_bothRule : q_M := ({ frames := 0, cells := 0, slots := 0, locals := 0 }, yX11_bothRule, cX11_bothRule, 10, some .int)
def mX11_twoRule : q_M := ({ frames := 1, cells := 0, slots := 0, locals := 26 }, yX11_twoRule, cX11_twoRule, 7, some .int)
def mX11_ruleNow : q_M := ({ frames := 2, cells := 0, slots := 0, locals := 52 }, yX11_ruleNow, cX11_ruleNow, 4, some .int)
def mX11_rule : q_M := ({ frames := 3, cells := 0, slots := 0, locals := 75 }, yX11_rule, cX11_rule, 3, some .int)
def mX11_spread : q_M := ({ frames := 0, cells := 0, slots := 0, locals := 0 }, yX11_spread, cX11_spread, 2, some .int)
def mX11_wholeRoot : q_M := ({ frames := 0, cells := 0, slots := 0, locals := 0 }, yX11_wholeRoot, cX11_wholeRoot, 2, some .int)
def mX11_degenerate : q_M := ({ frames := 1, cells := 0, slots := 0, locals := 21 }, yX11_degenerate, cX11_degenerate, 9, some .int)
def mX11_rootsNow : q_M := ({ frames := 2, cells := 0, slots := 0, locals := 49 }, yX11_rootsNow, cX11_rootsNow, 5, some .int)
def mX11_roots : q_M := ({ frames := 3, cells := 0, slots := 0, locals := 73 }, yX11_roots, cX11_roots, 3, some .int)
def mX11_noughtsOf : q_M := ({ frames := 5, cells := 0, slots := 0, locals := 111 }, yX11_noughtsOf, cX11_noughtsOf, 4, some .int)
def mX11_noughts : q_M := ({ frames := 6, cells := 0, slots := 0, locals := 134 }, yX11_noughts, cX11_noughts, 2, some .int)
def mX11_ends : q_M := ({ frames := 5, cells := 0, slots := 0, locals := 120 }, yX11_ends, cX11_ends, 3, some .int)
def mX11_layOpen : q_M := ({ frames := 4, cells := 0, slots := 0, locals := 94 }, yX11_layOpen, cX11_layOpen, 4, none)
def mX11_openNow : q_M := ({ frames := 5, cells := 0, slots := 0, locals := 117 }, yX11_openNow, cX11_openNow, 6, some .int)
def mX11_open : q_M := ({ frames := 6, cells := 0, slots := 0, locals := 142 }, yX11_open, cX11_open, 3, some .int)
def mX11_meetsNow : q_M := ({ frames := 4, cells := 0, slots := 0, locals := 94 }, yX11_meetsNow, cX11_meetsNow, 6, some .int)
def mX11_meets : q_M := ({ frames := 5, cells := 0, slots := 0, locals := 119 }, yX11_meets, cX11_meets, 4, some .int)
def mX11_lay : q_M := ({ frames := 1, cells := 0, slots := 0, locals := 20 }, yX11_lay, cX11_lay, 7, none)
def mX11_comes : q_M := ({ frames := 2, cells := 0, slots := 0, locals := 46 }, yX11_comes, cX11_comes, 6, some .int)
def mX11_isFew : q_M := ({ frames := 1, cells := 0, slots := 0, locals := 22 }, yX11_isFew, cX11_isFew, 1, some .boolean)
def mX11_isMany : q_M := ({ frames := 1, cells := 0, slots := 0, locals := 22 }, yX11_isMany, cX11_isMany, 1, some .boolean)
def mX11_told : q_M := ({ frames := 3, cells := 0, slots := 0, locals := 71 }, yX11_told, cX11_told, 5, some .int)
def mX11_sum : q_M := ({ frames := 3, cells := 0, slots := 0, locals := 71 }, yX11_sum, cX11_sum, 3, some .int)
def mX11_product : q_M := ({ frames := 3, cells := 0, slots := 0, locals := 71 }, yX11_product, cX11_product, 3, some .int)
def mX11_each : q_M := ({ frames := 3, cells := 0, slots := 0, locals := 71 }, yX11_each, cX11_each, 4, some .int)
def mX11_step : q_M := ({ frames := 3, cells := 0, slots := 0, locals := 71 }, yX11_step, cX11_step, 2, some .int)
def mX11_put : q_M := ({ frames := 2, cells := 0, slots := 0, locals := 43 }, yX11_put, cX11_put, 5, some .int)
def mX11_drop : q_M := ({ frames := 0, cells := 0, slots := 0, locals := 0 }, yX11_drop, cX11_drop, 1, some .int)
def mX11_isPower : q_M := ({ frames := 0, cells := 0, slots := 0, locals := 0 }, yX11_isPower, cX11_isPower, 2, some .boolean)
def mX11_powersIn : q_M := ({ frames := 1, cells := 0, slots := 0, locals := 21 }, yX11_powersIn, cX11_powersIn, 4, some .int)
def mX11_canBe : q_M := ({ frames := 2, cells := 0, slots := 0, locals := 44 }, yX11_canBe, cX11_canBe, 4, some .boolean)
def mX11_easedC : q_M := ({ frames := 2, cells := 0, slots := 0, locals := 52 }, yX11_easedC, cX11_easedC, 3, some .int)
def mX11_easedD : q_M := ({ frames := 2, cells := 0, slots := 0, locals := 52 }, yX11_easedD, cX11_easedD, 5, some .int)
def mX11_ease : q_M := ({ frames := 5, cells := 0, slots := 0, locals := 111 }, yX11_ease, cX11_ease, 7, some .int)
def mX11_give : q_M := ({ frames := 1, cells := 0, slots := 0, locals := 22 }, yX11_give, cX11_give, 2, some .int)
def mX11_forget : q_M := ({ frames := 0, cells := 0, slots := 0, locals := 0 }, yX11_forget, cX11_forget, 2, some .int)
def mX11_isGuess : q_M := ({ frames := 0, cells := 0, slots := 0, locals := 0 }, yX11_isGuess, cX11_isGuess, 7, some .boolean)
def mX11_guessNow : q_M := ({ frames := 1, cells := 0, slots := 0, locals := 26 }, yX11_guessNow, cX11_guessNow, 3, some .int)
def mX11_guessTold : q_M := ({ frames := 2, cells := 0, slots := 0, locals := 48 }, yX11_guessTold, cX11_guessTold, 3, some .int)
def mX11_guess : q_M := ({ frames := 3, cells := 0, slots := 0, locals := 70 }, yX11_guess, cX11_guess, 2, some .int)
def mX11_found : q_M := ({ frames := 3, cells := 0, slots := 0, locals := 71 }, yX11_found, cX11_found, 3, some .int)
def mX11_drawOf : q_M := ({ frames := 0, cells := 0, slots := 0, locals := 0 }, yX11_drawOf, cX11_drawOf, 2, some .int)
def mX11_drawnNow : q_M := ({ frames := 3, cells := 0, slots := 0, locals := 72 }, yX11_drawnNow, cX11_drawnNow, 8, some .int)
def mX11_drawn : q_M := ({ frames := 4, cells := 0, slots := 0, locals := 99 }, yX11_drawn, cX11_drawn, 4, some .int)
def mX11_copy : q_M := ({ frames := 0, cells := 0, slots := 0, locals := 0 }, yX11_copy, cX11_copy, 4, none)
def mX11_image : q_M := ({ frames := 1, cells := 0, slots := 0, locals := 23 }, yX11_image, cX11_image, 1, some .int)
def mX11_restore : q_M := ({ frames := 1, cells := 0, slots := 0, locals := 23 }, yX11_restore, cX11_restore, 1, some .int)
def mX11_toldMany : q_M := ({ frames := 2, cells := 0, slots := 0, locals := 49 }, yX11_toldMany, cX11_toldMany, 4, some .int)
def mX11_howMany : q_M := ({ frames := 3, cells := 0, slots := 0, locals := 72 }, yX11_howMany, cX11_howMany, 2, some .int)
def mX11_count : q_M := ({ frames := 4, cells := 0, slots := 0, locals := 93 }, yX11_count, cX11_count, 2, some .int)
def mX11_mix : q_M := ({ frames := 0, cells := 0, slots := 0, locals := 0 }, yX11_mix, cX11_mix, 3, none)
def mX11_mixRow : q_M := ({ frames := 6, cells := 0, slots := 0, locals := 143 }, yX11_mixRow, cX11_mixRow, 3, none)
def mX11_digest : q_M := ({ frames := 7, cells := 0, slots := 0, locals := 165 }, yX11_digest, cX11_digest, 2, some .long)
def mX0_init : q_M := ({ frames := 1, cells := 3, slots := 51, locals := 20 }, yX0_init, cX0_init, 1, none)
def mX0_length : q_M := ({ frames := 0, cells := 0, slots := 0, locals := 0 }, yX0_length, cX0_length, 1, some .int)
def mX0_factor : q_M := ({ frames := 1, cells := 0, slots := 0, locals := 22 }, yX0_factor, cX0_factor, 2, some .int)
def mX0_examine : q_M := ({ frames := 2, cells := 0, slots := 0, locals := 45 }, yX0_examine, cX0_examine, 7, none)
def mX0_begin : q_M := ({ frames := 1, cells := 0, slots := 0, locals := 20 }, yX0_begin, cX0_begin, 3, none)
def mX0_missAt : q_M := ({ frames := 1, cells := 0, slots := 0, locals := 21 }, yX0_missAt, cX0_missAt, 5, some .int)
def mX0_mend : q_M := ({ frames := 1, cells := 0, slots := 0, locals := 22 }, yX0_mend, cX0_mend, 4, none)
def mX0_inverse : q_M := ({ frames := 0, cells := 0, slots := 0, locals := 0 }, yX0_inverse, cX0_inverse, 3, some .int)
def mX1_init (n : Nat) : q_M := ({ frames := 2, cells := 1, slots := n, locals := 42 }, yX1_init, cX1_init, 2, none)
def mX1_at : q_M := ({ frames := 0, cells := 0, slots := 0, locals := 0 }, yX1_at, cX1_at, 2, some .int)
def mX1_fillTold : q_M := ({ frames := 1, cells := 0, slots := 0, locals := 22 }, yX1_fillTold, cX1_fillTold, 6, none)
def mX1_fillSum : q_M := ({ frames := 1, cells := 0, slots := 0, locals := 21 }, yX1_fillSum, cX1_fillSum, 4, none)
def mX1_fillProduct : q_M := ({ frames := 1, cells := 0, slots := 0, locals := 21 }, yX1_fillProduct, cX1_fillProduct, 4, none)
def mX1_fillEach : q_M := ({ frames := 1, cells := 0, slots := 0, locals := 21 }, yX1_fillEach, cX1_fillEach, 5, none)
def mX1_fillStep : q_M := ({ frames := 1, cells := 0, slots := 0, locals := 22 }, yX1_fillStep, cX1_fillStep, 3, none)
def mX1_shortestLap : q_M := ({ frames := 1, cells := 0, slots := 0, locals := 22 }, yX1_shortestLap, cX1_shortestLap, 2, some .int)
def mX1_repeatsAfter : q_M := ({ frames := 0, cells := 0, slots := 0, locals := 0 }, yX1_repeatsAfter, cX1_repeatsAfter, 3, some .boolean)
def mX1_headFor : q_M := ({ frames := 1, cells := 0, slots := 0, locals := 21 }, yX1_headFor, cX1_headFor, 3, some .int)
def mX1_noughtsFrom : q_M := ({ frames := 1, cells := 0, slots := 0, locals := 21 }, yX1_noughtsFrom, cX1_noughtsFrom, 5, some .int)
def mX1_firstMeeting : q_M := ({ frames := 1, cells := 0, slots := 0, locals := 21 }, yX1_firstMeeting, cX1_firstMeeting, 3, some .int)
def mX2_init : q_M := ({ frames := 1, cells := 0, slots := 0, locals := 20 }, yX2_init, cX2_init, 1, none)
def mX2_degree : q_M := ({ frames := 0, cells := 0, slots := 0, locals := 0 }, yX2_degree, cX2_degree, 1, some .int)
def mX2_u : q_M := ({ frames := 0, cells := 0, slots := 0, locals := 0 }, yX2_u, cX2_u, 1, some .int)
def mX2_v : q_M := ({ frames := 0, cells := 0, slots := 0, locals := 0 }, yX2_v, cX2_v, 1, some .int)
def mX2_isFoundFor : q_M := ({ frames := 3, cells := 0, slots := 0, locals := 66 }, yX2_isFoundFor, cX2_isFoundFor, 2, some .boolean)
def mX2_isFoundByOne : q_M := ({ frames := 2, cells := 0, slots := 0, locals := 43 }, yX2_isFoundByOne, cX2_isFoundByOne, 3, some .boolean)
def mX2_isFoundByTwo : q_M := ({ frames := 2, cells := 0, slots := 0, locals := 43 }, yX2_isFoundByTwo, cX2_isFoundByTwo, 4, some .boolean)
def mX2_fits : q_M := ({ frames := 1, cells := 0, slots := 0, locals := 21 }, yX2_fits, cX2_fits, 3, some .boolean)
def mX3_init : q_M := ({ frames := 1, cells := 2, slots := 40, locals := 20 }, yX3_init, cX3_init, 1, none)
def mX3_size : q_M := ({ frames := 0, cells := 0, slots := 0, locals := 0 }, yX3_size, cX3_size, 1, some .int)
def mX3_holds : q_M := ({ frames := 0, cells := 0, slots := 0, locals := 0 }, yX3_holds, cX3_holds, 2, some .boolean)
def mX3_isTold : q_M := ({ frames := 1, cells := 0, slots := 0, locals := 21 }, yX3_isTold, cX3_isTold, 2, some .boolean)
def mX3_kindOf : q_M := ({ frames := 1, cells := 0, slots := 0, locals := 21 }, yX3_kindOf, cX3_kindOf, 2, some .int)
def mX3_numberOf : q_M := ({ frames := 1, cells := 0, slots := 0, locals := 21 }, yX3_numberOf, cX3_numberOf, 3, some .int)
def mX3_setNumber : q_M := ({ frames := 1, cells := 0, slots := 0, locals := 21 }, yX3_setNumber, cX3_setNumber, 4, none)
def mX3_append : q_M := ({ frames := 1, cells := 0, slots := 0, locals := 27 }, yX3_append, cX3_append, 6, some .boolean)
def mX3_write : q_M := ({ frames := 0, cells := 0, slots := 0, locals := 0 }, yX3_write, cX3_write, 8, none)
def mX3_removeLast : q_M := ({ frames := 0, cells := 0, slots := 0, locals := 0 }, yX3_removeLast, cX3_removeLast, 1, none)
def mX3_clear : q_M := ({ frames := 0, cells := 0, slots := 0, locals := 0 }, yX3_clear, cX3_clear, 1, none)
def mX3_copyFrom : q_M := ({ frames := 1, cells := 0, slots := 0, locals := 36 }, yX3_copyFrom, cX3_copyFrom, 2, none)
def mX3_isPlace : q_M := ({ frames := 0, cells := 0, slots := 0, locals := 0 }, yX3_isPlace, cX3_isPlace, 1, some .boolean)
def mX4_init (n : Nat) : q_M := ({ frames := 1, cells := 1, slots := n, locals := 21 }, yX4_init, cX4_init, 2, none)
def mX4_size : q_M := ({ frames := 0, cells := 0, slots := 0, locals := 0 }, yX4_size, cX4_size, 1, some .int)
def mX4_at : q_M := ({ frames := 0, cells := 0, slots := 0, locals := 0 }, yX4_at, cX4_at, 2, some .int)
def mX4_append : q_M := ({ frames := 0, cells := 0, slots := 0, locals := 0 }, yX4_append, cX4_append, 2, some .boolean)
def mX4_clear : q_M := ({ frames := 0, cells := 0, slots := 0, locals := 0 }, yX4_clear, cX4_clear, 1, none)
def mX4_copyFrom : q_M := ({ frames := 1, cells := 0, slots := 0, locals := 21 }, yX4_copyFrom, cX4_copyFrom, 3, none)
def mX5_init : q_M := ({ frames := 2, cells := 3, slots := 43, locals := 40 }, yX5_init, cX5_init, 1, none)
def mX5_draft : q_M := ({ frames := 0, cells := 0, slots := 0, locals := 0 }, yX5_draft, cX5_draft, 1, some (.object "AheadRows$Ledger"))
def mX5_isWhole : q_M := ({ frames := 5, cells := 0, slots := 0, locals := 116 }, yX5_isWhole, cX5_isWhole, 2, some .boolean)
def mX5_faultOf : q_M := ({ frames := 4, cells := 0, slots := 0, locals := 94 }, yX5_faultOf, cX5_faultOf, 3, some .int)
def mX5_takes : q_M := ({ frames := 3, cells := 0, slots := 0, locals := 73 }, yX5_takes, cX5_takes, 2, some .boolean)
def mX5_isRowWhole : q_M := ({ frames := 1, cells := 0, slots := 0, locals := 20 }, yX5_isRowWhole, cX5_isRowWhole, 1, some .boolean)
def mX5_takesMark : q_M := ({ frames := 2, cells := 0, slots := 0, locals := 52 }, yX5_takesMark, cX5_takesMark, 2, some .boolean)
def mX5_takesDivider : q_M := ({ frames := 1, cells := 0, slots := 0, locals := 20 }, yX5_takesDivider, cX5_takesDivider, 2, some .boolean)
def mX5_takesNumber : q_M := ({ frames := 2, cells := 0, slots := 0, locals := 44 }, yX5_takesNumber, cX5_takesNumber, 3, some .boolean)
def mX5_leastNumber : q_M := ({ frames := 0, cells := 0, slots := 0, locals := 0 }, yX5_leastNumber, cX5_leastNumber, 1, some .int)
def mX5_mostNumber : q_M := ({ frames := 1, cells := 0, slots := 0, locals := 20 }, yX5_mostNumber, cX5_mostNumber, 1, some .int)
def mX5_kindMarkedBy : q_M := ({ frames := 0, cells := 0, slots := 0, locals := 0 }, yX5_kindMarkedBy, cX5_kindMarkedBy, 1, some .int)
def mX5_valueOf : q_M := ({ frames := 0, cells := 0, slots := 0, locals := 0 }, yX5_valueOf, cX5_valueOf, 1, some .int)
def mX6_init : q_M := ({ frames := 3, cells := 146, slots := 6633, locals := 63 }, yX6_init, cX6_init, 3, none)
def mX6_forgetFrom : q_M := ({ frames := 1, cells := 0, slots := 0, locals := 21 }, yX6_forgetFrom, cX6_forgetFrom, 3, none)
def mX6_cycleOf : q_M := ({ frames := 3, cells := 0, slots := 0, locals := 74 }, yX6_cycleOf, cX6_cycleOf, 5, some (.object "AheadRows$Cycle"))
def mX6_filled : q_M := ({ frames := 0, cells := 0, slots := 0, locals := 0 }, yX6_filled, cX6_filled, 4, some (.object "AheadRows$Cycle"))
def mX6_fill : q_M := ({ frames := 2, cells := 0, slots := 0, locals := 47 }, yX6_fill, cX6_fill, 8, none)
def mX7_differentReal : q_M := ({ frames := 1, cells := 0, slots := 0, locals := 21 }, yX7_differentReal, cX7_differentReal, 2, some .int)
def mX7_greater : q_M := ({ frames := 1, cells := 0, slots := 0, locals := 21 }, yX7_greater, cX7_greater, 3, some .int)
def mX7_lesser : q_M := ({ frames := 1, cells := 0, slots := 0, locals := 21 }, yX7_lesser, cX7_lesser, 3, some .int)
def mX7_order : q_M := ({ frames := 0, cells := 0, slots := 0, locals := 0 }, yX7_order, cX7_order, 2, some .int)
def mX7_farthestSign : q_M := ({ frames := 1, cells := 0, slots := 0, locals := 21 }, yX7_farthestSign, cX7_farthestSign, 2, some .int)
def mX7_signOf : q_M := ({ frames := 0, cells := 0, slots := 0, locals := 0 }, yX7_signOf, cX7_signOf, 1, some .int)
def mX7_discriminant : q_M := ({ frames := 0, cells := 0, slots := 0, locals := 0 }, yX7_discriminant, cX7_discriminant, 2, some .int)
def mX7_wholeRootOf : q_M := ({ frames := 0, cells := 0, slots := 0, locals := 0 }, yX7_wholeRootOf, cX7_wholeRootOf, 2, some .int)
def mX8_degreeOf : q_M := ({ frames := 2, cells := 0, slots := 0, locals := 43 }, yX8_degreeOf, cX8_degreeOf, 3, some .int)
def mX8_factorOf : q_M := ({ frames := 2, cells := 0, slots := 0, locals := 50 }, yX8_factorOf, cX8_factorOf, 10, some .int)
def mX8_ofTwo : q_M := ({ frames := 0, cells := 0, slots := 0, locals := 0 }, yX8_ofTwo, cX8_ofTwo, 3, some .int)
def mX8_ofPowers : q_M := ({ frames := 1, cells := 0, slots := 0, locals := 22 }, yX8_ofPowers, cX8_ofPowers, 9, some .int)
def mX8_ofSum : q_M := ({ frames := 0, cells := 0, slots := 0, locals := 0 }, yX8_ofSum, cX8_ofSum, 5, some .int)
def mX8_ofProduct : q_M := ({ frames := 0, cells := 0, slots := 0, locals := 0 }, yX8_ofProduct, cX8_ofProduct, 5, some .int)
def mX9_init : q_M := ({ frames := 1, cells := 1, slots := 1608, locals := 20 }, yX9_init, cX9_init, 1, none)
def mX9_forgetFrom : q_M := ({ frames := 1, cells := 0, slots := 0, locals := 21 }, yX9_forgetFrom, cX9_forgetFrom, 2, none)
def mX9_at : q_M := ({ frames := 3, cells := 0, slots := 0, locals := 79 }, yX9_at, cX9_at, 4, some .int)
def mX9_valueAt : q_M := ({ frames := 0, cells := 0, slots := 0, locals := 0 }, yX9_valueAt, cX9_valueAt, 4, some .int)
def mX9_fill : q_M := ({ frames := 2, cells := 0, slots := 0, locals := 51 }, yX9_fill, cX9_fill, 9, none)
def mX9_fillTold : q_M := ({ frames := 1, cells := 0, slots := 0, locals := 23 }, yX9_fillTold, cX9_fillTold, 9, none)
def mX9_madeAt : q_M := ({ frames := 1, cells := 0, slots := 0, locals := 23 }, yX9_madeAt, cX9_madeAt, 8, some .int)
def mX9_exactOrFar : q_M := ({ frames := 0, cells := 0, slots := 0, locals := 0 }, yX9_exactOrFar, cX9_exactOrFar, 4, some .int)
def mJ9_floorMod_7cf53 : q_M := ({ frames := 0, cells := 0, slots := 0, locals := 0 }, yJ9_floorMod_7cf53, cJ9_floorMod_7cf53, 3, some .int)
def mJ9_max_7cf53 : q_M := ({ frames := 0, cells := 0, slots := 0, locals := 0 }, yJ9_max_7cf53, cJ9_max_7cf53, 2, some .int)
def mJ9_min_7cf53 : q_M := ({ frames := 0, cells := 0, slots := 0, locals := 0 }, yJ9_min_7cf53, cJ9_min_7cf53, 2, some .int)
theorem uw0_X0 : ∀ w ∈ u_ws RX0 TX0 5, w ∈ lw_tbl ∧ goodWord w = true := by decide +kernel
theorem uw_X0 : ∀ w ∈ u_ws RX0 TX0 5, w ∈ q_tb := fun w h => List.mem_filter.mpr (uw0_X0 w h)
theorem uw0_X1 : ∀ w ∈ u_ws RX1 TX1 3, w ∈ lw_tbl ∧ goodWord w = true := by decide +kernel
theorem uw_X1 : ∀ w ∈ u_ws RX1 TX1 3, w ∈ q_tb := fun w h => List.mem_filter.mpr (uw0_X1 w h)
theorem uw0_X2 : ∀ w ∈ u_ws RX2 TX2 3, w ∈ lw_tbl ∧ goodWord w = true := by decide +kernel
theorem uw_X2 : ∀ w ∈ u_ws RX2 TX2 3, w ∈ q_tb := fun w h => List.mem_filter.mpr (uw0_X2 w h)
theorem uw0_X3 : ∀ w ∈ u_ws RX3 TX3 3, w ∈ lw_tbl ∧ goodWord w = true := by decide +kernel
theorem uw_X3 : ∀ w ∈ u_ws RX3 TX3 3, w ∈ q_tb := fun w h => List.mem_filter.mpr (uw0_X3 w h)
theorem uw0_X4 : ∀ w ∈ u_ws RX4 TX4 2, w ∈ lw_tbl ∧ goodWord w = true := by decide +kernel
theorem uw_X4 : ∀ w ∈ u_ws RX4 TX4 2, w ∈ q_tb := fun w h => List.mem_filter.mpr (uw0_X4 w h)
theorem uw0_X5 : ∀ w ∈ u_ws RX5 TX5 3, w ∈ lw_tbl ∧ goodWord w = true := by decide +kernel
theorem uw_X5 : ∀ w ∈ u_ws RX5 TX5 3, w ∈ q_tb := fun w h => List.mem_filter.mpr (uw0_X5 w h)
theorem uw0_X6 : ∀ w ∈ u_ws RX6 TX6 2, w ∈ lw_tbl ∧ goodWord w = true := by decide +kernel
theorem uw_X6 : ∀ w ∈ u_ws RX6 TX6 2, w ∈ q_tb := fun w h => List.mem_filter.mpr (uw0_X6 w h)
theorem uw0_X9 : ∀ w ∈ u_ws RX9 TX9 2, w ∈ lw_tbl ∧ goodWord w = true := by decide +kernel
theorem uw_X9 : ∀ w ∈ u_ws RX9 TX9 2, w ∈ q_tb := fun w h => List.mem_filter.mpr (uw0_X9 w h)
theorem uw0_X10 : ∀ w ∈ u_ws RX10 TX10 13, w ∈ lw_tbl ∧ goodWord w = true := by decide +kernel
theorem uw_X10 : ∀ w ∈ u_ws RX10 TX10 13, w ∈ q_tb := fun w h => List.mem_filter.mpr (uw0_X10 w h)
theorem uw0_X11 : ∀ w ∈ u_ws RX11 TX11 33, w ∈ lw_tbl ∧ goodWord w = true := by decide +kernel
theorem uw_X11 : ∀ w ∈ u_ws RX11 TX11 33, w ∈ q_tb := fun w h => List.mem_filter.mpr (uw0_X11 w h)
theorem tb_110 : Cond.methodLink RX10 1 objectInit ∈ q_tb := q_in 110 (by decide +kernel) rfl
theorem tb_113 : Cond.classLink RX10 7 RX3 ∈ q_tb := q_in 113 (by decide +kernel) rfl
theorem tb_114 : Cond.instantiable RX3 3 ∈ q_tb := q_in 114 (by decide +kernel) rfl
theorem tb_92 : Cond.initialized RX3 ∈ q_tb := q_in 92 (by decide +kernel) rfl
theorem tb_117 : Cond.code yX3_init cX3_init 1 (none) ∈ q_tb := q_in 117 (by decide +kernel) rfl
theorem tb_116 : Cond.instanceMethod yX3_init ∈ q_tb := q_in 116 (by decide +kernel) rfl
theorem tb_255 : Cond.fieldLink RX10 10 "AheadRows" "ledger" "LAheadRows$Ledger;" ∈ q_tb := q_in 255 (by decide +kernel) rfl
theorem tb_130 : Cond.classLink RX10 16 RX4 ∈ q_tb := q_in 130 (by decide +kernel) rfl
theorem tb_131 : Cond.instantiable RX4 2 ∈ q_tb := q_in 131 (by decide +kernel) rfl
theorem tb_93 : Cond.initialized RX4 ∈ q_tb := q_in 93 (by decide +kernel) rfl
theorem tb_134 : Cond.code yX4_init cX4_init 2 (none) ∈ q_tb := q_in 134 (by decide +kernel) rfl
theorem tb_132 : Cond.methodLink RX10 18 yX4_init ∈ q_tb := q_in 132 (by decide +kernel) rfl
theorem tb_133 : Cond.instanceMethod yX4_init ∈ q_tb := q_in 133 (by decide +kernel) rfl
theorem tb_256 : Cond.fieldLink RX10 21 "AheadRows" "given" "LAheadRows$Numbers;" ∈ q_tb := q_in 256 (by decide +kernel) rfl
theorem tb_257 : Cond.fieldLink RX10 25 "AheadRows" "page" "LAheadRows$Numbers;" ∈ q_tb := q_in 257 (by decide +kernel) rfl
theorem tb_146 : Cond.classLink RX10 28 RX5 ∈ q_tb := q_in 146 (by decide +kernel) rfl
theorem tb_147 : Cond.instantiable RX5 3 ∈ q_tb := q_in 147 (by decide +kernel) rfl
theorem tb_95 : Cond.initialized RX5 ∈ q_tb := q_in 95 (by decide +kernel) rfl
theorem tb_150 : Cond.code yX5_init cX5_init 1 (none) ∈ q_tb := q_in 150 (by decide +kernel) rfl
theorem tb_149 : Cond.instanceMethod yX5_init ∈ q_tb := q_in 149 (by decide +kernel) rfl
theorem tb_258 : Cond.fieldLink RX10 31 "AheadRows" "reader" "LAheadRows$Reader;" ∈ q_tb := q_in 258 (by decide +kernel) rfl
theorem tb_164 : Cond.classLink RX10 35 RX2 ∈ q_tb := q_in 164 (by decide +kernel) rfl
theorem tb_165 : Cond.instantiable RX2 3 ∈ q_tb := q_in 165 (by decide +kernel) rfl
theorem tb_96 : Cond.initialized RX2 ∈ q_tb := q_in 96 (by decide +kernel) rfl
theorem tb_168 : Cond.code yX2_init cX2_init 1 (none) ∈ q_tb := q_in 168 (by decide +kernel) rfl
theorem tb_167 : Cond.instanceMethod yX2_init ∈ q_tb := q_in 167 (by decide +kernel) rfl
theorem tb_259 : Cond.fieldLink RX10 38 "AheadRows" "explanation" "LAheadRows$Explanation;" ∈ q_tb := q_in 259 (by decide +kernel) rfl
theorem tb_180 : Cond.classLink RX10 42 RX9 ∈ q_tb := q_in 180 (by decide +kernel) rfl
theorem tb_181 : Cond.instantiable RX9 2 ∈ q_tb := q_in 181 (by decide +kernel) rfl
theorem tb_97 : Cond.initialized RX9 ∈ q_tb := q_in 97 (by decide +kernel) rfl
theorem tb_184 : Cond.code yX9_init cX9_init 1 (none) ∈ q_tb := q_in 184 (by decide +kernel) rfl
theorem tb_183 : Cond.instanceMethod yX9_init ∈ q_tb := q_in 183 (by decide +kernel) rfl
theorem tb_260 : Cond.fieldLink RX10 45 "AheadRows" "terms" "LAheadRows$Terms;" ∈ q_tb := q_in 260 (by decide +kernel) rfl
theorem tb_193 : Cond.classLink RX10 49 RX6 ∈ q_tb := q_in 193 (by decide +kernel) rfl
theorem tb_194 : Cond.instantiable RX6 2 ∈ q_tb := q_in 194 (by decide +kernel) rfl
theorem tb_98 : Cond.initialized RX6 ∈ q_tb := q_in 98 (by decide +kernel) rfl
theorem tb_197 : Cond.code yX6_init cX6_init 3 (none) ∈ q_tb := q_in 197 (by decide +kernel) rfl
theorem tb_195 : Cond.methodLink RX10 51 yX6_init ∈ q_tb := q_in 195 (by decide +kernel) rfl
theorem tb_196 : Cond.instanceMethod yX6_init ∈ q_tb := q_in 196 (by decide +kernel) rfl
theorem tb_261 : Cond.fieldLink RX10 52 "AheadRows" "remainders" "LAheadRows$Remainders;" ∈ q_tb := q_in 261 (by decide +kernel) rfl
theorem tb_231 : Cond.classLink RX10 56 RX0 ∈ q_tb := q_in 231 (by decide +kernel) rfl
theorem tb_232 : Cond.instantiable RX0 5 ∈ q_tb := q_in 232 (by decide +kernel) rfl
theorem tb_100 : Cond.initialized RX0 ∈ q_tb := q_in 100 (by decide +kernel) rfl
theorem tb_235 : Cond.code yX0_init cX0_init 1 (none) ∈ q_tb := q_in 235 (by decide +kernel) rfl
theorem tb_234 : Cond.instanceMethod yX0_init ∈ q_tb := q_in 234 (by decide +kernel) rfl
theorem tb_262 : Cond.fieldLink RX10 59 "AheadRows" "complexity" "LAheadRows$Complexity;" ∈ q_tb := q_in 262 (by decide +kernel) rfl
theorem tb_253 : Cond.classLink RX10 63 RX1 ∈ q_tb := q_in 253 (by decide +kernel) rfl
theorem tb_201 : Cond.instantiable RX1 3 ∈ q_tb := q_in 201 (by decide +kernel) rfl
theorem tb_99 : Cond.initialized RX1 ∈ q_tb := q_in 99 (by decide +kernel) rfl
theorem tb_204 : Cond.code yX1_init cX1_init 2 (none) ∈ q_tb := q_in 204 (by decide +kernel) rfl
theorem tb_254 : Cond.methodLink RX10 65 yX1_init ∈ q_tb := q_in 254 (by decide +kernel) rfl
theorem tb_203 : Cond.instanceMethod yX1_init ∈ q_tb := q_in 203 (by decide +kernel) rfl
theorem tb_263 : Cond.fieldLink RX10 66 "AheadRows" "drawnCycle" "LAheadRows$Cycle;" ∈ q_tb := q_in 263 (by decide +kernel) rfl
theorem tb_264 : Cond.fieldLink RX10 70 "AheadRows" "keptLedger" "LAheadRows$Ledger;" ∈ q_tb := q_in 264 (by decide +kernel) rfl
theorem tb_265 : Cond.fieldLink RX10 73 "AheadRows" "keptGiven" "LAheadRows$Numbers;" ∈ q_tb := q_in 265 (by decide +kernel) rfl
theorem tb_211 : Cond.code yX10_isWithin cX10_isWithin 3 (some .boolean) ∈ q_tb := q_in 211 (by decide +kernel) rfl
theorem tb_91 : Cond.initialized RX10 ∈ q_tb := q_in 91 (by decide +kernel) rfl
theorem tb_209 : Cond.methodLink RX10 76 yX10_isWithin ∈ q_tb := q_in 209 (by decide +kernel) rfl
theorem tb_210 : Cond.static yX10_isWithin ∈ q_tb := q_in 210 (by decide +kernel) rfl
theorem tb_299 : Cond.constant RX10 80 (2000000102) ∈ q_tb := q_in 299 (by decide +kernel) rfl
theorem tb_303 : Cond.code yX4_append cX4_append 2 (some .boolean) ∈ q_tb := q_in 303 (by decide +kernel) rfl
theorem tb_300 : Cond.methodLink RX10 81 yX4_append ∈ q_tb := q_in 300 (by decide +kernel) rfl
theorem tb_301 : Cond.instanceMethod yX4_append ∈ q_tb := q_in 301 (by decide +kernel) rfl
theorem tb_302 : Cond.selects RX4 yX4_append yX4_append ∈ q_tb := q_in 302 (by decide +kernel) rfl
theorem tb_307 : Cond.code yX4_size cX4_size 1 (some .int) ∈ q_tb := q_in 307 (by decide +kernel) rfl
theorem tb_304 : Cond.methodLink RX10 85 yX4_size ∈ q_tb := q_in 304 (by decide +kernel) rfl
theorem tb_305 : Cond.instanceMethod yX4_size ∈ q_tb := q_in 305 (by decide +kernel) rfl
theorem tb_306 : Cond.selects RX4 yX4_size yX4_size ∈ q_tb := q_in 306 (by decide +kernel) rfl
theorem tb_308 : Cond.constant RX10 89 (2000000104) ∈ q_tb := q_in 308 (by decide +kernel) rfl
theorem tb_316 : Cond.code yX4_clear cX4_clear 1 (none) ∈ q_tb := q_in 316 (by decide +kernel) rfl
theorem tb_313 : Cond.methodLink RX10 90 yX4_clear ∈ q_tb := q_in 313 (by decide +kernel) rfl
theorem tb_314 : Cond.instanceMethod yX4_clear ∈ q_tb := q_in 314 (by decide +kernel) rfl
theorem tb_315 : Cond.selects RX4 yX4_clear yX4_clear ∈ q_tb := q_in 315 (by decide +kernel) rfl
theorem tb_324 : Cond.code yX5_faultOf cX5_faultOf 3 (some .int) ∈ q_tb := q_in 324 (by decide +kernel) rfl
theorem tb_321 : Cond.methodLink RX10 93 yX5_faultOf ∈ q_tb := q_in 321 (by decide +kernel) rfl
theorem tb_322 : Cond.instanceMethod yX5_faultOf ∈ q_tb := q_in 322 (by decide +kernel) rfl
theorem tb_323 : Cond.selects RX5 yX5_faultOf yX5_faultOf ∈ q_tb := q_in 323 (by decide +kernel) rfl
theorem tb_403 : Cond.code yX5_isWhole cX5_isWhole 2 (some .boolean) ∈ q_tb := q_in 403 (by decide +kernel) rfl
theorem tb_400 : Cond.methodLink RX10 97 yX5_isWhole ∈ q_tb := q_in 400 (by decide +kernel) rfl
theorem tb_401 : Cond.instanceMethod yX5_isWhole ∈ q_tb := q_in 401 (by decide +kernel) rfl
theorem tb_402 : Cond.selects RX5 yX5_isWhole yX5_isWhole ∈ q_tb := q_in 402 (by decide +kernel) rfl
theorem tb_405 : Cond.constant RX10 101 (2000000103) ∈ q_tb := q_in 405 (by decide +kernel) rfl
theorem tb_409 : Cond.code yX5_draft cX5_draft 1 (some (.object "AheadRows$Ledger")) ∈ q_tb := q_in 409 (by decide +kernel) rfl
theorem tb_406 : Cond.methodLink RX10 102 yX5_draft ∈ q_tb := q_in 406 (by decide +kernel) rfl
theorem tb_407 : Cond.instanceMethod yX5_draft ∈ q_tb := q_in 407 (by decide +kernel) rfl
theorem tb_408 : Cond.selects RX5 yX5_draft yX5_draft ∈ q_tb := q_in 408 (by decide +kernel) rfl
theorem tb_413 : Cond.code yX3_copyFrom cX3_copyFrom 2 (none) ∈ q_tb := q_in 413 (by decide +kernel) rfl
theorem tb_410 : Cond.methodLink RX10 106 yX3_copyFrom ∈ q_tb := q_in 410 (by decide +kernel) rfl
theorem tb_411 : Cond.instanceMethod yX3_copyFrom ∈ q_tb := q_in 411 (by decide +kernel) rfl
theorem tb_412 : Cond.selects RX3 yX3_copyFrom yX3_copyFrom ∈ q_tb := q_in 412 (by decide +kernel) rfl
theorem tb_420 : Cond.code yX10_changedFrom cX10_changedFrom 2 (none) ∈ q_tb := q_in 420 (by decide +kernel) rfl
theorem tb_417 : Cond.methodLink RX10 110 yX10_changedFrom ∈ q_tb := q_in 417 (by decide +kernel) rfl
theorem tb_419 : Cond.instanceMethod yX10_changedFrom ∈ q_tb := q_in 419 (by decide +kernel) rfl
theorem tb_7 : Cond.selects RX10 yX10_changedFrom yX10_changedFrom ∈ q_tb := q_in 7 (by decide +kernel) rfl
theorem tb_266 : Cond.fieldLink RX10 113 "AheadRows" "imageStands" "Z" ∈ q_tb := q_in 266 (by decide +kernel) rfl
theorem tb_267 : Cond.fieldLink RX10 117 "AheadRows" "timesRead" "I" ∈ q_tb := q_in 267 (by decide +kernel) rfl
theorem tb_348 : Cond.code yX3_size cX3_size 1 (some .int) ∈ q_tb := q_in 348 (by decide +kernel) rfl
theorem tb_433 : Cond.methodLink RX10 121 yX3_size ∈ q_tb := q_in 433 (by decide +kernel) rfl
theorem tb_346 : Cond.instanceMethod yX3_size ∈ q_tb := q_in 346 (by decide +kernel) rfl
theorem tb_347 : Cond.selects RX3 yX3_size yX3_size ∈ q_tb := q_in 347 (by decide +kernel) rfl
theorem tb_392 : Cond.code yX3_holds cX3_holds 2 (some .boolean) ∈ q_tb := q_in 392 (by decide +kernel) rfl
theorem tb_438 : Cond.methodLink RX10 122 yX3_holds ∈ q_tb := q_in 438 (by decide +kernel) rfl
theorem tb_390 : Cond.instanceMethod yX3_holds ∈ q_tb := q_in 390 (by decide +kernel) rfl
theorem tb_391 : Cond.selects RX3 yX3_holds yX3_holds ∈ q_tb := q_in 391 (by decide +kernel) rfl
theorem tb_439 : Cond.constant RX10 125 (2000000101) ∈ q_tb := q_in 439 (by decide +kernel) rfl
theorem tb_443 : Cond.code yX3_kindOf cX3_kindOf 2 (some .int) ∈ q_tb := q_in 443 (by decide +kernel) rfl
theorem tb_440 : Cond.methodLink RX10 126 yX3_kindOf ∈ q_tb := q_in 440 (by decide +kernel) rfl
theorem tb_441 : Cond.instanceMethod yX3_kindOf ∈ q_tb := q_in 441 (by decide +kernel) rfl
theorem tb_442 : Cond.selects RX3 yX3_kindOf yX3_kindOf ∈ q_tb := q_in 442 (by decide +kernel) rfl
theorem tb_363 : Cond.code yX10_numbersOf cX10_numbersOf 1 (some .int) ∈ q_tb := q_in 363 (by decide +kernel) rfl
theorem tb_444 : Cond.methodLink RX10 130 yX10_numbersOf ∈ q_tb := q_in 444 (by decide +kernel) rfl
theorem tb_362 : Cond.static yX10_numbersOf ∈ q_tb := q_in 362 (by decide +kernel) rfl
theorem tb_448 : Cond.code yX3_numberOf cX3_numberOf 3 (some .int) ∈ q_tb := q_in 448 (by decide +kernel) rfl
theorem tb_445 : Cond.methodLink RX10 133 yX3_numberOf ∈ q_tb := q_in 445 (by decide +kernel) rfl
theorem tb_446 : Cond.instanceMethod yX3_numberOf ∈ q_tb := q_in 446 (by decide +kernel) rfl
theorem tb_447 : Cond.selects RX3 yX3_numberOf yX3_numberOf ∈ q_tb := q_in 447 (by decide +kernel) rfl
theorem tb_449 : Cond.constant RX10 137 (2000000001) ∈ q_tb := q_in 449 (by decide +kernel) rfl
theorem tb_456 : Cond.code yX10_classAbove cX10_classAbove 1 (some .int) ∈ q_tb := q_in 456 (by decide +kernel) rfl
theorem tb_454 : Cond.methodLink RX10 138 yX10_classAbove ∈ q_tb := q_in 454 (by decide +kernel) rfl
theorem tb_455 : Cond.static yX10_classAbove ∈ q_tb := q_in 455 (by decide +kernel) rfl
theorem tb_464 : Cond.code yX9_at cX9_at 4 (some .int) ∈ q_tb := q_in 464 (by decide +kernel) rfl
theorem tb_461 : Cond.methodLink RX10 141 yX9_at ∈ q_tb := q_in 461 (by decide +kernel) rfl
theorem tb_462 : Cond.instanceMethod yX9_at ∈ q_tb := q_in 462 (by decide +kernel) rfl
theorem tb_463 : Cond.selects RX9 yX9_at yX9_at ∈ q_tb := q_in 463 (by decide +kernel) rfl
theorem tb_208 : Cond.code yX10_isModulus cX10_isModulus 1 (some .boolean) ∈ q_tb := q_in 208 (by decide +kernel) rfl
theorem tb_493 : Cond.methodLink RX10 145 yX10_isModulus ∈ q_tb := q_in 493 (by decide +kernel) rfl
theorem tb_207 : Cond.static yX10_isModulus ∈ q_tb := q_in 207 (by decide +kernel) rfl
theorem tb_497 : Cond.code yX6_cycleOf cX6_cycleOf 5 (some (.object "AheadRows$Cycle")) ∈ q_tb := q_in 497 (by decide +kernel) rfl
theorem tb_494 : Cond.methodLink RX10 148 yX6_cycleOf ∈ q_tb := q_in 494 (by decide +kernel) rfl
theorem tb_495 : Cond.instanceMethod yX6_cycleOf ∈ q_tb := q_in 495 (by decide +kernel) rfl
theorem tb_496 : Cond.selects RX6 yX6_cycleOf yX6_cycleOf ∈ q_tb := q_in 496 (by decide +kernel) rfl
theorem tb_522 : Cond.code yX1_at cX1_at 2 (some .int) ∈ q_tb := q_in 522 (by decide +kernel) rfl
theorem tb_535 : Cond.methodLink RX10 152 yX1_at ∈ q_tb := q_in 535 (by decide +kernel) rfl
theorem tb_520 : Cond.instanceMethod yX1_at ∈ q_tb := q_in 520 (by decide +kernel) rfl
theorem tb_521 : Cond.selects RX1 yX1_at yX1_at ∈ q_tb := q_in 521 (by decide +kernel) rfl
theorem tb_543 : Cond.code yX1_shortestLap cX1_shortestLap 2 (some .int) ∈ q_tb := q_in 543 (by decide +kernel) rfl
theorem tb_540 : Cond.methodLink RX10 154 yX1_shortestLap ∈ q_tb := q_in 540 (by decide +kernel) rfl
theorem tb_541 : Cond.instanceMethod yX1_shortestLap ∈ q_tb := q_in 541 (by decide +kernel) rfl
theorem tb_542 : Cond.selects RX1 yX1_shortestLap yX1_shortestLap ∈ q_tb := q_in 542 (by decide +kernel) rfl
theorem tb_551 : Cond.code yX1_headFor cX1_headFor 3 (some .int) ∈ q_tb := q_in 551 (by decide +kernel) rfl
theorem tb_548 : Cond.methodLink RX10 157 yX1_headFor ∈ q_tb := q_in 548 (by decide +kernel) rfl
theorem tb_549 : Cond.instanceMethod yX1_headFor ∈ q_tb := q_in 549 (by decide +kernel) rfl
theorem tb_550 : Cond.selects RX1 yX1_headFor yX1_headFor ∈ q_tb := q_in 550 (by decide +kernel) rfl
theorem tb_555 : Cond.code yX1_noughtsFrom cX1_noughtsFrom 5 (some .int) ∈ q_tb := q_in 555 (by decide +kernel) rfl
theorem tb_552 : Cond.methodLink RX10 160 yX1_noughtsFrom ∈ q_tb := q_in 552 (by decide +kernel) rfl
theorem tb_553 : Cond.instanceMethod yX1_noughtsFrom ∈ q_tb := q_in 553 (by decide +kernel) rfl
theorem tb_554 : Cond.selects RX1 yX1_noughtsFrom yX1_noughtsFrom ∈ q_tb := q_in 554 (by decide +kernel) rfl
theorem tb_562 : Cond.code yX10_isPrime cX10_isPrime 1 (some .boolean) ∈ q_tb := q_in 562 (by decide +kernel) rfl
theorem tb_560 : Cond.methodLink RX10 163 yX10_isPrime ∈ q_tb := q_in 560 (by decide +kernel) rfl
theorem tb_561 : Cond.static yX10_isPrime ∈ q_tb := q_in 561 (by decide +kernel) rfl
theorem tb_566 : Cond.code yX0_examine cX0_examine 7 (none) ∈ q_tb := q_in 566 (by decide +kernel) rfl
theorem tb_563 : Cond.methodLink RX10 166 yX0_examine ∈ q_tb := q_in 563 (by decide +kernel) rfl
theorem tb_564 : Cond.instanceMethod yX0_examine ∈ q_tb := q_in 564 (by decide +kernel) rfl
theorem tb_565 : Cond.selects RX0 yX0_examine yX0_examine ∈ q_tb := q_in 565 (by decide +kernel) rfl
theorem tb_590 : Cond.code yX0_length cX0_length 1 (some .int) ∈ q_tb := q_in 590 (by decide +kernel) rfl
theorem tb_587 : Cond.methodLink RX10 170 yX0_length ∈ q_tb := q_in 587 (by decide +kernel) rfl
theorem tb_588 : Cond.instanceMethod yX0_length ∈ q_tb := q_in 588 (by decide +kernel) rfl
theorem tb_589 : Cond.selects RX0 yX0_length yX0_length ∈ q_tb := q_in 589 (by decide +kernel) rfl
theorem tb_594 : Cond.code yX0_factor cX0_factor 2 (some .int) ∈ q_tb := q_in 594 (by decide +kernel) rfl
theorem tb_591 : Cond.methodLink RX10 173 yX0_factor ∈ q_tb := q_in 591 (by decide +kernel) rfl
theorem tb_592 : Cond.instanceMethod yX0_factor ∈ q_tb := q_in 592 (by decide +kernel) rfl
theorem tb_593 : Cond.selects RX0 yX0_factor yX0_factor ∈ q_tb := q_in 593 (by decide +kernel) rfl
theorem tb_601 : Cond.code yX8_degreeOf cX8_degreeOf 3 (some .int) ∈ q_tb := q_in 601 (by decide +kernel) rfl
theorem tb_103 : Cond.initialized RX8 ∈ q_tb := q_in 103 (by decide +kernel) rfl
theorem tb_599 : Cond.methodLink RX10 176 yX8_degreeOf ∈ q_tb := q_in 599 (by decide +kernel) rfl
theorem tb_600 : Cond.static yX8_degreeOf ∈ q_tb := q_in 600 (by decide +kernel) rfl
theorem tb_610 : Cond.code yX8_factorOf cX8_factorOf 10 (some .int) ∈ q_tb := q_in 610 (by decide +kernel) rfl
theorem tb_608 : Cond.methodLink RX10 182 yX8_factorOf ∈ q_tb := q_in 608 (by decide +kernel) rfl
theorem tb_609 : Cond.static yX8_factorOf ∈ q_tb := q_in 609 (by decide +kernel) rfl
theorem tb_607 : Cond.code yX3_isTold cX3_isTold 2 (some .boolean) ∈ q_tb := q_in 607 (by decide +kernel) rfl
theorem tb_627 : Cond.methodLink RX10 185 yX3_isTold ∈ q_tb := q_in 627 (by decide +kernel) rfl
theorem tb_605 : Cond.instanceMethod yX3_isTold ∈ q_tb := q_in 605 (by decide +kernel) rfl
theorem tb_606 : Cond.selects RX3 yX3_isTold yX3_isTold ∈ q_tb := q_in 606 (by decide +kernel) rfl
theorem tb_630 : Cond.code yX7_differentReal cX7_differentReal 2 (some .int) ∈ q_tb := q_in 630 (by decide +kernel) rfl
theorem tb_104 : Cond.initialized RX7 ∈ q_tb := q_in 104 (by decide +kernel) rfl
theorem tb_628 : Cond.methodLink RX10 188 yX7_differentReal ∈ q_tb := q_in 628 (by decide +kernel) rfl
theorem tb_629 : Cond.static yX7_differentReal ∈ q_tb := q_in 629 (by decide +kernel) rfl
theorem tb_639 : Cond.code yX7_greater cX7_greater 3 (some .int) ∈ q_tb := q_in 639 (by decide +kernel) rfl
theorem tb_637 : Cond.methodLink RX10 193 yX7_greater ∈ q_tb := q_in 637 (by decide +kernel) rfl
theorem tb_638 : Cond.static yX7_greater ∈ q_tb := q_in 638 (by decide +kernel) rfl
theorem tb_646 : Cond.code yX7_lesser cX7_lesser 3 (some .int) ∈ q_tb := q_in 646 (by decide +kernel) rfl
theorem tb_644 : Cond.methodLink RX10 196 yX7_lesser ∈ q_tb := q_in 644 (by decide +kernel) rfl
theorem tb_645 : Cond.static yX7_lesser ∈ q_tb := q_in 645 (by decide +kernel) rfl
theorem tb_649 : Cond.code yX7_order cX7_order 2 (some .int) ∈ q_tb := q_in 649 (by decide +kernel) rfl
theorem tb_647 : Cond.methodLink RX10 199 yX7_order ∈ q_tb := q_in 647 (by decide +kernel) rfl
theorem tb_648 : Cond.static yX7_order ∈ q_tb := q_in 648 (by decide +kernel) rfl
theorem tb_652 : Cond.code yX7_farthestSign cX7_farthestSign 2 (some .int) ∈ q_tb := q_in 652 (by decide +kernel) rfl
theorem tb_650 : Cond.methodLink RX10 202 yX7_farthestSign ∈ q_tb := q_in 650 (by decide +kernel) rfl
theorem tb_651 : Cond.static yX7_farthestSign ∈ q_tb := q_in 651 (by decide +kernel) rfl
theorem tb_539 : Cond.code yX10_lap cX10_lap 7 (some .int) ∈ q_tb := q_in 539 (by decide +kernel) rfl
theorem tb_661 : Cond.methodLink RX10 205 yX10_lap ∈ q_tb := q_in 661 (by decide +kernel) rfl
theorem tb_537 : Cond.instanceMethod yX10_lap ∈ q_tb := q_in 537 (by decide +kernel) rfl
theorem tb_538 : Cond.selects RX10 yX10_lap yX10_lap ∈ q_tb := q_in 538 (by decide +kernel) rfl
theorem tb_669 : Cond.code yX10_isOpenAt cX10_isOpenAt 3 (some .boolean) ∈ q_tb := q_in 669 (by decide +kernel) rfl
theorem tb_666 : Cond.methodLink RX10 209 yX10_isOpenAt ∈ q_tb := q_in 666 (by decide +kernel) rfl
theorem tb_668 : Cond.instanceMethod yX10_isOpenAt ∈ q_tb := q_in 668 (by decide +kernel) rfl
theorem tb_19 : Cond.selects RX10 yX10_isOpenAt yX10_isOpenAt ∈ q_tb := q_in 19 (by decide +kernel) rfl
theorem tb_681 : Cond.code yX1_firstMeeting cX1_firstMeeting 3 (some .int) ∈ q_tb := q_in 681 (by decide +kernel) rfl
theorem tb_678 : Cond.methodLink RX10 213 yX1_firstMeeting ∈ q_tb := q_in 678 (by decide +kernel) rfl
theorem tb_679 : Cond.instanceMethod yX1_firstMeeting ∈ q_tb := q_in 679 (by decide +kernel) rfl
theorem tb_680 : Cond.selects RX1 yX1_firstMeeting yX1_firstMeeting ∈ q_tb := q_in 680 (by decide +kernel) rfl
theorem tb_689 : Cond.code yX10_isTellable cX10_isTellable 4 (some .boolean) ∈ q_tb := q_in 689 (by decide +kernel) rfl
theorem tb_687 : Cond.methodLink RX10 217 yX10_isTellable ∈ q_tb := q_in 687 (by decide +kernel) rfl
theorem tb_688 : Cond.static yX10_isTellable ∈ q_tb := q_in 688 (by decide +kernel) rfl
theorem tb_693 : Cond.code yX10_added cX10_added 6 (some .int) ∈ q_tb := q_in 693 (by decide +kernel) rfl
theorem tb_690 : Cond.methodLink RX10 221 yX10_added ∈ q_tb := q_in 690 (by decide +kernel) rfl
theorem tb_692 : Cond.instanceMethod yX10_added ∈ q_tb := q_in 692 (by decide +kernel) rfl
theorem tb_21 : Cond.selects RX10 yX10_added yX10_added ∈ q_tb := q_in 21 (by decide +kernel) rfl
theorem tb_388 : Cond.code yX3_setNumber cX3_setNumber 4 (none) ∈ q_tb := q_in 388 (by decide +kernel) rfl
theorem tb_715 : Cond.methodLink RX10 225 yX3_setNumber ∈ q_tb := q_in 715 (by decide +kernel) rfl
theorem tb_386 : Cond.instanceMethod yX3_setNumber ∈ q_tb := q_in 386 (by decide +kernel) rfl
theorem tb_387 : Cond.selects RX3 yX3_setNumber yX3_setNumber ∈ q_tb := q_in 387 (by decide +kernel) rfl
theorem tb_723 : Cond.code yX3_removeLast cX3_removeLast 1 (none) ∈ q_tb := q_in 723 (by decide +kernel) rfl
theorem tb_720 : Cond.methodLink RX10 229 yX3_removeLast ∈ q_tb := q_in 720 (by decide +kernel) rfl
theorem tb_721 : Cond.instanceMethod yX3_removeLast ∈ q_tb := q_in 721 (by decide +kernel) rfl
theorem tb_722 : Cond.selects RX3 yX3_removeLast yX3_removeLast ∈ q_tb := q_in 722 (by decide +kernel) rfl
theorem tb_731 : Cond.code yX10_isEasy cX10_isEasy 3 (some .boolean) ∈ q_tb := q_in 731 (by decide +kernel) rfl
theorem tb_728 : Cond.methodLink RX10 232 yX10_isEasy ∈ q_tb := q_in 728 (by decide +kernel) rfl
theorem tb_730 : Cond.instanceMethod yX10_isEasy ∈ q_tb := q_in 730 (by decide +kernel) rfl
theorem tb_22 : Cond.selects RX10 yX10_isEasy yX10_isEasy ∈ q_tb := q_in 22 (by decide +kernel) rfl
theorem tb_735 : Cond.code yX10_numberOfPart cX10_numberOfPart 4 (some .int) ∈ q_tb := q_in 735 (by decide +kernel) rfl
theorem tb_732 : Cond.methodLink RX10 235 yX10_numberOfPart ∈ q_tb := q_in 732 (by decide +kernel) rfl
theorem tb_734 : Cond.instanceMethod yX10_numberOfPart ∈ q_tb := q_in 734 (by decide +kernel) rfl
theorem tb_23 : Cond.selects RX10 yX10_numberOfPart yX10_numberOfPart ∈ q_tb := q_in 23 (by decide +kernel) rfl
theorem tb_356 : Cond.code yX3_write cX3_write 8 (none) ∈ q_tb := q_in 356 (by decide +kernel) rfl
theorem tb_740 : Cond.methodLink RX10 238 yX3_write ∈ q_tb := q_in 740 (by decide +kernel) rfl
theorem tb_354 : Cond.instanceMethod yX3_write ∈ q_tb := q_in 354 (by decide +kernel) rfl
theorem tb_355 : Cond.selects RX3 yX3_write yX3_write ∈ q_tb := q_in 355 (by decide +kernel) rfl
theorem tb_756 : Cond.code yX2_isFoundFor cX2_isFoundFor 2 (some .boolean) ∈ q_tb := q_in 756 (by decide +kernel) rfl
theorem tb_753 : Cond.methodLink RX10 242 yX2_isFoundFor ∈ q_tb := q_in 753 (by decide +kernel) rfl
theorem tb_754 : Cond.instanceMethod yX2_isFoundFor ∈ q_tb := q_in 754 (by decide +kernel) rfl
theorem tb_755 : Cond.selects RX2 yX2_isFoundFor yX2_isFoundFor ∈ q_tb := q_in 755 (by decide +kernel) rfl
theorem tb_774 : Cond.code yX2_degree cX2_degree 1 (some .int) ∈ q_tb := q_in 774 (by decide +kernel) rfl
theorem tb_771 : Cond.methodLink RX10 245 yX2_degree ∈ q_tb := q_in 771 (by decide +kernel) rfl
theorem tb_772 : Cond.instanceMethod yX2_degree ∈ q_tb := q_in 772 (by decide +kernel) rfl
theorem tb_773 : Cond.selects RX2 yX2_degree yX2_degree ∈ q_tb := q_in 773 (by decide +kernel) rfl
theorem tb_778 : Cond.code yX2_u cX2_u 1 (some .int) ∈ q_tb := q_in 778 (by decide +kernel) rfl
theorem tb_775 : Cond.methodLink RX10 248 yX2_u ∈ q_tb := q_in 775 (by decide +kernel) rfl
theorem tb_776 : Cond.instanceMethod yX2_u ∈ q_tb := q_in 776 (by decide +kernel) rfl
theorem tb_777 : Cond.selects RX2 yX2_u yX2_u ∈ q_tb := q_in 777 (by decide +kernel) rfl
theorem tb_782 : Cond.code yX2_v cX2_v 1 (some .int) ∈ q_tb := q_in 782 (by decide +kernel) rfl
theorem tb_779 : Cond.methodLink RX10 251 yX2_v ∈ q_tb := q_in 779 (by decide +kernel) rfl
theorem tb_780 : Cond.instanceMethod yX2_v ∈ q_tb := q_in 780 (by decide +kernel) rfl
theorem tb_781 : Cond.selects RX2 yX2_v yX2_v ∈ q_tb := q_in 781 (by decide +kernel) rfl
theorem tb_333 : Cond.code yX4_at cX4_at 2 (some .int) ∈ q_tb := q_in 333 (by decide +kernel) rfl
theorem tb_787 : Cond.methodLink RX10 254 yX4_at ∈ q_tb := q_in 787 (by decide +kernel) rfl
theorem tb_331 : Cond.instanceMethod yX4_at ∈ q_tb := q_in 331 (by decide +kernel) rfl
theorem tb_332 : Cond.selects RX4 yX4_at yX4_at ∈ q_tb := q_in 332 (by decide +kernel) rfl
theorem tb_794 : Cond.code yX10_nextState cX10_nextState 1 (some .int) ∈ q_tb := q_in 794 (by decide +kernel) rfl
theorem tb_792 : Cond.methodLink RX10 255 yX10_nextState ∈ q_tb := q_in 792 (by decide +kernel) rfl
theorem tb_793 : Cond.static yX10_nextState ∈ q_tb := q_in 793 (by decide +kernel) rfl
theorem tb_800 : Cond.code yX10_numberDrawnAt cX10_numberDrawnAt 1 (some .int) ∈ q_tb := q_in 800 (by decide +kernel) rfl
theorem tb_798 : Cond.methodLink RX10 258 yX10_numberDrawnAt ∈ q_tb := q_in 798 (by decide +kernel) rfl
theorem tb_799 : Cond.static yX10_numberDrawnAt ∈ q_tb := q_in 799 (by decide +kernel) rfl
theorem tb_511 : Cond.code yX1_fillTold cX1_fillTold 6 (none) ∈ q_tb := q_in 511 (by decide +kernel) rfl
theorem tb_802 : Cond.methodLink RX10 261 yX1_fillTold ∈ q_tb := q_in 802 (by decide +kernel) rfl
theorem tb_509 : Cond.instanceMethod yX1_fillTold ∈ q_tb := q_in 509 (by decide +kernel) rfl
theorem tb_510 : Cond.selects RX1 yX1_fillTold yX1_fillTold ∈ q_tb := q_in 510 (by decide +kernel) rfl
theorem tb_810 : Cond.code yX4_copyFrom cX4_copyFrom 3 (none) ∈ q_tb := q_in 810 (by decide +kernel) rfl
theorem tb_807 : Cond.methodLink RX10 265 yX4_copyFrom ∈ q_tb := q_in 807 (by decide +kernel) rfl
theorem tb_808 : Cond.instanceMethod yX4_copyFrom ∈ q_tb := q_in 808 (by decide +kernel) rfl
theorem tb_809 : Cond.selects RX4 yX4_copyFrom yX4_copyFrom ∈ q_tb := q_in 809 (by decide +kernel) rfl
theorem tb_826 : Cond.code yX10_toldRows cX10_toldRows 3 (some .int) ∈ q_tb := q_in 826 (by decide +kernel) rfl
theorem tb_823 : Cond.methodLink RX10 268 yX10_toldRows ∈ q_tb := q_in 823 (by decide +kernel) rfl
theorem tb_825 : Cond.instanceMethod yX10_toldRows ∈ q_tb := q_in 825 (by decide +kernel) rfl
theorem tb_28 : Cond.selects RX10 yX10_toldRows yX10_toldRows ∈ q_tb := q_in 28 (by decide +kernel) rfl
theorem tb_830 : Cond.code yX10_degenerateRows cX10_degenerateRows 3 (some .int) ∈ q_tb := q_in 830 (by decide +kernel) rfl
theorem tb_827 : Cond.methodLink RX10 271 yX10_degenerateRows ∈ q_tb := q_in 827 (by decide +kernel) rfl
theorem tb_829 : Cond.instanceMethod yX10_degenerateRows ∈ q_tb := q_in 829 (by decide +kernel) rfl
theorem tb_29 : Cond.selects RX10 yX10_degenerateRows yX10_degenerateRows ∈ q_tb := q_in 29 (by decide +kernel) rfl
theorem tb_835 : Cond.constantLong RX10 274 (1493) ∈ q_tb := q_in 835 (by decide +kernel) rfl
theorem tb_839 : Cond.code yX10_digestWithRow cX10_digestWithRow 7 (some .long) ∈ q_tb := q_in 839 (by decide +kernel) rfl
theorem tb_836 : Cond.methodLink RX10 276 yX10_digestWithRow ∈ q_tb := q_in 836 (by decide +kernel) rfl
theorem tb_838 : Cond.instanceMethod yX10_digestWithRow ∈ q_tb := q_in 838 (by decide +kernel) rfl
theorem tb_30 : Cond.selects RX10 yX10_digestWithRow yX10_digestWithRow ∈ q_tb := q_in 30 (by decide +kernel) rfl
theorem tb_840 : Cond.constantLong RX10 280 (31) ∈ q_tb := q_in 840 (by decide +kernel) rfl
theorem tb_752 : Cond.code yX10_guess cX10_guess 2 (some .int) ∈ q_tb := q_in 752 (by decide +kernel) rfl
theorem tb_846 : Cond.methodLink RX10 282 yX10_guess ∈ q_tb := q_in 846 (by decide +kernel) rfl
theorem tb_750 : Cond.instanceMethod yX10_guess ∈ q_tb := q_in 750 (by decide +kernel) rfl
theorem tb_751 : Cond.selects RX10 yX10_guess yX10_guess ∈ q_tb := q_in 751 (by decide +kernel) rfl
theorem tb_822 : Cond.code yX10_count cX10_count 2 (some .int) ∈ q_tb := q_in 822 (by decide +kernel) rfl
theorem tb_847 : Cond.methodLink RX10 285 yX10_count ∈ q_tb := q_in 847 (by decide +kernel) rfl
theorem tb_820 : Cond.instanceMethod yX10_count ∈ q_tb := q_in 820 (by decide +kernel) rfl
theorem tb_821 : Cond.selects RX10 yX10_count yX10_count ∈ q_tb := q_in 821 (by decide +kernel) rfl
theorem tb_437 : Cond.code yX10_row cX10_row 4 (some .int) ∈ q_tb := q_in 437 (by decide +kernel) rfl
theorem tb_841 : Cond.methodLink RX10 288 yX10_row ∈ q_tb := q_in 841 (by decide +kernel) rfl
theorem tb_435 : Cond.instanceMethod yX10_row ∈ q_tb := q_in 435 (by decide +kernel) rfl
theorem tb_436 : Cond.selects RX10 yX10_row yX10_row ∈ q_tb := q_in 436 (by decide +kernel) rfl
theorem tb_460 : Cond.code yX10_term cX10_term 3 (some .int) ∈ q_tb := q_in 460 (by decide +kernel) rfl
theorem tb_842 : Cond.methodLink RX10 291 yX10_term ∈ q_tb := q_in 842 (by decide +kernel) rfl
theorem tb_458 : Cond.instanceMethod yX10_term ∈ q_tb := q_in 458 (by decide +kernel) rfl
theorem tb_459 : Cond.selects RX10 yX10_term yX10_term ∈ q_tb := q_in 459 (by decide +kernel) rfl
theorem tb_843 : Cond.constant RX10 294 (1000000) ∈ q_tb := q_in 843 (by decide +kernel) rfl
theorem tb_492 : Cond.code yX10_by cX10_by 4 (some .int) ∈ q_tb := q_in 492 (by decide +kernel) rfl
theorem tb_844 : Cond.methodLink RX10 295 yX10_by ∈ q_tb := q_in 844 (by decide +kernel) rfl
theorem tb_490 : Cond.instanceMethod yX10_by ∈ q_tb := q_in 490 (by decide +kernel) rfl
theorem tb_491 : Cond.selects RX10 yX10_by yX10_by ∈ q_tb := q_in 491 (by decide +kernel) rfl
theorem tb_656 : Cond.code yX10_noughts cX10_noughts 4 (some .int) ∈ q_tb := q_in 656 (by decide +kernel) rfl
theorem tb_845 : Cond.methodLink RX10 298 yX10_noughts ∈ q_tb := q_in 845 (by decide +kernel) rfl
theorem tb_654 : Cond.instanceMethod yX10_noughts ∈ q_tb := q_in 654 (by decide +kernel) rfl
theorem tb_655 : Cond.selects RX10 yX10_noughts yX10_noughts ∈ q_tb := q_in 655 (by decide +kernel) rfl
theorem tb_352 : Cond.code yX3_append cX3_append 6 (some .boolean) ∈ q_tb := q_in 352 (by decide +kernel) rfl
theorem tb_694 : Cond.methodLink RX10 301 yX3_append ∈ q_tb := q_in 694 (by decide +kernel) rfl
theorem tb_350 : Cond.instanceMethod yX3_append ∈ q_tb := q_in 350 (by decide +kernel) rfl
theorem tb_351 : Cond.selects RX3 yX3_append yX3_append ∈ q_tb := q_in 351 (by decide +kernel) rfl
theorem tb_424 : Cond.code yX9_forgetFrom cX9_forgetFrom 2 (none) ∈ q_tb := q_in 424 (by decide +kernel) rfl
theorem tb_421 : Cond.methodLink RX10 304 yX9_forgetFrom ∈ q_tb := q_in 421 (by decide +kernel) rfl
theorem tb_422 : Cond.instanceMethod yX9_forgetFrom ∈ q_tb := q_in 422 (by decide +kernel) rfl
theorem tb_423 : Cond.selects RX9 yX9_forgetFrom yX9_forgetFrom ∈ q_tb := q_in 423 (by decide +kernel) rfl
theorem tb_431 : Cond.code yX6_forgetFrom cX6_forgetFrom 3 (none) ∈ q_tb := q_in 431 (by decide +kernel) rfl
theorem tb_428 : Cond.methodLink RX10 307 yX6_forgetFrom ∈ q_tb := q_in 428 (by decide +kernel) rfl
theorem tb_429 : Cond.instanceMethod yX6_forgetFrom ∈ q_tb := q_in 429 (by decide +kernel) rfl
theorem tb_430 : Cond.selects RX6 yX6_forgetFrom yX6_forgetFrom ∈ q_tb := q_in 430 (by decide +kernel) rfl
theorem tb_673 : Cond.code yX10_hasRemainderNought cX10_hasRemainderNought 4 (some .boolean) ∈ q_tb := q_in 673 (by decide +kernel) rfl
theorem tb_670 : Cond.methodLink RX10 308 yX10_hasRemainderNought ∈ q_tb := q_in 670 (by decide +kernel) rfl
theorem tb_672 : Cond.instanceMethod yX10_hasRemainderNought ∈ q_tb := q_in 672 (by decide +kernel) rfl
theorem tb_20 : Cond.selects RX10 yX10_hasRemainderNought yX10_hasRemainderNought ∈ q_tb := q_in 20 (by decide +kernel) rfl
theorem tb_739 : Cond.code yX10_isPartOfPowers cX10_isPartOfPowers 3 (some .boolean) ∈ q_tb := q_in 739 (by decide +kernel) rfl
theorem tb_736 : Cond.methodLink RX10 311 yX10_isPartOfPowers ∈ q_tb := q_in 736 (by decide +kernel) rfl
theorem tb_738 : Cond.instanceMethod yX10_isPartOfPowers ∈ q_tb := q_in 738 (by decide +kernel) rfl
theorem tb_24 : Cond.selects RX10 yX10_isPartOfPowers yX10_isPartOfPowers ∈ q_tb := q_in 24 (by decide +kernel) rfl
theorem tb_795 : Cond.constantLong RX10 314 (1103515245) ∈ q_tb := q_in 795 (by decide +kernel) rfl
theorem tb_796 : Cond.constantLong RX10 316 (12345) ∈ q_tb := q_in 796 (by decide +kernel) rfl
theorem tb_797 : Cond.constantLong RX10 318 (2147483647) ∈ q_tb := q_in 797 (by decide +kernel) rfl
theorem tb_801 : Cond.constant RX10 320 (65536) ∈ q_tb := q_in 801 (by decide +kernel) rfl
theorem tb_853 : Cond.methodLink RX11 1 objectInit ∈ q_tb := q_in 853 (by decide +kernel) rfl
theorem tb_856 : Cond.fieldLink RX11 7 "AheadRowsModel" "kind" "[I" ∈ q_tb := q_in 856 (by decide +kernel) rfl
theorem tb_857 : Cond.fieldLink RX11 13 "AheadRowsModel" "part" "[I" ∈ q_tb := q_in 857 (by decide +kernel) rfl
theorem tb_860 : Cond.fieldLink RX11 16 "AheadRowsModel" "givenAt" "[I" ∈ q_tb := q_in 860 (by decide +kernel) rfl
theorem tb_862 : Cond.fieldLink RX11 19 "AheadRowsModel" "page" "[B" ∈ q_tb := q_in 862 (by decide +kernel) rfl
theorem tb_865 : Cond.fieldLink RX11 23 "AheadRowsModel" "newKind" "[I" ∈ q_tb := q_in 865 (by decide +kernel) rfl
theorem tb_866 : Cond.fieldLink RX11 26 "AheadRowsModel" "newPart" "[I" ∈ q_tb := q_in 866 (by decide +kernel) rfl
theorem tb_870 : Cond.fieldLink RX11 29 "AheadRowsModel" "terms" "[I" ∈ q_tb := q_in 870 (by decide +kernel) rfl
theorem tb_871 : Cond.fieldLink RX11 32 "AheadRowsModel" "lead" "[I" ∈ q_tb := q_in 871 (by decide +kernel) rfl
theorem tb_872 : Cond.fieldLink RX11 35 "AheadRowsModel" "turn" "[I" ∈ q_tb := q_in 872 (by decide +kernel) rfl
theorem tb_873 : Cond.fieldLink RX11 38 "AheadRowsModel" "rests" "[B" ∈ q_tb := q_in 873 (by decide +kernel) rfl
theorem tb_874 : Cond.fieldLink RX11 41 "AheadRowsModel" "met" "[I" ∈ q_tb := q_in 874 (by decide +kernel) rfl
theorem tb_875 : Cond.fieldLink RX11 44 "AheadRowsModel" "table" "[I" ∈ q_tb := q_in 875 (by decide +kernel) rfl
theorem tb_876 : Cond.fieldLink RX11 47 "AheadRowsModel" "found" "[I" ∈ q_tb := q_in 876 (by decide +kernel) rfl
theorem tb_877 : Cond.fieldLink RX11 50 "AheadRowsModel" "isOpen" "[Z" ∈ q_tb := q_in 877 (by decide +kernel) rfl
theorem tb_854 : Cond.constant RX11 54 (2000000001) ∈ q_tb := q_in 854 (by decide +kernel) rfl
theorem tb_881 : Cond.fieldLink RX11 55 "AheadRowsModel" "keptReads" "I" ∈ q_tb := q_in 881 (by decide +kernel) rfl
theorem tb_884 : Cond.fieldLink RX11 59 "AheadRowsModel" "keptKind" "[I" ∈ q_tb := q_in 884 (by decide +kernel) rfl
theorem tb_885 : Cond.fieldLink RX11 62 "AheadRowsModel" "keptPart" "[I" ∈ q_tb := q_in 885 (by decide +kernel) rfl
theorem tb_886 : Cond.fieldLink RX11 65 "AheadRowsModel" "keptAt" "[I" ∈ q_tb := q_in 886 (by decide +kernel) rfl
theorem tb_963 : Cond.code yX11_within cX11_within 3 (some .boolean) ∈ q_tb := q_in 963 (by decide +kernel) rfl
theorem tb_101 : Cond.initialized RX11 ∈ q_tb := q_in 101 (by decide +kernel) rfl
theorem tb_961 : Cond.methodLink RX11 68 yX11_within ∈ q_tb := q_in 961 (by decide +kernel) rfl
theorem tb_962 : Cond.static yX11_within ∈ q_tb := q_in 962 (by decide +kernel) rfl
theorem tb_964 : Cond.constant RX11 72 (2000000102) ∈ q_tb := q_in 964 (by decide +kernel) rfl
theorem tb_861 : Cond.fieldLink RX11 73 "AheadRowsModel" "pageLength" "I" ∈ q_tb := q_in 861 (by decide +kernel) rfl
theorem tb_965 : Cond.constant RX11 76 (2000000104) ∈ q_tb := q_in 965 (by decide +kernel) rfl
theorem tb_863 : Cond.fieldLink RX11 77 "AheadRowsModel" "newMany" "I" ∈ q_tb := q_in 863 (by decide +kernel) rfl
theorem tb_1002 : Cond.code yX11_valueOf cX11_valueOf 1 (some .int) ∈ q_tb := q_in 1002 (by decide +kernel) rfl
theorem tb_1000 : Cond.methodLink RX11 80 yX11_valueOf ∈ q_tb := q_in 1000 (by decide +kernel) rfl
theorem tb_1001 : Cond.static yX11_valueOf ∈ q_tb := q_in 1001 (by decide +kernel) rfl
theorem tb_864 : Cond.fieldLink RX11 84 "AheadRowsModel" "newSigns" "I" ∈ q_tb := q_in 864 (by decide +kernel) rfl
theorem tb_995 : Cond.code yX11_signsOf cX11_signsOf 1 (some .int) ∈ q_tb := q_in 995 (by decide +kernel) rfl
theorem tb_993 : Cond.methodLink RX11 87 yX11_signsOf ∈ q_tb := q_in 993 (by decide +kernel) rfl
theorem tb_994 : Cond.static yX11_signsOf ∈ q_tb := q_in 994 (by decide +kernel) rfl
theorem tb_867 : Cond.fieldLink RX11 90 "AheadRowsModel" "begins" "Z" ∈ q_tb := q_in 867 (by decide +kernel) rfl
theorem tb_985 : Cond.code yX11_takesKind cX11_takesKind 4 (some .boolean) ∈ q_tb := q_in 985 (by decide +kernel) rfl
theorem tb_982 : Cond.methodLink RX11 94 yX11_takesKind ∈ q_tb := q_in 982 (by decide +kernel) rfl
theorem tb_984 : Cond.instanceMethod yX11_takesKind ∈ q_tb := q_in 984 (by decide +kernel) rfl
theorem tb_33 : Cond.selects RX11 yX11_takesKind yX11_takesKind ∈ q_tb := q_in 33 (by decide +kernel) rfl
theorem tb_992 : Cond.code yX11_isDone cX11_isDone 1 (some .boolean) ∈ q_tb := q_in 992 (by decide +kernel) rfl
theorem tb_989 : Cond.methodLink RX11 98 yX11_isDone ∈ q_tb := q_in 989 (by decide +kernel) rfl
theorem tb_991 : Cond.instanceMethod yX11_isDone ∈ q_tb := q_in 991 (by decide +kernel) rfl
theorem tb_34 : Cond.selects RX11 yX11_isDone yX11_isDone ∈ q_tb := q_in 34 (by decide +kernel) rfl
theorem tb_999 : Cond.code yX11_fitsSign cX11_fitsSign 3 (some .boolean) ∈ q_tb := q_in 999 (by decide +kernel) rfl
theorem tb_996 : Cond.methodLink RX11 102 yX11_fitsSign ∈ q_tb := q_in 996 (by decide +kernel) rfl
theorem tb_998 : Cond.instanceMethod yX11_fitsSign ∈ q_tb := q_in 998 (by decide +kernel) rfl
theorem tb_35 : Cond.selects RX11 yX11_fitsSign yX11_fitsSign ∈ q_tb := q_in 35 (by decide +kernel) rfl
theorem tb_988 : Cond.code yX11_kindBy cX11_kindBy 1 (some .int) ∈ q_tb := q_in 988 (by decide +kernel) rfl
theorem tb_986 : Cond.methodLink RX11 105 yX11_kindBy ∈ q_tb := q_in 986 (by decide +kernel) rfl
theorem tb_987 : Cond.static yX11_kindBy ∈ q_tb := q_in 987 (by decide +kernel) rfl
theorem tb_981 : Cond.code yX11_takes cX11_takes 2 (some .boolean) ∈ q_tb := q_in 981 (by decide +kernel) rfl
theorem tb_978 : Cond.methodLink RX11 108 yX11_takes ∈ q_tb := q_in 978 (by decide +kernel) rfl
theorem tb_980 : Cond.instanceMethod yX11_takes ∈ q_tb := q_in 980 (by decide +kernel) rfl
theorem tb_32 : Cond.selects RX11 yX11_takes yX11_takes ∈ q_tb := q_in 32 (by decide +kernel) rfl
theorem tb_977 : Cond.code yX11_read cX11_read 2 (some .int) ∈ q_tb := q_in 977 (by decide +kernel) rfl
theorem tb_974 : Cond.methodLink RX11 111 yX11_read ∈ q_tb := q_in 974 (by decide +kernel) rfl
theorem tb_976 : Cond.instanceMethod yX11_read ∈ q_tb := q_in 976 (by decide +kernel) rfl
theorem tb_31 : Cond.selects RX11 yX11_read yX11_read ∈ q_tb := q_in 31 (by decide +kernel) rfl
theorem tb_1007 : Cond.constant RX11 115 (2000000103) ∈ q_tb := q_in 1007 (by decide +kernel) rfl
theorem tb_855 : Cond.fieldLink RX11 116 "AheadRowsModel" "rowMany" "I" ∈ q_tb := q_in 855 (by decide +kernel) rfl
theorem tb_858 : Cond.fieldLink RX11 119 "AheadRowsModel" "reads" "I" ∈ q_tb := q_in 858 (by decide +kernel) rfl
theorem tb_1011 : Cond.code yX11_changes cX11_changes 1 (none) ∈ q_tb := q_in 1011 (by decide +kernel) rfl
theorem tb_1008 : Cond.methodLink RX11 122 yX11_changes ∈ q_tb := q_in 1008 (by decide +kernel) rfl
theorem tb_1010 : Cond.instanceMethod yX11_changes ∈ q_tb := q_in 1010 (by decide +kernel) rfl
theorem tb_36 : Cond.selects RX11 yX11_changes yX11_changes ∈ q_tb := q_in 36 (by decide +kernel) rfl
theorem tb_868 : Cond.fieldLink RX11 125 "AheadRowsModel" "isLaid" "Z" ∈ q_tb := q_in 868 (by decide +kernel) rfl
theorem tb_869 : Cond.fieldLink RX11 128 "AheadRowsModel" "laidBy" "I" ∈ q_tb := q_in 869 (by decide +kernel) rfl
theorem tb_1052 : Cond.constant RX11 131 (2000000002) ∈ q_tb := q_in 1052 (by decide +kernel) rfl
theorem tb_1056 : Cond.constantLong RX11 132 (1000000000) ∈ q_tb := q_in 1056 (by decide +kernel) rfl
theorem tb_1057 : Cond.constantLong RX11 134 (-1000000000) ∈ q_tb := q_in 1057 (by decide +kernel) rfl
theorem tb_1051 : Cond.code yX11_termAt cX11_termAt 3 (some .int) ∈ q_tb := q_in 1051 (by decide +kernel) rfl
theorem tb_1048 : Cond.methodLink RX11 136 yX11_termAt ∈ q_tb := q_in 1048 (by decide +kernel) rfl
theorem tb_1050 : Cond.instanceMethod yX11_termAt ∈ q_tb := q_in 1050 (by decide +kernel) rfl
theorem tb_42 : Cond.selects RX11 yX11_termAt yX11_termAt ∈ q_tb := q_in 42 (by decide +kernel) rfl
theorem tb_1055 : Cond.code yX11_near cX11_near 2 (some .int) ∈ q_tb := q_in 1055 (by decide +kernel) rfl
theorem tb_1053 : Cond.methodLink RX11 140 yX11_near ∈ q_tb := q_in 1053 (by decide +kernel) rfl
theorem tb_1054 : Cond.static yX11_near ∈ q_tb := q_in 1054 (by decide +kernel) rfl
theorem tb_1047 : Cond.code yX11_toldTerm cX11_toldTerm 5 (some .int) ∈ q_tb := q_in 1047 (by decide +kernel) rfl
theorem tb_1044 : Cond.methodLink RX11 144 yX11_toldTerm ∈ q_tb := q_in 1044 (by decide +kernel) rfl
theorem tb_1046 : Cond.instanceMethod yX11_toldTerm ∈ q_tb := q_in 1046 (by decide +kernel) rfl
theorem tb_41 : Cond.selects RX11 yX11_toldTerm yX11_toldTerm ∈ q_tb := q_in 41 (by decide +kernel) rfl
theorem tb_1061 : Cond.code yX11_stepTerm cX11_stepTerm 5 (some .int) ∈ q_tb := q_in 1061 (by decide +kernel) rfl
theorem tb_1058 : Cond.methodLink RX11 147 yX11_stepTerm ∈ q_tb := q_in 1058 (by decide +kernel) rfl
theorem tb_1060 : Cond.instanceMethod yX11_stepTerm ∈ q_tb := q_in 1060 (by decide +kernel) rfl
theorem tb_43 : Cond.selects RX11 yX11_stepTerm yX11_stepTerm ∈ q_tb := q_in 43 (by decide +kernel) rfl
theorem tb_1065 : Cond.code yX11_bothTerm cX11_bothTerm 5 (some .int) ∈ q_tb := q_in 1065 (by decide +kernel) rfl
theorem tb_1062 : Cond.methodLink RX11 150 yX11_bothTerm ∈ q_tb := q_in 1062 (by decide +kernel) rfl
theorem tb_1064 : Cond.instanceMethod yX11_bothTerm ∈ q_tb := q_in 1064 (by decide +kernel) rfl
theorem tb_44 : Cond.selects RX11 yX11_bothTerm yX11_bothTerm ∈ q_tb := q_in 44 (by decide +kernel) rfl
theorem tb_1043 : Cond.code yX11_madeTerm cX11_madeTerm 3 (some .int) ∈ q_tb := q_in 1043 (by decide +kernel) rfl
theorem tb_1040 : Cond.methodLink RX11 153 yX11_madeTerm ∈ q_tb := q_in 1040 (by decide +kernel) rfl
theorem tb_1042 : Cond.instanceMethod yX11_madeTerm ∈ q_tb := q_in 1042 (by decide +kernel) rfl
theorem tb_40 : Cond.selects RX11 yX11_madeTerm yX11_madeTerm ∈ q_tb := q_in 40 (by decide +kernel) rfl
theorem tb_1039 : Cond.code yX11_layTerms cX11_layTerms 2 (none) ∈ q_tb := q_in 1039 (by decide +kernel) rfl
theorem tb_1036 : Cond.methodLink RX11 156 yX11_layTerms ∈ q_tb := q_in 1036 (by decide +kernel) rfl
theorem tb_1038 : Cond.instanceMethod yX11_layTerms ∈ q_tb := q_in 1038 (by decide +kernel) rfl
theorem tb_39 : Cond.selects RX11 yX11_layTerms yX11_layTerms ∈ q_tb := q_in 39 (by decide +kernel) rfl
theorem tb_1088 : Cond.code yX11_mod cX11_mod 2 (some .int) ∈ q_tb := q_in 1088 (by decide +kernel) rfl
theorem tb_1086 : Cond.methodLink RX11 159 yX11_mod ∈ q_tb := q_in 1086 (by decide +kernel) rfl
theorem tb_1087 : Cond.static yX11_mod ∈ q_tb := q_in 1087 (by decide +kernel) rfl
theorem tb_1103 : Cond.code yX11_restAt cX11_restAt 6 (some .int) ∈ q_tb := q_in 1103 (by decide +kernel) rfl
theorem tb_1100 : Cond.methodLink RX11 162 yX11_restAt ∈ q_tb := q_in 1100 (by decide +kernel) rfl
theorem tb_1102 : Cond.instanceMethod yX11_restAt ∈ q_tb := q_in 1102 (by decide +kernel) rfl
theorem tb_51 : Cond.selects RX11 yX11_restAt yX11_restAt ∈ q_tb := q_in 51 (by decide +kernel) rfl
theorem tb_1095 : Cond.code yX11_common cX11_common 5 (some .int) ∈ q_tb := q_in 1095 (by decide +kernel) rfl
theorem tb_1093 : Cond.methodLink RX11 166 yX11_common ∈ q_tb := q_in 1093 (by decide +kernel) rfl
theorem tb_1094 : Cond.static yX11_common ∈ q_tb := q_in 1094 (by decide +kernel) rfl
theorem tb_1085 : Cond.code yX11_layTold cX11_layTold 7 (none) ∈ q_tb := q_in 1085 (by decide +kernel) rfl
theorem tb_1082 : Cond.methodLink RX11 169 yX11_layTold ∈ q_tb := q_in 1082 (by decide +kernel) rfl
theorem tb_1084 : Cond.instanceMethod yX11_layTold ∈ q_tb := q_in 1084 (by decide +kernel) rfl
theorem tb_48 : Cond.selects RX11 yX11_layTold yX11_layTold ∈ q_tb := q_in 48 (by decide +kernel) rfl
theorem tb_1092 : Cond.code yX11_layTurn cX11_layTurn 5 (none) ∈ q_tb := q_in 1092 (by decide +kernel) rfl
theorem tb_1089 : Cond.methodLink RX11 173 yX11_layTurn ∈ q_tb := q_in 1089 (by decide +kernel) rfl
theorem tb_1091 : Cond.instanceMethod yX11_layTurn ∈ q_tb := q_in 1091 (by decide +kernel) rfl
theorem tb_49 : Cond.selects RX11 yX11_layTurn yX11_layTurn ∈ q_tb := q_in 49 (by decide +kernel) rfl
theorem tb_1099 : Cond.code yX11_madeRest cX11_madeRest 5 (some .int) ∈ q_tb := q_in 1099 (by decide +kernel) rfl
theorem tb_1096 : Cond.methodLink RX11 177 yX11_madeRest ∈ q_tb := q_in 1096 (by decide +kernel) rfl
theorem tb_1098 : Cond.instanceMethod yX11_madeRest ∈ q_tb := q_in 1098 (by decide +kernel) rfl
theorem tb_50 : Cond.selects RX11 yX11_madeRest yX11_madeRest ∈ q_tb := q_in 50 (by decide +kernel) rfl
theorem tb_1081 : Cond.code yX11_layRest cX11_layRest 4 (none) ∈ q_tb := q_in 1081 (by decide +kernel) rfl
theorem tb_1078 : Cond.methodLink RX11 181 yX11_layRest ∈ q_tb := q_in 1078 (by decide +kernel) rfl
theorem tb_1080 : Cond.instanceMethod yX11_layRest ∈ q_tb := q_in 1080 (by decide +kernel) rfl
theorem tb_47 : Cond.selects RX11 yX11_layRest yX11_layRest ∈ q_tb := q_in 47 (by decide +kernel) rfl
theorem tb_1119 : Cond.code yX11_comesAgain cX11_comesAgain 6 (some .boolean) ∈ q_tb := q_in 1119 (by decide +kernel) rfl
theorem tb_1116 : Cond.methodLink RX11 184 yX11_comesAgain ∈ q_tb := q_in 1116 (by decide +kernel) rfl
theorem tb_1118 : Cond.instanceMethod yX11_comesAgain ∈ q_tb := q_in 1118 (by decide +kernel) rfl
theorem tb_54 : Cond.selects RX11 yX11_comesAgain yX11_comesAgain ∈ q_tb := q_in 54 (by decide +kernel) rfl
theorem tb_1115 : Cond.code yX11_lapOf cX11_lapOf 3 (some .int) ∈ q_tb := q_in 1115 (by decide +kernel) rfl
theorem tb_1112 : Cond.methodLink RX11 187 yX11_lapOf ∈ q_tb := q_in 1112 (by decide +kernel) rfl
theorem tb_1114 : Cond.instanceMethod yX11_lapOf ∈ q_tb := q_in 1114 (by decide +kernel) rfl
theorem tb_53 : Cond.selects RX11 yX11_lapOf yX11_lapOf ∈ q_tb := q_in 53 (by decide +kernel) rfl
theorem tb_1123 : Cond.code yX11_headOf cX11_headOf 4 (some .int) ∈ q_tb := q_in 1123 (by decide +kernel) rfl
theorem tb_1120 : Cond.methodLink RX11 190 yX11_headOf ∈ q_tb := q_in 1120 (by decide +kernel) rfl
theorem tb_1122 : Cond.instanceMethod yX11_headOf ∈ q_tb := q_in 1122 (by decide +kernel) rfl
theorem tb_55 : Cond.selects RX11 yX11_headOf yX11_headOf ∈ q_tb := q_in 55 (by decide +kernel) rfl
theorem tb_1019 : Cond.code yX11_isRow cX11_isRow 2 (some .boolean) ∈ q_tb := q_in 1019 (by decide +kernel) rfl
theorem tb_1016 : Cond.methodLink RX11 193 yX11_isRow ∈ q_tb := q_in 1016 (by decide +kernel) rfl
theorem tb_1018 : Cond.instanceMethod yX11_isRow ∈ q_tb := q_in 1018 (by decide +kernel) rfl
theorem tb_37 : Cond.selects RX11 yX11_isRow yX11_isRow ∈ q_tb := q_in 37 (by decide +kernel) rfl
theorem tb_1020 : Cond.constant RX11 196 (2000000101) ∈ q_tb := q_in 1020 (by decide +kernel) rfl
theorem tb_1027 : Cond.code yX11_isSuch cX11_isSuch 2 (some .boolean) ∈ q_tb := q_in 1027 (by decide +kernel) rfl
theorem tb_1025 : Cond.methodLink RX11 197 yX11_isSuch ∈ q_tb := q_in 1025 (by decide +kernel) rfl
theorem tb_1026 : Cond.static yX11_isSuch ∈ q_tb := q_in 1026 (by decide +kernel) rfl
theorem tb_1035 : Cond.code yX11_termOf cX11_termOf 3 (some .int) ∈ q_tb := q_in 1035 (by decide +kernel) rfl
theorem tb_1032 : Cond.methodLink RX11 201 yX11_termOf ∈ q_tb := q_in 1032 (by decide +kernel) rfl
theorem tb_1034 : Cond.instanceMethod yX11_termOf ∈ q_tb := q_in 1034 (by decide +kernel) rfl
theorem tb_38 : Cond.selects RX11 yX11_termOf yX11_termOf ∈ q_tb := q_in 38 (by decide +kernel) rfl
theorem tb_1077 : Cond.code yX11_layRests cX11_layRests 3 (none) ∈ q_tb := q_in 1077 (by decide +kernel) rfl
theorem tb_1074 : Cond.methodLink RX11 204 yX11_layRests ∈ q_tb := q_in 1074 (by decide +kernel) rfl
theorem tb_1076 : Cond.instanceMethod yX11_layRests ∈ q_tb := q_in 1076 (by decide +kernel) rfl
theorem tb_46 : Cond.selects RX11 yX11_layRests yX11_layRests ∈ q_tb := q_in 46 (by decide +kernel) rfl
theorem tb_1073 : Cond.code yX11_byNow cX11_byNow 4 (some .int) ∈ q_tb := q_in 1073 (by decide +kernel) rfl
theorem tb_1070 : Cond.methodLink RX11 207 yX11_byNow ∈ q_tb := q_in 1070 (by decide +kernel) rfl
theorem tb_1072 : Cond.instanceMethod yX11_byNow ∈ q_tb := q_in 1072 (by decide +kernel) rfl
theorem tb_45 : Cond.selects RX11 yX11_byNow yX11_byNow ∈ q_tb := q_in 45 (by decide +kernel) rfl
theorem tb_1127 : Cond.code yX11_zerosOf cX11_zerosOf 6 (some .int) ∈ q_tb := q_in 1127 (by decide +kernel) rfl
theorem tb_1124 : Cond.methodLink RX11 210 yX11_zerosOf ∈ q_tb := q_in 1124 (by decide +kernel) rfl
theorem tb_1126 : Cond.instanceMethod yX11_zerosOf ∈ q_tb := q_in 1126 (by decide +kernel) rfl
theorem tb_56 : Cond.selects RX11 yX11_zerosOf yX11_zerosOf ∈ q_tb := q_in 56 (by decide +kernel) rfl
theorem tb_1111 : Cond.code yX11_lapNow cX11_lapNow 4 (some .int) ∈ q_tb := q_in 1111 (by decide +kernel) rfl
theorem tb_1108 : Cond.methodLink RX11 213 yX11_lapNow ∈ q_tb := q_in 1108 (by decide +kernel) rfl
theorem tb_1110 : Cond.instanceMethod yX11_lapNow ∈ q_tb := q_in 1110 (by decide +kernel) rfl
theorem tb_52 : Cond.selects RX11 yX11_lapNow yX11_lapNow ∈ q_tb := q_in 52 (by decide +kernel) rfl
theorem tb_1146 : Cond.code yX11_layTable cX11_layTable 5 (none) ∈ q_tb := q_in 1146 (by decide +kernel) rfl
theorem tb_1143 : Cond.methodLink RX11 216 yX11_layTable ∈ q_tb := q_in 1143 (by decide +kernel) rfl
theorem tb_1145 : Cond.instanceMethod yX11_layTable ∈ q_tb := q_in 1145 (by decide +kernel) rfl
theorem tb_59 : Cond.selects RX11 yX11_layTable yX11_layTable ∈ q_tb := q_in 59 (by decide +kernel) rfl
theorem tb_1150 : Cond.code yX11_lineWith cX11_lineWith 5 (some .int) ∈ q_tb := q_in 1150 (by decide +kernel) rfl
theorem tb_1147 : Cond.methodLink RX11 219 yX11_lineWith ∈ q_tb := q_in 1147 (by decide +kernel) rfl
theorem tb_1149 : Cond.instanceMethod yX11_lineWith ∈ q_tb := q_in 1149 (by decide +kernel) rfl
theorem tb_60 : Cond.selects RX11 yX11_lineWith yX11_lineWith ∈ q_tb := q_in 60 (by decide +kernel) rfl
theorem tb_1154 : Cond.code yX11_swapLines cX11_swapLines 5 (none) ∈ q_tb := q_in 1154 (by decide +kernel) rfl
theorem tb_1151 : Cond.methodLink RX11 222 yX11_swapLines ∈ q_tb := q_in 1151 (by decide +kernel) rfl
theorem tb_1153 : Cond.instanceMethod yX11_swapLines ∈ q_tb := q_in 1153 (by decide +kernel) rfl
theorem tb_61 : Cond.selects RX11 yX11_swapLines yX11_swapLines ∈ q_tb := q_in 61 (by decide +kernel) rfl
theorem tb_1158 : Cond.code yX11_makeOne cX11_makeOne 6 (none) ∈ q_tb := q_in 1158 (by decide +kernel) rfl
theorem tb_1155 : Cond.methodLink RX11 225 yX11_makeOne ∈ q_tb := q_in 1155 (by decide +kernel) rfl
theorem tb_1157 : Cond.instanceMethod yX11_makeOne ∈ q_tb := q_in 1157 (by decide +kernel) rfl
theorem tb_62 : Cond.selects RX11 yX11_makeOne yX11_makeOne ∈ q_tb := q_in 62 (by decide +kernel) rfl
theorem tb_1162 : Cond.code yX11_takeAway cX11_takeAway 7 (none) ∈ q_tb := q_in 1162 (by decide +kernel) rfl
theorem tb_1159 : Cond.methodLink RX11 229 yX11_takeAway ∈ q_tb := q_in 1159 (by decide +kernel) rfl
theorem tb_1161 : Cond.instanceMethod yX11_takeAway ∈ q_tb := q_in 1161 (by decide +kernel) rfl
theorem tb_63 : Cond.selects RX11 yX11_takeAway yX11_takeAway ∈ q_tb := q_in 63 (by decide +kernel) rfl
theorem tb_1166 : Cond.code yX11_isMet cX11_isMet 7 (some .boolean) ∈ q_tb := q_in 1166 (by decide +kernel) rfl
theorem tb_1163 : Cond.methodLink RX11 233 yX11_isMet ∈ q_tb := q_in 1163 (by decide +kernel) rfl
theorem tb_1165 : Cond.instanceMethod yX11_isMet ∈ q_tb := q_in 1165 (by decide +kernel) rfl
theorem tb_64 : Cond.selects RX11 yX11_isMet yX11_isMet ∈ q_tb := q_in 64 (by decide +kernel) rfl
theorem tb_1142 : Cond.code yX11_isSolved cX11_isSolved 9 (some .boolean) ∈ q_tb := q_in 1142 (by decide +kernel) rfl
theorem tb_1139 : Cond.methodLink RX11 236 yX11_isSolved ∈ q_tb := q_in 1139 (by decide +kernel) rfl
theorem tb_1141 : Cond.instanceMethod yX11_isSolved ∈ q_tb := q_in 1141 (by decide +kernel) rfl
theorem tb_58 : Cond.selects RX11 yX11_isSolved yX11_isSolved ∈ q_tb := q_in 58 (by decide +kernel) rfl
theorem tb_1134 : Cond.code yX11_isPrime cX11_isPrime 1 (some .boolean) ∈ q_tb := q_in 1134 (by decide +kernel) rfl
theorem tb_1132 : Cond.methodLink RX11 239 yX11_isPrime ∈ q_tb := q_in 1132 (by decide +kernel) rfl
theorem tb_1133 : Cond.static yX11_isPrime ∈ q_tb := q_in 1133 (by decide +kernel) rfl
theorem tb_1138 : Cond.code yX11_leastNow cX11_leastNow 5 (some .int) ∈ q_tb := q_in 1138 (by decide +kernel) rfl
theorem tb_1135 : Cond.methodLink RX11 242 yX11_leastNow ∈ q_tb := q_in 1135 (by decide +kernel) rfl
theorem tb_1137 : Cond.instanceMethod yX11_leastNow ∈ q_tb := q_in 1137 (by decide +kernel) rfl
theorem tb_57 : Cond.selects RX11 yX11_leastNow yX11_leastNow ∈ q_tb := q_in 57 (by decide +kernel) rfl
theorem tb_1174 : Cond.code yX11_isTold cX11_isTold 2 (some .boolean) ∈ q_tb := q_in 1174 (by decide +kernel) rfl
theorem tb_1171 : Cond.methodLink RX11 245 yX11_isTold ∈ q_tb := q_in 1171 (by decide +kernel) rfl
theorem tb_1173 : Cond.instanceMethod yX11_isTold ∈ q_tb := q_in 1173 (by decide +kernel) rfl
theorem tb_65 : Cond.selects RX11 yX11_isTold yX11_isTold ∈ q_tb := q_in 65 (by decide +kernel) rfl
theorem tb_1193 : Cond.code yX11_powers cX11_powers 7 (some .int) ∈ q_tb := q_in 1193 (by decide +kernel) rfl
theorem tb_1191 : Cond.methodLink RX11 248 yX11_powers ∈ q_tb := q_in 1191 (by decide +kernel) rfl
theorem tb_1192 : Cond.static yX11_powers ∈ q_tb := q_in 1192 (by decide +kernel) rfl
theorem tb_1196 : Cond.code yX11_power cX11_power 4 (some .int) ∈ q_tb := q_in 1196 (by decide +kernel) rfl
theorem tb_1194 : Cond.methodLink RX11 251 yX11_power ∈ q_tb := q_in 1194 (by decide +kernel) rfl
theorem tb_1195 : Cond.static yX11_power ∈ q_tb := q_in 1195 (by decide +kernel) rfl
theorem tb_1186 : Cond.code yX11_bothRule cX11_bothRule 10 (some .int) ∈ q_tb := q_in 1186 (by decide +kernel) rfl
theorem tb_1183 : Cond.methodLink RX11 254 yX11_bothRule ∈ q_tb := q_in 1183 (by decide +kernel) rfl
theorem tb_1185 : Cond.instanceMethod yX11_bothRule ∈ q_tb := q_in 1185 (by decide +kernel) rfl
theorem tb_68 : Cond.selects RX11 yX11_bothRule yX11_bothRule ∈ q_tb := q_in 68 (by decide +kernel) rfl
theorem tb_1190 : Cond.code yX11_twoRule cX11_twoRule 7 (some .int) ∈ q_tb := q_in 1190 (by decide +kernel) rfl
theorem tb_1187 : Cond.methodLink RX11 257 yX11_twoRule ∈ q_tb := q_in 1187 (by decide +kernel) rfl
theorem tb_1189 : Cond.instanceMethod yX11_twoRule ∈ q_tb := q_in 1189 (by decide +kernel) rfl
theorem tb_69 : Cond.selects RX11 yX11_twoRule yX11_twoRule ∈ q_tb := q_in 69 (by decide +kernel) rfl
theorem tb_1178 : Cond.code yX11_arePartsTold cX11_arePartsTold 3 (some .boolean) ∈ q_tb := q_in 1178 (by decide +kernel) rfl
theorem tb_1175 : Cond.methodLink RX11 260 yX11_arePartsTold ∈ q_tb := q_in 1175 (by decide +kernel) rfl
theorem tb_1177 : Cond.instanceMethod yX11_arePartsTold ∈ q_tb := q_in 1177 (by decide +kernel) rfl
theorem tb_66 : Cond.selects RX11 yX11_arePartsTold yX11_arePartsTold ∈ q_tb := q_in 66 (by decide +kernel) rfl
theorem tb_1182 : Cond.code yX11_ruleNow cX11_ruleNow 4 (some .int) ∈ q_tb := q_in 1182 (by decide +kernel) rfl
theorem tb_1179 : Cond.methodLink RX11 263 yX11_ruleNow ∈ q_tb := q_in 1179 (by decide +kernel) rfl
theorem tb_1181 : Cond.instanceMethod yX11_ruleNow ∈ q_tb := q_in 1181 (by decide +kernel) rfl
theorem tb_67 : Cond.selects RX11 yX11_ruleNow yX11_ruleNow ∈ q_tb := q_in 67 (by decide +kernel) rfl
theorem tb_1206 : Cond.code yX11_spread cX11_spread 2 (some .int) ∈ q_tb := q_in 1206 (by decide +kernel) rfl
theorem tb_1204 : Cond.methodLink RX11 266 yX11_spread ∈ q_tb := q_in 1204 (by decide +kernel) rfl
theorem tb_1205 : Cond.static yX11_spread ∈ q_tb := q_in 1205 (by decide +kernel) rfl
theorem tb_1209 : Cond.code yX11_wholeRoot cX11_wholeRoot 2 (some .int) ∈ q_tb := q_in 1209 (by decide +kernel) rfl
theorem tb_1207 : Cond.methodLink RX11 269 yX11_wholeRoot ∈ q_tb := q_in 1207 (by decide +kernel) rfl
theorem tb_1208 : Cond.static yX11_wholeRoot ∈ q_tb := q_in 1208 (by decide +kernel) rfl
theorem tb_1212 : Cond.code yX11_degenerate cX11_degenerate 9 (some .int) ∈ q_tb := q_in 1212 (by decide +kernel) rfl
theorem tb_1210 : Cond.methodLink RX11 272 yX11_degenerate ∈ q_tb := q_in 1210 (by decide +kernel) rfl
theorem tb_1211 : Cond.static yX11_degenerate ∈ q_tb := q_in 1211 (by decide +kernel) rfl
theorem tb_1203 : Cond.code yX11_rootsNow cX11_rootsNow 5 (some .int) ∈ q_tb := q_in 1203 (by decide +kernel) rfl
theorem tb_1201 : Cond.methodLink RX11 275 yX11_rootsNow ∈ q_tb := q_in 1201 (by decide +kernel) rfl
theorem tb_1202 : Cond.static yX11_rootsNow ∈ q_tb := q_in 1202 (by decide +kernel) rfl
theorem tb_1220 : Cond.code yX11_noughtsOf cX11_noughtsOf 4 (some .int) ∈ q_tb := q_in 1220 (by decide +kernel) rfl
theorem tb_1217 : Cond.methodLink RX11 278 yX11_noughtsOf ∈ q_tb := q_in 1217 (by decide +kernel) rfl
theorem tb_1219 : Cond.instanceMethod yX11_noughtsOf ∈ q_tb := q_in 1219 (by decide +kernel) rfl
theorem tb_70 : Cond.selects RX11 yX11_noughtsOf yX11_noughtsOf ∈ q_tb := q_in 70 (by decide +kernel) rfl
theorem tb_1236 : Cond.code yX11_layOpen cX11_layOpen 4 (none) ∈ q_tb := q_in 1236 (by decide +kernel) rfl
theorem tb_1233 : Cond.methodLink RX11 281 yX11_layOpen ∈ q_tb := q_in 1233 (by decide +kernel) rfl
theorem tb_1235 : Cond.instanceMethod yX11_layOpen ∈ q_tb := q_in 1235 (by decide +kernel) rfl
theorem tb_72 : Cond.selects RX11 yX11_layOpen yX11_layOpen ∈ q_tb := q_in 72 (by decide +kernel) rfl
theorem tb_1232 : Cond.code yX11_openNow cX11_openNow 6 (some .int) ∈ q_tb := q_in 1232 (by decide +kernel) rfl
theorem tb_1229 : Cond.methodLink RX11 284 yX11_openNow ∈ q_tb := q_in 1229 (by decide +kernel) rfl
theorem tb_1231 : Cond.instanceMethod yX11_openNow ∈ q_tb := q_in 1231 (by decide +kernel) rfl
theorem tb_71 : Cond.selects RX11 yX11_openNow yX11_openNow ∈ q_tb := q_in 71 (by decide +kernel) rfl
theorem tb_1244 : Cond.code yX11_meetsNow cX11_meetsNow 6 (some .int) ∈ q_tb := q_in 1244 (by decide +kernel) rfl
theorem tb_1241 : Cond.methodLink RX11 287 yX11_meetsNow ∈ q_tb := q_in 1241 (by decide +kernel) rfl
theorem tb_1243 : Cond.instanceMethod yX11_meetsNow ∈ q_tb := q_in 1243 (by decide +kernel) rfl
theorem tb_73 : Cond.selects RX11 yX11_meetsNow yX11_meetsNow ∈ q_tb := q_in 73 (by decide +kernel) rfl
theorem tb_1262 : Cond.code yX11_lay cX11_lay 7 (none) ∈ q_tb := q_in 1262 (by decide +kernel) rfl
theorem tb_1259 : Cond.methodLink RX11 290 yX11_lay ∈ q_tb := q_in 1259 (by decide +kernel) rfl
theorem tb_1261 : Cond.instanceMethod yX11_lay ∈ q_tb := q_in 1261 (by decide +kernel) rfl
theorem tb_75 : Cond.selects RX11 yX11_lay yX11_lay ∈ q_tb := q_in 75 (by decide +kernel) rfl
theorem tb_1251 : Cond.code yX11_isFew cX11_isFew 1 (some .boolean) ∈ q_tb := q_in 1251 (by decide +kernel) rfl
theorem tb_1249 : Cond.methodLink RX11 294 yX11_isFew ∈ q_tb := q_in 1249 (by decide +kernel) rfl
theorem tb_1250 : Cond.static yX11_isFew ∈ q_tb := q_in 1250 (by decide +kernel) rfl
theorem tb_1254 : Cond.code yX11_isMany cX11_isMany 1 (some .boolean) ∈ q_tb := q_in 1254 (by decide +kernel) rfl
theorem tb_1252 : Cond.methodLink RX11 297 yX11_isMany ∈ q_tb := q_in 1252 (by decide +kernel) rfl
theorem tb_1253 : Cond.static yX11_isMany ∈ q_tb := q_in 1253 (by decide +kernel) rfl
theorem tb_1258 : Cond.code yX11_comes cX11_comes 6 (some .int) ∈ q_tb := q_in 1258 (by decide +kernel) rfl
theorem tb_1255 : Cond.methodLink RX11 300 yX11_comes ∈ q_tb := q_in 1255 (by decide +kernel) rfl
theorem tb_1257 : Cond.instanceMethod yX11_comes ∈ q_tb := q_in 1257 (by decide +kernel) rfl
theorem tb_74 : Cond.selects RX11 yX11_comes yX11_comes ∈ q_tb := q_in 74 (by decide +kernel) rfl
theorem tb_1302 : Cond.code yX11_isPower cX11_isPower 2 (some .boolean) ∈ q_tb := q_in 1302 (by decide +kernel) rfl
theorem tb_1299 : Cond.methodLink RX11 304 yX11_isPower ∈ q_tb := q_in 1299 (by decide +kernel) rfl
theorem tb_1301 : Cond.instanceMethod yX11_isPower ∈ q_tb := q_in 1301 (by decide +kernel) rfl
theorem tb_78 : Cond.selects RX11 yX11_isPower yX11_isPower ∈ q_tb := q_in 78 (by decide +kernel) rfl
theorem tb_1298 : Cond.code yX11_powersIn cX11_powersIn 4 (some .int) ∈ q_tb := q_in 1298 (by decide +kernel) rfl
theorem tb_1295 : Cond.methodLink RX11 307 yX11_powersIn ∈ q_tb := q_in 1295 (by decide +kernel) rfl
theorem tb_1297 : Cond.instanceMethod yX11_powersIn ∈ q_tb := q_in 1297 (by decide +kernel) rfl
theorem tb_77 : Cond.selects RX11 yX11_powersIn yX11_powersIn ∈ q_tb := q_in 77 (by decide +kernel) rfl
theorem tb_1294 : Cond.code yX11_canBe cX11_canBe 4 (some .boolean) ∈ q_tb := q_in 1294 (by decide +kernel) rfl
theorem tb_1291 : Cond.methodLink RX11 310 yX11_canBe ∈ q_tb := q_in 1291 (by decide +kernel) rfl
theorem tb_1293 : Cond.instanceMethod yX11_canBe ∈ q_tb := q_in 1293 (by decide +kernel) rfl
theorem tb_76 : Cond.selects RX11 yX11_canBe yX11_canBe ∈ q_tb := q_in 76 (by decide +kernel) rfl
theorem tb_1306 : Cond.code yX11_easedC cX11_easedC 3 (some .int) ∈ q_tb := q_in 1306 (by decide +kernel) rfl
theorem tb_1303 : Cond.methodLink RX11 313 yX11_easedC ∈ q_tb := q_in 1303 (by decide +kernel) rfl
theorem tb_1305 : Cond.instanceMethod yX11_easedC ∈ q_tb := q_in 1305 (by decide +kernel) rfl
theorem tb_79 : Cond.selects RX11 yX11_easedC yX11_easedC ∈ q_tb := q_in 79 (by decide +kernel) rfl
theorem tb_1310 : Cond.code yX11_easedD cX11_easedD 5 (some .int) ∈ q_tb := q_in 1310 (by decide +kernel) rfl
theorem tb_1307 : Cond.methodLink RX11 316 yX11_easedD ∈ q_tb := q_in 1307 (by decide +kernel) rfl
theorem tb_1309 : Cond.instanceMethod yX11_easedD ∈ q_tb := q_in 1309 (by decide +kernel) rfl
theorem tb_80 : Cond.selects RX11 yX11_easedD yX11_easedD ∈ q_tb := q_in 80 (by decide +kernel) rfl
theorem tb_859 : Cond.fieldLink RX11 319 "AheadRowsModel" "given" "I" ∈ q_tb := q_in 859 (by decide +kernel) rfl
theorem tb_878 : Cond.fieldLink RX11 322 "AheadRowsModel" "guessU" "I" ∈ q_tb := q_in 878 (by decide +kernel) rfl
theorem tb_879 : Cond.fieldLink RX11 325 "AheadRowsModel" "guessV" "I" ∈ q_tb := q_in 879 (by decide +kernel) rfl
theorem tb_1334 : Cond.code yX11_isGuess cX11_isGuess 7 (some .boolean) ∈ q_tb := q_in 1334 (by decide +kernel) rfl
theorem tb_1331 : Cond.methodLink RX11 328 yX11_isGuess ∈ q_tb := q_in 1331 (by decide +kernel) rfl
theorem tb_1333 : Cond.instanceMethod yX11_isGuess ∈ q_tb := q_in 1333 (by decide +kernel) rfl
theorem tb_83 : Cond.selects RX11 yX11_isGuess yX11_isGuess ∈ q_tb := q_in 83 (by decide +kernel) rfl
theorem tb_1330 : Cond.code yX11_guessNow cX11_guessNow 3 (some .int) ∈ q_tb := q_in 1330 (by decide +kernel) rfl
theorem tb_1327 : Cond.methodLink RX11 331 yX11_guessNow ∈ q_tb := q_in 1327 (by decide +kernel) rfl
theorem tb_1329 : Cond.instanceMethod yX11_guessNow ∈ q_tb := q_in 1329 (by decide +kernel) rfl
theorem tb_82 : Cond.selects RX11 yX11_guessNow yX11_guessNow ∈ q_tb := q_in 82 (by decide +kernel) rfl
theorem tb_1326 : Cond.code yX11_guessTold cX11_guessTold 3 (some .int) ∈ q_tb := q_in 1326 (by decide +kernel) rfl
theorem tb_1323 : Cond.methodLink RX11 334 yX11_guessTold ∈ q_tb := q_in 1323 (by decide +kernel) rfl
theorem tb_1325 : Cond.instanceMethod yX11_guessTold ∈ q_tb := q_in 1325 (by decide +kernel) rfl
theorem tb_81 : Cond.selects RX11 yX11_guessTold yX11_guessTold ∈ q_tb := q_in 81 (by decide +kernel) rfl
theorem tb_1351 : Cond.constantLong RX11 337 (1103515245) ∈ q_tb := q_in 1351 (by decide +kernel) rfl
theorem tb_880 : Cond.fieldLink RX11 339 "AheadRowsModel" "seedNow" "J" ∈ q_tb := q_in 880 (by decide +kernel) rfl
theorem tb_1352 : Cond.constantLong RX11 343 (12345) ∈ q_tb := q_in 1352 (by decide +kernel) rfl
theorem tb_1353 : Cond.constantLong RX11 345 (2147483648) ∈ q_tb := q_in 1353 (by decide +kernel) rfl
theorem tb_1354 : Cond.constantLong RX11 347 (65536) ∈ q_tb := q_in 1354 (by decide +kernel) rfl
theorem tb_1350 : Cond.code yX11_drawOf cX11_drawOf 2 (some .int) ∈ q_tb := q_in 1350 (by decide +kernel) rfl
theorem tb_1347 : Cond.methodLink RX11 349 yX11_drawOf ∈ q_tb := q_in 1347 (by decide +kernel) rfl
theorem tb_1349 : Cond.instanceMethod yX11_drawOf ∈ q_tb := q_in 1349 (by decide +kernel) rfl
theorem tb_85 : Cond.selects RX11 yX11_drawOf yX11_drawOf ∈ q_tb := q_in 85 (by decide +kernel) rfl
theorem tb_1346 : Cond.code yX11_drawnNow cX11_drawnNow 8 (some .int) ∈ q_tb := q_in 1346 (by decide +kernel) rfl
theorem tb_1343 : Cond.methodLink RX11 352 yX11_drawnNow ∈ q_tb := q_in 1343 (by decide +kernel) rfl
theorem tb_1345 : Cond.instanceMethod yX11_drawnNow ∈ q_tb := q_in 1345 (by decide +kernel) rfl
theorem tb_84 : Cond.selects RX11 yX11_drawnNow yX11_drawnNow ∈ q_tb := q_in 84 (by decide +kernel) rfl
theorem tb_882 : Cond.fieldLink RX11 355 "AheadRowsModel" "keptRows" "I" ∈ q_tb := q_in 882 (by decide +kernel) rfl
theorem tb_883 : Cond.fieldLink RX11 358 "AheadRowsModel" "keptGiven" "I" ∈ q_tb := q_in 883 (by decide +kernel) rfl
theorem tb_1361 : Cond.code yX11_copy cX11_copy 4 (none) ∈ q_tb := q_in 1361 (by decide +kernel) rfl
theorem tb_1359 : Cond.methodLink RX11 361 yX11_copy ∈ q_tb := q_in 1359 (by decide +kernel) rfl
theorem tb_1360 : Cond.static yX11_copy ∈ q_tb := q_in 1360 (by decide +kernel) rfl
theorem tb_1377 : Cond.code yX11_toldMany cX11_toldMany 4 (some .int) ∈ q_tb := q_in 1377 (by decide +kernel) rfl
theorem tb_1374 : Cond.methodLink RX11 365 yX11_toldMany ∈ q_tb := q_in 1374 (by decide +kernel) rfl
theorem tb_1376 : Cond.instanceMethod yX11_toldMany ∈ q_tb := q_in 1376 (by decide +kernel) rfl
theorem tb_87 : Cond.selects RX11 yX11_toldMany yX11_toldMany ∈ q_tb := q_in 87 (by decide +kernel) rfl
theorem tb_1373 : Cond.code yX11_howMany cX11_howMany 2 (some .int) ∈ q_tb := q_in 1373 (by decide +kernel) rfl
theorem tb_1370 : Cond.methodLink RX11 369 yX11_howMany ∈ q_tb := q_in 1370 (by decide +kernel) rfl
theorem tb_1372 : Cond.instanceMethod yX11_howMany ∈ q_tb := q_in 1372 (by decide +kernel) rfl
theorem tb_86 : Cond.selects RX11 yX11_howMany yX11_howMany ∈ q_tb := q_in 86 (by decide +kernel) rfl
theorem tb_1391 : Cond.constantLong RX11 372 (31) ∈ q_tb := q_in 1391 (by decide +kernel) rfl
theorem tb_887 : Cond.fieldLink RX11 374 "AheadRowsModel" "h" "J" ∈ q_tb := q_in 887 (by decide +kernel) rfl
theorem tb_1390 : Cond.code yX11_mix cX11_mix 3 (none) ∈ q_tb := q_in 1390 (by decide +kernel) rfl
theorem tb_1387 : Cond.methodLink RX11 377 yX11_mix ∈ q_tb := q_in 1387 (by decide +kernel) rfl
theorem tb_1389 : Cond.instanceMethod yX11_mix ∈ q_tb := q_in 1389 (by decide +kernel) rfl
theorem tb_89 : Cond.selects RX11 yX11_mix yX11_mix ∈ q_tb := q_in 89 (by decide +kernel) rfl
theorem tb_1392 : Cond.constant RX11 381 (1000000) ∈ q_tb := q_in 1392 (by decide +kernel) rfl
theorem tb_1382 : Cond.constantLong RX11 382 (1493) ∈ q_tb := q_in 1382 (by decide +kernel) rfl
theorem tb_1386 : Cond.code yX11_mixRow cX11_mixRow 3 (none) ∈ q_tb := q_in 1386 (by decide +kernel) rfl
theorem tb_1383 : Cond.methodLink RX11 384 yX11_mixRow ∈ q_tb := q_in 1383 (by decide +kernel) rfl
theorem tb_1385 : Cond.instanceMethod yX11_mixRow ∈ q_tb := q_in 1385 (by decide +kernel) rfl
theorem tb_88 : Cond.selects RX11 yX11_mixRow yX11_mixRow ∈ q_tb := q_in 88 (by decide +kernel) rfl
theorem tb_236 : Cond.methodLink RX0 3 objectInit ∈ q_tb := q_in 236 (by decide +kernel) rfl
theorem tb_237 : Cond.fieldLink RX0 9 "AheadRows$Complexity" "connection" "[I" ∈ q_tb := q_in 237 (by decide +kernel) rfl
theorem tb_238 : Cond.fieldLink RX0 13 "AheadRows$Complexity" "former" "[I" ∈ q_tb := q_in 238 (by decide +kernel) rfl
theorem tb_239 : Cond.fieldLink RX0 16 "AheadRows$Complexity" "spare" "[I" ∈ q_tb := q_in 239 (by decide +kernel) rfl
theorem tb_240 : Cond.fieldLink RX0 19 "AheadRows$Complexity" "prime" "I" ∈ q_tb := q_in 240 (by decide +kernel) rfl
theorem tb_241 : Cond.fieldLink RX0 23 "AheadRows$Complexity" "length" "I" ∈ q_tb := q_in 241 (by decide +kernel) rfl
theorem tb_514 : Cond.code yJ9_floorMod_7cf53 cJ9_floorMod_7cf53 3 (some .int) ∈ q_tb := q_in 514 (by decide +kernel) rfl
theorem tb_94 : Cond.initialized RJ9 ∈ q_tb := q_in 94 (by decide +kernel) rfl
theorem tb_586 : Cond.methodLink RX0 26 yJ9_floorMod_7cf53 ∈ q_tb := q_in 586 (by decide +kernel) rfl
theorem tb_513 : Cond.static yJ9_floorMod_7cf53 ∈ q_tb := q_in 513 (by decide +kernel) rfl
theorem tb_570 : Cond.code yX0_begin cX0_begin 3 (none) ∈ q_tb := q_in 570 (by decide +kernel) rfl
theorem tb_567 : Cond.methodLink RX0 32 yX0_begin ∈ q_tb := q_in 567 (by decide +kernel) rfl
theorem tb_569 : Cond.instanceMethod yX0_begin ∈ q_tb := q_in 569 (by decide +kernel) rfl
theorem tb_15 : Cond.selects RX0 yX0_begin yX0_begin ∈ q_tb := q_in 15 (by decide +kernel) rfl
theorem tb_575 : Cond.code yX0_missAt cX0_missAt 5 (some .int) ∈ q_tb := q_in 575 (by decide +kernel) rfl
theorem tb_572 : Cond.methodLink RX0 36 yX0_missAt ∈ q_tb := q_in 572 (by decide +kernel) rfl
theorem tb_574 : Cond.instanceMethod yX0_missAt ∈ q_tb := q_in 574 (by decide +kernel) rfl
theorem tb_16 : Cond.selects RX0 yX0_missAt yX0_missAt ∈ q_tb := q_in 16 (by decide +kernel) rfl
theorem tb_577 : Cond.methodLink RX0 40 arraycopyName ∈ q_tb := q_in 577 (by decide +kernel) rfl
theorem tb_581 : Cond.code yX0_inverse cX0_inverse 3 (some .int) ∈ q_tb := q_in 581 (by decide +kernel) rfl
theorem tb_578 : Cond.methodLink RX0 46 yX0_inverse ∈ q_tb := q_in 578 (by decide +kernel) rfl
theorem tb_580 : Cond.instanceMethod yX0_inverse ∈ q_tb := q_in 580 (by decide +kernel) rfl
theorem tb_17 : Cond.selects RX0 yX0_inverse yX0_inverse ∈ q_tb := q_in 17 (by decide +kernel) rfl
theorem tb_585 : Cond.code yX0_mend cX0_mend 4 (none) ∈ q_tb := q_in 585 (by decide +kernel) rfl
theorem tb_582 : Cond.methodLink RX0 50 yX0_mend ∈ q_tb := q_in 582 (by decide +kernel) rfl
theorem tb_584 : Cond.instanceMethod yX0_mend ∈ q_tb := q_in 584 (by decide +kernel) rfl
theorem tb_18 : Cond.selects RX0 yX0_mend yX0_mend ∈ q_tb := q_in 18 (by decide +kernel) rfl
theorem tb_576 : Cond.methodLink RX0 60 yX1_at ∈ q_tb := q_in 576 (by decide +kernel) rfl
theorem tb_205 : Cond.methodLink RX1 3 objectInit ∈ q_tb := q_in 205 (by decide +kernel) rfl
theorem tb_214 : Cond.fieldLink RX1 13 "AheadRows$Cycle" "modulus" "I" ∈ q_tb := q_in 214 (by decide +kernel) rfl
theorem tb_212 : Cond.fieldLink RX1 19 "AheadRows$Cycle" "ROUNDS" "[I" ∈ q_tb := q_in 212 (by decide +kernel) rfl
theorem tb_215 : Cond.fieldLink RX1 23 "AheadRows$Cycle" "round" "I" ∈ q_tb := q_in 215 (by decide +kernel) rfl
theorem tb_216 : Cond.fieldLink RX1 26 "AheadRows$Cycle" "values" "[I" ∈ q_tb := q_in 216 (by decide +kernel) rfl
theorem tb_512 : Cond.methodLink RX1 29 yJ9_floorMod_7cf53 ∈ q_tb := q_in 512 (by decide +kernel) rfl
theorem tb_519 : Cond.methodLink RX1 35 yX1_at ∈ q_tb := q_in 519 (by decide +kernel) rfl
theorem tb_547 : Cond.code yX1_repeatsAfter cX1_repeatsAfter 3 (some .boolean) ∈ q_tb := q_in 547 (by decide +kernel) rfl
theorem tb_544 : Cond.methodLink RX1 39 yX1_repeatsAfter ∈ q_tb := q_in 544 (by decide +kernel) rfl
theorem tb_546 : Cond.instanceMethod yX1_repeatsAfter ∈ q_tb := q_in 546 (by decide +kernel) rfl
theorem tb_14 : Cond.selects RX1 yX1_repeatsAfter yX1_repeatsAfter ∈ q_tb := q_in 14 (by decide +kernel) rfl
theorem tb_682 : Cond.constant RX1 42 (2000000001) ∈ q_tb := q_in 682 (by decide +kernel) rfl
theorem tb_169 : Cond.methodLink RX2 1 objectInit ∈ q_tb := q_in 169 (by decide +kernel) rfl
theorem tb_170 : Cond.fieldLink RX2 7 "AheadRows$Explanation" "degree" "I" ∈ q_tb := q_in 170 (by decide +kernel) rfl
theorem tb_171 : Cond.fieldLink RX2 13 "AheadRows$Explanation" "u" "I" ∈ q_tb := q_in 171 (by decide +kernel) rfl
theorem tb_172 : Cond.fieldLink RX2 16 "AheadRows$Explanation" "v" "I" ∈ q_tb := q_in 172 (by decide +kernel) rfl
theorem tb_760 : Cond.code yX2_fits cX2_fits 3 (some .boolean) ∈ q_tb := q_in 760 (by decide +kernel) rfl
theorem tb_757 : Cond.methodLink RX2 19 yX2_fits ∈ q_tb := q_in 757 (by decide +kernel) rfl
theorem tb_759 : Cond.instanceMethod yX2_fits ∈ q_tb := q_in 759 (by decide +kernel) rfl
theorem tb_25 : Cond.selects RX2 yX2_fits yX2_fits ∈ q_tb := q_in 25 (by decide +kernel) rfl
theorem tb_766 : Cond.code yX2_isFoundByOne cX2_isFoundByOne 3 (some .boolean) ∈ q_tb := q_in 766 (by decide +kernel) rfl
theorem tb_763 : Cond.methodLink RX2 23 yX2_isFoundByOne ∈ q_tb := q_in 763 (by decide +kernel) rfl
theorem tb_765 : Cond.instanceMethod yX2_isFoundByOne ∈ q_tb := q_in 765 (by decide +kernel) rfl
theorem tb_26 : Cond.selects RX2 yX2_isFoundByOne yX2_isFoundByOne ∈ q_tb := q_in 26 (by decide +kernel) rfl
theorem tb_770 : Cond.code yX2_isFoundByTwo cX2_isFoundByTwo 4 (some .boolean) ∈ q_tb := q_in 770 (by decide +kernel) rfl
theorem tb_767 : Cond.methodLink RX2 26 yX2_isFoundByTwo ∈ q_tb := q_in 767 (by decide +kernel) rfl
theorem tb_769 : Cond.instanceMethod yX2_isFoundByTwo ∈ q_tb := q_in 769 (by decide +kernel) rfl
theorem tb_27 : Cond.selects RX2 yX2_isFoundByTwo yX2_isFoundByTwo ∈ q_tb := q_in 27 (by decide +kernel) rfl
theorem tb_761 : Cond.methodLink RX2 29 yX4_size ∈ q_tb := q_in 761 (by decide +kernel) rfl
theorem tb_762 : Cond.methodLink RX2 35 yX4_at ∈ q_tb := q_in 762 (by decide +kernel) rfl
theorem tb_118 : Cond.methodLink RX3 3 objectInit ∈ q_tb := q_in 118 (by decide +kernel) rfl
theorem tb_119 : Cond.fieldLink RX3 9 "AheadRows$Ledger" "kinds" "[I" ∈ q_tb := q_in 119 (by decide +kernel) rfl
theorem tb_120 : Cond.fieldLink RX3 15 "AheadRows$Ledger" "numbers" "[I" ∈ q_tb := q_in 120 (by decide +kernel) rfl
theorem tb_121 : Cond.fieldLink RX3 18 "AheadRows$Ledger" "size" "I" ∈ q_tb := q_in 121 (by decide +kernel) rfl
theorem tb_389 : Cond.methodLink RX3 22 yX3_holds ∈ q_tb := q_in 389 (by decide +kernel) rfl
theorem tb_395 : Cond.code yX3_isPlace cX3_isPlace 1 (some .boolean) ∈ q_tb := q_in 395 (by decide +kernel) rfl
theorem tb_393 : Cond.methodLink RX3 26 yX3_isPlace ∈ q_tb := q_in 393 (by decide +kernel) rfl
theorem tb_394 : Cond.static yX3_isPlace ∈ q_tb := q_in 394 (by decide +kernel) rfl
theorem tb_353 : Cond.methodLink RX3 29 yX3_write ∈ q_tb := q_in 353 (by decide +kernel) rfl
theorem tb_414 : Cond.methodLink RX3 33 arraycopyName ∈ q_tb := q_in 414 (by decide +kernel) rfl
theorem tb_135 : Cond.methodLink RX4 1 objectInit ∈ q_tb := q_in 135 (by decide +kernel) rfl
theorem tb_138 : Cond.code yJ9_max_7cf53 cJ9_max_7cf53 2 (some .int) ∈ q_tb := q_in 138 (by decide +kernel) rfl
theorem tb_136 : Cond.methodLink RX4 7 yJ9_max_7cf53 ∈ q_tb := q_in 136 (by decide +kernel) rfl
theorem tb_137 : Cond.static yJ9_max_7cf53 ∈ q_tb := q_in 137 (by decide +kernel) rfl
theorem tb_139 : Cond.fieldLink RX4 13 "AheadRows$Numbers" "values" "[I" ∈ q_tb := q_in 139 (by decide +kernel) rfl
theorem tb_140 : Cond.fieldLink RX4 19 "AheadRows$Numbers" "size" "I" ∈ q_tb := q_in 140 (by decide +kernel) rfl
theorem tb_811 : Cond.methodLink RX4 23 yX4_clear ∈ q_tb := q_in 811 (by decide +kernel) rfl
theorem tb_812 : Cond.methodLink RX4 26 yX4_size ∈ q_tb := q_in 812 (by decide +kernel) rfl
theorem tb_813 : Cond.methodLink RX4 29 yX4_at ∈ q_tb := q_in 813 (by decide +kernel) rfl
theorem tb_814 : Cond.methodLink RX4 33 yX4_append ∈ q_tb := q_in 814 (by decide +kernel) rfl
theorem tb_151 : Cond.methodLink RX5 3 objectInit ∈ q_tb := q_in 151 (by decide +kernel) rfl
theorem tb_152 : Cond.classLink RX5 9 RX3 ∈ q_tb := q_in 152 (by decide +kernel) rfl
theorem tb_154 : Cond.fieldLink RX5 12 "AheadRows$Reader" "draft" "LAheadRows$Ledger;" ∈ q_tb := q_in 154 (by decide +kernel) rfl
theorem tb_404 : Cond.methodLink RX5 18 yX5_faultOf ∈ q_tb := q_in 404 (by decide +kernel) rfl
theorem tb_329 : Cond.methodLink RX5 22 yX4_size ∈ q_tb := q_in 329 (by decide +kernel) rfl
theorem tb_360 : Cond.code yX5_isRowWhole cX5_isRowWhole 1 (some .boolean) ∈ q_tb := q_in 360 (by decide +kernel) rfl
theorem tb_357 : Cond.methodLink RX5 28 yX5_isRowWhole ∈ q_tb := q_in 357 (by decide +kernel) rfl
theorem tb_359 : Cond.instanceMethod yX5_isRowWhole ∈ q_tb := q_in 359 (by decide +kernel) rfl
theorem tb_2 : Cond.selects RX5 yX5_isRowWhole yX5_isRowWhole ∈ q_tb := q_in 2 (by decide +kernel) rfl
theorem tb_328 : Cond.code yX3_clear cX3_clear 1 (none) ∈ q_tb := q_in 328 (by decide +kernel) rfl
theorem tb_325 : Cond.methodLink RX5 32 yX3_clear ∈ q_tb := q_in 325 (by decide +kernel) rfl
theorem tb_326 : Cond.instanceMethod yX3_clear ∈ q_tb := q_in 326 (by decide +kernel) rfl
theorem tb_327 : Cond.selects RX3 yX3_clear yX3_clear ∈ q_tb := q_in 327 (by decide +kernel) rfl
theorem tb_156 : Cond.fieldLink RX5 35 "AheadRows$Reader" "taken" "I" ∈ q_tb := q_in 156 (by decide +kernel) rfl
theorem tb_330 : Cond.methodLink RX5 39 yX4_at ∈ q_tb := q_in 330 (by decide +kernel) rfl
theorem tb_337 : Cond.code yX5_takes cX5_takes 2 (some .boolean) ∈ q_tb := q_in 337 (by decide +kernel) rfl
theorem tb_334 : Cond.methodLink RX5 43 yX5_takes ∈ q_tb := q_in 334 (by decide +kernel) rfl
theorem tb_336 : Cond.instanceMethod yX5_takes ∈ q_tb := q_in 336 (by decide +kernel) rfl
theorem tb_0 : Cond.selects RX5 yX5_takes yX5_takes ∈ q_tb := q_in 0 (by decide +kernel) rfl
theorem tb_341 : Cond.code yX5_takesMark cX5_takesMark 2 (some .boolean) ∈ q_tb := q_in 341 (by decide +kernel) rfl
theorem tb_338 : Cond.methodLink RX5 47 yX5_takesMark ∈ q_tb := q_in 338 (by decide +kernel) rfl
theorem tb_340 : Cond.instanceMethod yX5_takesMark ∈ q_tb := q_in 340 (by decide +kernel) rfl
theorem tb_1 : Cond.selects RX5 yX5_takesMark yX5_takesMark ∈ q_tb := q_in 1 (by decide +kernel) rfl
theorem tb_367 : Cond.code yX5_takesDivider cX5_takesDivider 2 (some .boolean) ∈ q_tb := q_in 367 (by decide +kernel) rfl
theorem tb_364 : Cond.methodLink RX5 50 yX5_takesDivider ∈ q_tb := q_in 364 (by decide +kernel) rfl
theorem tb_366 : Cond.instanceMethod yX5_takesDivider ∈ q_tb := q_in 366 (by decide +kernel) rfl
theorem tb_3 : Cond.selects RX5 yX5_takesDivider yX5_takesDivider ∈ q_tb := q_in 3 (by decide +kernel) rfl
theorem tb_371 : Cond.code yX5_takesNumber cX5_takesNumber 3 (some .boolean) ∈ q_tb := q_in 371 (by decide +kernel) rfl
theorem tb_368 : Cond.methodLink RX5 53 yX5_takesNumber ∈ q_tb := q_in 368 (by decide +kernel) rfl
theorem tb_370 : Cond.instanceMethod yX5_takesNumber ∈ q_tb := q_in 370 (by decide +kernel) rfl
theorem tb_4 : Cond.selects RX5 yX5_takesNumber yX5_takesNumber ∈ q_tb := q_in 4 (by decide +kernel) rfl
theorem tb_155 : Cond.fieldLink RX5 56 "AheadRows$Reader" "kind" "I" ∈ q_tb := q_in 155 (by decide +kernel) rfl
theorem tb_344 : Cond.code yX5_kindMarkedBy cX5_kindMarkedBy 1 (some .int) ∈ q_tb := q_in 344 (by decide +kernel) rfl
theorem tb_342 : Cond.methodLink RX5 62 yX5_kindMarkedBy ∈ q_tb := q_in 342 (by decide +kernel) rfl
theorem tb_343 : Cond.static yX5_kindMarkedBy ∈ q_tb := q_in 343 (by decide +kernel) rfl
theorem tb_345 : Cond.methodLink RX5 65 yX3_size ∈ q_tb := q_in 345 (by decide +kernel) rfl
theorem tb_349 : Cond.methodLink RX5 66 yX3_append ∈ q_tb := q_in 349 (by decide +kernel) rfl
theorem tb_374 : Cond.code yX5_valueOf cX5_valueOf 1 (some .int) ∈ q_tb := q_in 374 (by decide +kernel) rfl
theorem tb_372 : Cond.methodLink RX5 70 yX5_valueOf ∈ q_tb := q_in 372 (by decide +kernel) rfl
theorem tb_373 : Cond.static yX5_valueOf ∈ q_tb := q_in 373 (by decide +kernel) rfl
theorem tb_379 : Cond.code yX5_leastNumber cX5_leastNumber 1 (some .int) ∈ q_tb := q_in 379 (by decide +kernel) rfl
theorem tb_376 : Cond.methodLink RX5 73 yX5_leastNumber ∈ q_tb := q_in 376 (by decide +kernel) rfl
theorem tb_378 : Cond.instanceMethod yX5_leastNumber ∈ q_tb := q_in 378 (by decide +kernel) rfl
theorem tb_5 : Cond.selects RX5 yX5_leastNumber yX5_leastNumber ∈ q_tb := q_in 5 (by decide +kernel) rfl
theorem tb_383 : Cond.code yX5_mostNumber cX5_mostNumber 1 (some .int) ∈ q_tb := q_in 383 (by decide +kernel) rfl
theorem tb_380 : Cond.methodLink RX5 76 yX5_mostNumber ∈ q_tb := q_in 380 (by decide +kernel) rfl
theorem tb_382 : Cond.instanceMethod yX5_mostNumber ∈ q_tb := q_in 382 (by decide +kernel) rfl
theorem tb_6 : Cond.selects RX5 yX5_mostNumber yX5_mostNumber ∈ q_tb := q_in 6 (by decide +kernel) rfl
theorem tb_385 : Cond.methodLink RX5 83 yX3_setNumber ∈ q_tb := q_in 385 (by decide +kernel) rfl
theorem tb_375 : Cond.constant RX5 87 (2000000001) ∈ q_tb := q_in 375 (by decide +kernel) rfl
theorem tb_198 : Cond.methodLink RX6 3 objectInit ∈ q_tb := q_in 198 (by decide +kernel) rfl
theorem tb_199 : Cond.classLink RX6 9 RX1 ∈ q_tb := q_in 199 (by decide +kernel) rfl
theorem tb_224 : Cond.fieldLink RX6 11 "AheadRows$Remainders" "cycles" "[LAheadRows$Cycle;" ∈ q_tb := q_in 224 (by decide +kernel) rfl
theorem tb_225 : Cond.fieldLink RX6 17 "AheadRows$Remainders" "known" "[I" ∈ q_tb := q_in 225 (by decide +kernel) rfl
theorem tb_202 : Cond.methodLink RX6 21 yX1_init ∈ q_tb := q_in 202 (by decide +kernel) rfl
theorem tb_427 : Cond.code yJ9_min_7cf53 cJ9_min_7cf53 2 (some .int) ∈ q_tb := q_in 427 (by decide +kernel) rfl
theorem tb_432 : Cond.methodLink RX6 24 yJ9_min_7cf53 ∈ q_tb := q_in 432 (by decide +kernel) rfl
theorem tb_426 : Cond.static yJ9_min_7cf53 ∈ q_tb := q_in 426 (by decide +kernel) rfl
theorem tb_501 : Cond.code yX6_fill cX6_fill 8 (none) ∈ q_tb := q_in 501 (by decide +kernel) rfl
theorem tb_498 : Cond.methodLink RX6 30 yX6_fill ∈ q_tb := q_in 498 (by decide +kernel) rfl
theorem tb_500 : Cond.instanceMethod yX6_fill ∈ q_tb := q_in 500 (by decide +kernel) rfl
theorem tb_12 : Cond.selects RX6 yX6_fill yX6_fill ∈ q_tb := q_in 12 (by decide +kernel) rfl
theorem tb_505 : Cond.code yX6_filled cX6_filled 4 (some (.object "AheadRows$Cycle")) ∈ q_tb := q_in 505 (by decide +kernel) rfl
theorem tb_502 : Cond.methodLink RX6 34 yX6_filled ∈ q_tb := q_in 502 (by decide +kernel) rfl
theorem tb_504 : Cond.instanceMethod yX6_filled ∈ q_tb := q_in 504 (by decide +kernel) rfl
theorem tb_13 : Cond.selects RX6 yX6_filled yX6_filled ∈ q_tb := q_in 13 (by decide +kernel) rfl
theorem tb_506 : Cond.methodLink RX6 38 yX3_numberOf ∈ q_tb := q_in 506 (by decide +kernel) rfl
theorem tb_507 : Cond.methodLink RX6 43 yX3_kindOf ∈ q_tb := q_in 507 (by decide +kernel) rfl
theorem tb_508 : Cond.methodLink RX6 47 yX1_fillTold ∈ q_tb := q_in 508 (by decide +kernel) rfl
theorem tb_518 : Cond.code yX1_fillSum cX1_fillSum 4 (none) ∈ q_tb := q_in 518 (by decide +kernel) rfl
theorem tb_515 : Cond.methodLink RX6 51 yX1_fillSum ∈ q_tb := q_in 515 (by decide +kernel) rfl
theorem tb_516 : Cond.instanceMethod yX1_fillSum ∈ q_tb := q_in 516 (by decide +kernel) rfl
theorem tb_517 : Cond.selects RX1 yX1_fillSum yX1_fillSum ∈ q_tb := q_in 517 (by decide +kernel) rfl
theorem tb_526 : Cond.code yX1_fillProduct cX1_fillProduct 4 (none) ∈ q_tb := q_in 526 (by decide +kernel) rfl
theorem tb_523 : Cond.methodLink RX6 55 yX1_fillProduct ∈ q_tb := q_in 523 (by decide +kernel) rfl
theorem tb_524 : Cond.instanceMethod yX1_fillProduct ∈ q_tb := q_in 524 (by decide +kernel) rfl
theorem tb_525 : Cond.selects RX1 yX1_fillProduct yX1_fillProduct ∈ q_tb := q_in 525 (by decide +kernel) rfl
theorem tb_530 : Cond.code yX1_fillEach cX1_fillEach 5 (none) ∈ q_tb := q_in 530 (by decide +kernel) rfl
theorem tb_527 : Cond.methodLink RX6 58 yX1_fillEach ∈ q_tb := q_in 527 (by decide +kernel) rfl
theorem tb_528 : Cond.instanceMethod yX1_fillEach ∈ q_tb := q_in 528 (by decide +kernel) rfl
theorem tb_529 : Cond.selects RX1 yX1_fillEach yX1_fillEach ∈ q_tb := q_in 529 (by decide +kernel) rfl
theorem tb_534 : Cond.code yX1_fillStep cX1_fillStep 3 (none) ∈ q_tb := q_in 534 (by decide +kernel) rfl
theorem tb_531 : Cond.methodLink RX6 62 yX1_fillStep ∈ q_tb := q_in 531 (by decide +kernel) rfl
theorem tb_532 : Cond.instanceMethod yX1_fillStep ∈ q_tb := q_in 532 (by decide +kernel) rfl
theorem tb_533 : Cond.selects RX1 yX1_fillStep yX1_fillStep ∈ q_tb := q_in 533 (by decide +kernel) rfl
theorem tb_633 : Cond.code yX7_discriminant cX7_discriminant 2 (some .int) ∈ q_tb := q_in 633 (by decide +kernel) rfl
theorem tb_631 : Cond.methodLink RX7 9 yX7_discriminant ∈ q_tb := q_in 631 (by decide +kernel) rfl
theorem tb_632 : Cond.static yX7_discriminant ∈ q_tb := q_in 632 (by decide +kernel) rfl
theorem tb_636 : Cond.code yX7_signOf cX7_signOf 1 (some .int) ∈ q_tb := q_in 636 (by decide +kernel) rfl
theorem tb_634 : Cond.methodLink RX7 15 yX7_signOf ∈ q_tb := q_in 634 (by decide +kernel) rfl
theorem tb_635 : Cond.static yX7_signOf ∈ q_tb := q_in 635 (by decide +kernel) rfl
theorem tb_642 : Cond.code yX7_wholeRootOf cX7_wholeRootOf 2 (some .int) ∈ q_tb := q_in 642 (by decide +kernel) rfl
theorem tb_640 : Cond.methodLink RX7 19 yX7_wholeRootOf ∈ q_tb := q_in 640 (by decide +kernel) rfl
theorem tb_641 : Cond.static yX7_wholeRootOf ∈ q_tb := q_in 641 (by decide +kernel) rfl
theorem tb_643 : Cond.constant RX7 22 (2000000001) ∈ q_tb := q_in 643 (by decide +kernel) rfl
theorem tb_602 : Cond.methodLink RX8 9 yX3_kindOf ∈ q_tb := q_in 602 (by decide +kernel) rfl
theorem tb_603 : Cond.methodLink RX8 15 yX3_numberOf ∈ q_tb := q_in 603 (by decide +kernel) rfl
theorem tb_604 : Cond.methodLink RX8 19 yX3_isTold ∈ q_tb := q_in 604 (by decide +kernel) rfl
theorem tb_613 : Cond.code yX8_ofTwo cX8_ofTwo 3 (some .int) ∈ q_tb := q_in 613 (by decide +kernel) rfl
theorem tb_611 : Cond.methodLink RX8 23 yX8_ofTwo ∈ q_tb := q_in 611 (by decide +kernel) rfl
theorem tb_612 : Cond.static yX8_ofTwo ∈ q_tb := q_in 612 (by decide +kernel) rfl
theorem tb_616 : Cond.code yX8_ofPowers cX8_ofPowers 9 (some .int) ∈ q_tb := q_in 616 (by decide +kernel) rfl
theorem tb_614 : Cond.methodLink RX8 29 yX8_ofPowers ∈ q_tb := q_in 614 (by decide +kernel) rfl
theorem tb_615 : Cond.static yX8_ofPowers ∈ q_tb := q_in 615 (by decide +kernel) rfl
theorem tb_619 : Cond.code yX8_ofSum cX8_ofSum 5 (some .int) ∈ q_tb := q_in 619 (by decide +kernel) rfl
theorem tb_617 : Cond.methodLink RX8 33 yX8_ofSum ∈ q_tb := q_in 617 (by decide +kernel) rfl
theorem tb_618 : Cond.static yX8_ofSum ∈ q_tb := q_in 618 (by decide +kernel) rfl
theorem tb_622 : Cond.code yX8_ofProduct cX8_ofProduct 5 (some .int) ∈ q_tb := q_in 622 (by decide +kernel) rfl
theorem tb_620 : Cond.methodLink RX8 37 yX8_ofProduct ∈ q_tb := q_in 620 (by decide +kernel) rfl
theorem tb_621 : Cond.static yX8_ofProduct ∈ q_tb := q_in 621 (by decide +kernel) rfl
theorem tb_185 : Cond.methodLink RX9 3 objectInit ∈ q_tb := q_in 185 (by decide +kernel) rfl
theorem tb_186 : Cond.fieldLink RX9 11 "AheadRows$Terms" "values" "[I" ∈ q_tb := q_in 186 (by decide +kernel) rfl
theorem tb_187 : Cond.fieldLink RX9 15 "AheadRows$Terms" "known" "I" ∈ q_tb := q_in 187 (by decide +kernel) rfl
theorem tb_425 : Cond.methodLink RX9 19 yJ9_min_7cf53 ∈ q_tb := q_in 425 (by decide +kernel) rfl
theorem tb_468 : Cond.code yX9_fill cX9_fill 9 (none) ∈ q_tb := q_in 468 (by decide +kernel) rfl
theorem tb_465 : Cond.methodLink RX9 25 yX9_fill ∈ q_tb := q_in 465 (by decide +kernel) rfl
theorem tb_467 : Cond.instanceMethod yX9_fill ∈ q_tb := q_in 467 (by decide +kernel) rfl
theorem tb_8 : Cond.selects RX9 yX9_fill yX9_fill ∈ q_tb := q_in 8 (by decide +kernel) rfl
theorem tb_488 : Cond.code yX9_valueAt cX9_valueAt 4 (some .int) ∈ q_tb := q_in 488 (by decide +kernel) rfl
theorem tb_485 : Cond.methodLink RX9 29 yX9_valueAt ∈ q_tb := q_in 485 (by decide +kernel) rfl
theorem tb_487 : Cond.instanceMethod yX9_valueAt ∈ q_tb := q_in 487 (by decide +kernel) rfl
theorem tb_11 : Cond.selects RX9 yX9_valueAt yX9_valueAt ∈ q_tb := q_in 11 (by decide +kernel) rfl
theorem tb_478 : Cond.constant RX9 32 (2000000002) ∈ q_tb := q_in 478 (by decide +kernel) rfl
theorem tb_469 : Cond.methodLink RX9 33 yX3_numberOf ∈ q_tb := q_in 469 (by decide +kernel) rfl
theorem tb_470 : Cond.methodLink RX9 38 yX3_kindOf ∈ q_tb := q_in 470 (by decide +kernel) rfl
theorem tb_474 : Cond.code yX9_fillTold cX9_fillTold 9 (none) ∈ q_tb := q_in 474 (by decide +kernel) rfl
theorem tb_471 : Cond.methodLink RX9 42 yX9_fillTold ∈ q_tb := q_in 471 (by decide +kernel) rfl
theorem tb_473 : Cond.instanceMethod yX9_fillTold ∈ q_tb := q_in 473 (by decide +kernel) rfl
theorem tb_9 : Cond.selects RX9 yX9_fillTold yX9_fillTold ∈ q_tb := q_in 9 (by decide +kernel) rfl
theorem tb_484 : Cond.code yX9_madeAt cX9_madeAt 8 (some .int) ∈ q_tb := q_in 484 (by decide +kernel) rfl
theorem tb_481 : Cond.methodLink RX9 46 yX9_madeAt ∈ q_tb := q_in 481 (by decide +kernel) rfl
theorem tb_483 : Cond.instanceMethod yX9_madeAt ∈ q_tb := q_in 483 (by decide +kernel) rfl
theorem tb_10 : Cond.selects RX9 yX9_madeAt yX9_madeAt ∈ q_tb := q_in 10 (by decide +kernel) rfl
theorem tb_477 : Cond.code yX9_exactOrFar cX9_exactOrFar 4 (some .int) ∈ q_tb := q_in 477 (by decide +kernel) rfl
theorem tb_475 : Cond.methodLink RX9 50 yX9_exactOrFar ∈ q_tb := q_in 475 (by decide +kernel) rfl
theorem tb_476 : Cond.static yX9_exactOrFar ∈ q_tb := q_in 476 (by decide +kernel) rfl
theorem tb_479 : Cond.constantLong RX9 54 (1000000000) ∈ q_tb := q_in 479 (by decide +kernel) rfl
theorem tb_480 : Cond.constantLong RX9 56 (-1000000000) ∈ q_tb := q_in 480 (by decide +kernel) rfl
