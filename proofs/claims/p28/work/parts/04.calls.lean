set_option maxRecDepth 20000 in
theorem ggX0_countThings_X0_startOver : GoodIn wsX0_countThings wsX0_startOver := goodIn_r _ [7, 1, 43, 44, 45, 46, 47, 48] (by decide +kernel) (by decide +kernel)
set_option maxRecDepth 20000 in
theorem gX0_countThings_X0_startOver : GoodIn wsX0_countThings (wsV RX0 19 RX0 yX0_startOver wsX0_startOver) := goodIn_app (goodIn_of _ (by decide +kernel)) ggX0_countThings_X0_startOver
set_option maxRecDepth 20000 in
theorem ggX0_countThings_X0_readThing : GoodIn wsX0_countThings wsX0_readThing := goodIn_r _ [11, 12, 13, 14, 6, 15, 16, 17, 18, 19, 20, 1, 2, 21, 22, 23, 24, 25, 26, 27, 28, 29, 30, 31, 32, 33, 34, 35, 36, 37, 38, 39, 40, 41, 42, 43, 44, 45, 46, 47, 48] (by decide +kernel) (by decide +kernel)
set_option maxRecDepth 20000 in
theorem gX0_countThings_X0_readThing : GoodIn wsX0_countThings (wsV RX0 22 RX0 yX0_readThing wsX0_readThing) := goodIn_app (goodIn_of _ (by decide +kernel)) ggX0_countThings_X0_readThing
set_option maxRecDepth 20000 in
theorem ggX0_countThings_X0_readSign : GoodIn wsX0_countThings wsX0_readSign := goodIn_r _ [20, 1, 2, 21, 43, 44, 45, 46, 47, 48] (by decide +kernel) (by decide +kernel)
set_option maxRecDepth 20000 in
theorem gX0_countThings_X0_readSign : GoodIn wsX0_countThings (wsV RX0 29 RX0 yX0_readSign wsX0_readSign) := goodIn_app (goodIn_of _ (by decide +kernel)) ggX0_countThings_X0_readSign
set_option maxRecDepth 20000 in
theorem ggX0_readNext_X0_readSign : GoodIn wsX0_readNext wsX0_readSign := goodIn_r _ [5, 6, 7, 8, 39, 40, 41, 42, 43, 44] (by decide +kernel) (by decide +kernel)
set_option maxRecDepth 20000 in
theorem gX0_readNext_X0_readSign : GoodIn wsX0_readNext (wsV RX0 29 RX0 yX0_readSign wsX0_readSign) := goodIn_app (goodIn_of _ (by decide +kernel)) ggX0_readNext_X0_readSign
set_option maxRecDepth 20000 in
theorem ggX0_readNext_X0_readThing : GoodIn wsX0_readNext wsX0_readThing := goodIn_r _ [12, 13, 14, 15, 4, 16, 17, 1, 2, 3, 5, 6, 7, 8, 18, 19, 20, 21, 22, 23, 24, 25, 26, 27, 28, 29, 30, 31, 32, 33, 34, 35, 36, 37, 38, 39, 40, 41, 42, 43, 44] (by decide +kernel) (by decide +kernel)
set_option maxRecDepth 20000 in
theorem gX0_readNext_X0_readThing : GoodIn wsX0_readNext (wsV RX0 22 RX0 yX0_readThing wsX0_readThing) := goodIn_app (goodIn_of _ (by decide +kernel)) ggX0_readNext_X0_readThing
set_option maxRecDepth 20000 in
theorem ggX0_readThing_X0_readKind : GoodIn wsX0_readThing wsX0_readKind := goodIn_r _ [5, 6, 7, 8, 9, 4, 10, 11, 12, 13, 35, 36, 37, 38, 39, 40] (by decide +kernel) (by decide +kernel)
set_option maxRecDepth 20000 in
theorem gX0_readThing_X0_readKind : GoodIn wsX0_readThing (wsV RX0 33 RX0 yX0_readKind wsX0_readKind) := goodIn_app (goodIn_of _ (by decide +kernel)) ggX0_readThing_X0_readKind
set_option maxRecDepth 20000 in
theorem ggX0_readThing_X0_readFirst : GoodIn wsX0_readThing wsX0_readFirst := goodIn_r _ [17, 18, 19, 20, 21, 4, 22, 11, 23, 24, 25, 26, 12, 13, 27, 28, 29, 35, 36, 37, 38, 39, 40] (by decide +kernel) (by decide +kernel)
set_option maxRecDepth 20000 in
theorem gX0_readThing_X0_readFirst : GoodIn wsX0_readThing (wsV RX0 36 RX0 yX0_readFirst wsX0_readFirst) := goodIn_app (goodIn_of _ (by decide +kernel)) ggX0_readThing_X0_readFirst
set_option maxRecDepth 20000 in
theorem ggX0_readThing_X0_readSign : GoodIn wsX0_readThing wsX0_readSign := goodIn_r _ [10, 11, 12, 13, 35, 36, 37, 38, 39, 40] (by decide +kernel) (by decide +kernel)
set_option maxRecDepth 20000 in
theorem gX0_readThing_X0_readSign : GoodIn wsX0_readThing (wsV RX0 29 RX0 yX0_readSign wsX0_readSign) := goodIn_app (goodIn_of _ (by decide +kernel)) ggX0_readThing_X0_readSign
set_option maxRecDepth 20000 in
theorem ggX0_readThing_X0_readSecond : GoodIn wsX0_readThing wsX0_readSecond := goodIn_r _ [33, 34, 19, 20, 21, 4, 22, 11, 23, 24, 25, 26, 12, 13, 27, 28, 29, 35, 36, 37, 38, 39, 40] (by decide +kernel) (by decide +kernel)
set_option maxRecDepth 20000 in
theorem gX0_readThing_X0_readSecond : GoodIn wsX0_readThing (wsV RX0 40 RX0 yX0_readSecond wsX0_readSecond) := goodIn_app (goodIn_of _ (by decide +kernel)) ggX0_readThing_X0_readSecond
set_option maxRecDepth 20000 in
theorem ggX0_readKind_X0_readSign : GoodIn wsX0_readKind wsX0_readSign := goodIn_r _ [6, 7, 8, 9, 10, 11, 12, 13, 14, 15] (by decide +kernel) (by decide +kernel)
set_option maxRecDepth 20000 in
theorem gX0_readKind_X0_readSign : GoodIn wsX0_readKind (wsV RX0 29 RX0 yX0_readSign wsX0_readSign) := goodIn_app (goodIn_of _ (by decide +kernel)) ggX0_readKind_X0_readSign
set_option maxRecDepth 20000 in
theorem ggX0_readFirst_X0_readNumber : GoodIn wsX0_readFirst wsX0_readNumber := goodIn_r _ [6, 7, 8, 9, 10, 5, 11, 12, 13, 14, 15, 16, 17, 18, 19, 20, 21, 22] (by decide +kernel) (by decide +kernel)
set_option maxRecDepth 20000 in
theorem gX0_readFirst_X0_readNumber : GoodIn wsX0_readFirst (wsV RX0 48 RX0 yX0_readNumber wsX0_readNumber) := goodIn_app (goodIn_of _ (by decide +kernel)) ggX0_readFirst_X0_readNumber
set_option maxRecDepth 20000 in
theorem ggX0_readSecond_X0_readNumber : GoodIn wsX0_readSecond wsX0_readNumber := goodIn_r _ [6, 7, 8, 9, 10, 5, 11, 12, 13, 14, 15, 16, 17, 18, 19, 20, 21, 22] (by decide +kernel) (by decide +kernel)
set_option maxRecDepth 20000 in
theorem gX0_readSecond_X0_readNumber : GoodIn wsX0_readSecond (wsV RX0 48 RX0 yX0_readNumber wsX0_readNumber) := goodIn_app (goodIn_of _ (by decide +kernel)) ggX0_readSecond_X0_readNumber
set_option maxRecDepth 20000 in
theorem ggX0_readNumber_X0_digitHere : GoodIn wsX0_readNumber wsX0_digitHere := goodIn_r _ [6, 1, 7, 8, 12, 13, 14, 15, 16, 17] (by decide +kernel) (by decide +kernel)
set_option maxRecDepth 20000 in
theorem gX0_readNumber_X0_digitHere : GoodIn wsX0_readNumber (wsV RX0 58 RX0 yX0_digitHere wsX0_digitHere) := goodIn_app (goodIn_of _ (by decide +kernel)) ggX0_readNumber_X0_digitHere
set_option maxRecDepth 20000 in
theorem ggX0_readNumber_X4_isIn : GoodIn wsX0_readNumber wsX4_isIn := goodIn_r _ [11] (by decide +kernel) (by decide +kernel)
set_option maxRecDepth 20000 in
theorem gX0_readNumber_X4_isIn_n62 : GoodIn wsX0_readNumber (wsX4_isIn) := ggX0_readNumber_X4_isIn
set_option maxRecDepth 20000 in
theorem ggX1_init_X3_init : GoodIn wsX1_init wsX3_init := goodIn_r _ [10, 11, 2, 3, 12, 13, 14, 15, 16, 17, 18, 19, 20, 21, 24, 25, 26, 27, 28, 29, 30, 31, 32, 33, 34, 35, 36] (by decide +kernel) (by decide +kernel)
set_option maxRecDepth 20000 in
theorem gX1_init_X3_init : GoodIn wsX1_init (wsX3_init) := ggX1_init_X3_init
set_option maxRecDepth 20000 in
theorem ggX1_push_X1_dropOldest : GoodIn wsX1_push wsX1_dropOldest := goodIn_r _ [7, 2, 1, 30, 31] (by decide +kernel) (by decide +kernel)
set_option maxRecDepth 20000 in
theorem gX1_push_X1_dropOldest : GoodIn wsX1_push (wsV RX1 22 RX1 yX1_dropOldest wsX1_dropOldest) := goodIn_app (goodIn_of _ (by decide +kernel)) ggX1_push_X1_dropOldest
set_option maxRecDepth 20000 in
theorem ggX1_push_X3_copyFrom : GoodIn wsX1_push wsX3_copyFrom := goodIn_r _ [12, 13, 14, 15, 16, 17, 18, 19, 20, 21, 22, 23, 24, 25, 26, 27, 28, 29, 32, 33, 34, 35, 36, 37, 38, 39, 40, 41, 42, 43, 44] (by decide +kernel) (by decide +kernel)
set_option maxRecDepth 20000 in
theorem gX1_push_X3_copyFrom : GoodIn wsX1_push (wsV RX1 25 RX3 yX3_copyFrom wsX3_copyFrom) := goodIn_app (goodIn_of _ (by decide +kernel)) ggX1_push_X3_copyFrom
set_option maxRecDepth 20000 in
theorem ggX1_pop_X3_copyFrom : GoodIn wsX1_pop wsX3_copyFrom := goodIn_r _ [7, 8, 9, 10, 11, 12, 13, 14, 15, 16, 17, 18, 19, 20, 21, 22, 23, 24, 27, 28, 29, 30, 31, 32, 33, 34, 35, 36, 37, 38, 39] (by decide +kernel) (by decide +kernel)
set_option maxRecDepth 20000 in
theorem gX1_pop_X3_copyFrom : GoodIn wsX1_pop (wsV RX1 25 RX3 yX3_copyFrom wsX3_copyFrom) := goodIn_app (goodIn_of _ (by decide +kernel)) ggX1_pop_X3_copyFrom
set_option maxRecDepth 20000 in
theorem ggX2_follow_X2_isOpen : GoodIn wsX2_follow wsX2_isOpen := goodIn_r _ [7] (by decide +kernel) (by decide +kernel)
set_option maxRecDepth 20000 in
theorem gX2_follow_X2_isOpen : GoodIn wsX2_follow (va_wsS RX2 18 yX2_isOpen wsX2_isOpen) := goodIn_app (goodIn_of _ (by decide +kernel)) ggX2_follow_X2_isOpen
set_option maxRecDepth 20000 in
theorem ggX2_follow_X2_around : GoodIn wsX2_follow wsX2_around := goodIn_r _ [10] (by decide +kernel) (by decide +kernel)
set_option maxRecDepth 20000 in
theorem gX2_follow_X2_around : GoodIn wsX2_follow (va_wsS RX2 22 yX2_around wsX2_around) := goodIn_app (goodIn_of _ (by decide +kernel)) ggX2_follow_X2_around
set_option maxRecDepth 20000 in
theorem ggX2_within_X2_through : GoodIn wsX2_within wsX2_through := goodIn_r _ [12, 13, 14, 15, 16, 17] (by decide +kernel) (by decide +kernel)
set_option maxRecDepth 20000 in
theorem gX2_within_X2_through : GoodIn wsX2_within (wsV RX2 39 RX2 yX2_through wsX2_through) := goodIn_app (goodIn_of _ (by decide +kernel)) ggX2_within_X2_through
set_option maxRecDepth 20000 in
theorem ggX2_leastColumn_X2_through : GoodIn wsX2_leastColumn wsX2_through := goodIn_r _ [5, 6, 7, 8, 9, 10] (by decide +kernel) (by decide +kernel)
set_option maxRecDepth 20000 in
theorem gX2_leastColumn_X2_through : GoodIn wsX2_leastColumn (wsV RX2 39 RX2 yX2_through wsX2_through) := goodIn_app (goodIn_of _ (by decide +kernel)) ggX2_leastColumn_X2_through
set_option maxRecDepth 20000 in
theorem ggX2_greatestColumn_X2_through : GoodIn wsX2_greatestColumn wsX2_through := goodIn_r _ [5, 6, 7, 8, 9, 10] (by decide +kernel) (by decide +kernel)
set_option maxRecDepth 20000 in
theorem gX2_greatestColumn_X2_through : GoodIn wsX2_greatestColumn (wsV RX2 39 RX2 yX2_through wsX2_through) := goodIn_app (goodIn_of _ (by decide +kernel)) ggX2_greatestColumn_X2_through
set_option maxRecDepth 20000 in
theorem ggX2_mostOpenRow_X2_openColumns : GoodIn wsX2_mostOpenRow wsX2_openColumns := goodIn_r _ [6, 7, 8, 9, 5, 10, 11, 12, 13, 14, 15] (by decide +kernel) (by decide +kernel)
set_option maxRecDepth 20000 in
theorem gX2_mostOpenRow_X2_openColumns : GoodIn wsX2_mostOpenRow (wsV RX2 43 RX2 yX2_openColumns wsX2_openColumns) := goodIn_app (goodIn_of _ (by decide +kernel)) ggX2_mostOpenRow_X2_openColumns
set_option maxRecDepth 20000 in
theorem ggX2_openColumns_X2_through : GoodIn wsX2_openColumns wsX2_through := goodIn_r _ [5, 6, 7, 8, 9, 10] (by decide +kernel) (by decide +kernel)
set_option maxRecDepth 20000 in
theorem gX2_openColumns_X2_through : GoodIn wsX2_openColumns (wsV RX2 39 RX2 yX2_through wsX2_through) := goodIn_app (goodIn_of _ (by decide +kernel)) ggX2_openColumns_X2_through
set_option maxRecDepth 20000 in
theorem ggX3_plant_X4_isIn : GoodIn wsX3_plant wsX4_isIn := goodIn_r _ [4] (by decide +kernel) (by decide +kernel)
set_option maxRecDepth 20000 in
theorem gX3_plant_X4_isIn_n62 : GoodIn wsX3_plant (wsX4_isIn) := ggX3_plant_X4_isIn
set_option maxRecDepth 20000 in
theorem ggX3_getWet_X4_isIn : GoodIn wsX3_getWet wsX4_isIn := goodIn_r _ [8] (by decide +kernel) (by decide +kernel)
set_option maxRecDepth 20000 in
theorem gX3_getWet_X4_isIn_n62 : GoodIn wsX3_getWet (wsX4_isIn) := ggX3_getWet_X4_isIn
set_option maxRecDepth 20000 in
theorem ggX3_passDays_X4_isIn : GoodIn wsX3_passDays wsX4_isIn := goodIn_r _ [11] (by decide +kernel) (by decide +kernel)
set_option maxRecDepth 20000 in
theorem gX3_passDays_X4_isIn_n62 : GoodIn wsX3_passDays (wsX4_isIn) := ggX3_passDays_X4_isIn
set_option maxRecDepth 20000 in
theorem ggX3_changeSetting_X4_isIn : GoodIn wsX3_changeSetting wsX4_isIn := goodIn_r _ [4] (by decide +kernel) (by decide +kernel)
set_option maxRecDepth 20000 in
theorem gX3_changeSetting_X4_isIn_n62 : GoodIn wsX3_changeSetting (wsX4_isIn) := ggX3_changeSetting_X4_isIn
set_option maxRecDepth 20000 in
theorem ggX3_sendCrew_X4_isIn : GoodIn wsX3_sendCrew wsX4_isIn := goodIn_r _ [5] (by decide +kernel) (by decide +kernel)
set_option maxRecDepth 20000 in
theorem gX3_sendCrew_X4_isIn_n62 : GoodIn wsX3_sendCrew (wsX4_isIn) := ggX3_sendCrew_X4_isIn
set_option maxRecDepth 20000 in
theorem ggX3_sendCrew_X3_stepsTo : GoodIn wsX3_sendCrew wsX3_stepsTo := goodIn_r _ [10, 2, 11, 12, 13, 14, 15, 16, 17, 18, 19, 20, 21, 22, 23, 24, 25, 26, 27, 28] (by decide +kernel) (by decide +kernel)
set_option maxRecDepth 20000 in
theorem gX3_sendCrew_X3_stepsTo : GoodIn wsX3_sendCrew (wsV RX3 81 RX3 yX3_stepsTo wsX3_stepsTo) := goodIn_app (goodIn_of _ (by decide +kernel)) ggX3_sendCrew_X3_stepsTo
set_option maxRecDepth 20000 in
theorem ggX3_fellHere_X4_isIn : GoodIn wsX3_fellHere wsX4_isIn := goodIn_r _ [10] (by decide +kernel) (by decide +kernel)
set_option maxRecDepth 20000 in
theorem gX3_fellHere_X4_isIn_n62 : GoodIn wsX3_fellHere (wsX4_isIn) := ggX3_fellHere_X4_isIn
set_option maxRecDepth 20000 in
theorem ggX3_tellColumn_X4_isIn : GoodIn wsX3_tellColumn wsX4_isIn := goodIn_r _ [4] (by decide +kernel) (by decide +kernel)
set_option maxRecDepth 20000 in
theorem gX3_tellColumn_X4_isIn_n62 : GoodIn wsX3_tellColumn (wsX4_isIn) := ggX3_tellColumn_X4_isIn
set_option maxRecDepth 20000 in
theorem ggX3_tellColumn_X2_through : GoodIn wsX3_tellColumn wsX2_through := goodIn_r _ [9, 10, 11, 25, 26, 27] (by decide +kernel) (by decide +kernel)
set_option maxRecDepth 20000 in
theorem gX3_tellColumn_X2_through : GoodIn wsX3_tellColumn (wsV RX3 84 RX2 yX2_through wsX2_through) := goodIn_app (goodIn_of _ (by decide +kernel)) ggX3_tellColumn_X2_through
set_option maxRecDepth 20000 in
theorem ggX3_untellColumn_X4_isIn : GoodIn wsX3_untellColumn wsX4_isIn := goodIn_r _ [4] (by decide +kernel) (by decide +kernel)
set_option maxRecDepth 20000 in
theorem gX3_untellColumn_X4_isIn_n62 : GoodIn wsX3_untellColumn (wsX4_isIn) := ggX3_untellColumn_X4_isIn
set_option maxRecDepth 20000 in
theorem ggX3_untellColumn_X2_follow : GoodIn wsX3_untellColumn wsX2_follow := goodIn_r _ [9, 10, 11, 12, 13, 14, 8, 15, 16, 17, 18, 32, 33, 34] (by decide +kernel) (by decide +kernel)
set_option maxRecDepth 20000 in
theorem gX3_untellColumn_X2_follow : GoodIn wsX3_untellColumn (wsV RX3 90 RX2 yX2_follow wsX2_follow) := goodIn_app (goodIn_of _ (by decide +kernel)) ggX3_untellColumn_X2_follow
set_option maxRecDepth 20000 in
theorem ggX3_takeStorm_X3_felledInVain : GoodIn wsX3_takeStorm wsX3_felledInVain := goodIn_r _ [10, 4, 11, 12, 13, 9, 14, 15, 16, 17, 18, 19, 20, 21, 22, 23, 24, 25, 26, 27, 28, 29, 30, 31, 32, 33, 34, 35, 36, 37, 50, 51, 52, 53, 54, 55, 56, 57, 58, 59, 60, 61, 62, 47, 48, 49] (by decide +kernel) (by decide +kernel)
set_option maxRecDepth 20000 in
theorem gX3_takeStorm_X3_felledInVain : GoodIn wsX3_takeStorm (wsV RX3 97 RX3 yX3_felledInVain wsX3_felledInVain) := goodIn_app (goodIn_of _ (by decide +kernel)) ggX3_takeStorm_X3_felledInVain
set_option maxRecDepth 20000 in
theorem ggX3_takeStorm_X3_regret : GoodIn wsX3_takeStorm wsX3_regret := goodIn_r _ [41, 42, 11, 12, 13, 9, 14, 15, 16, 17, 18, 19, 20, 21, 22, 23, 24, 25, 26, 27, 28, 29, 30, 31, 32, 33, 34, 35, 36, 37, 50, 51, 52, 53, 54, 55, 56, 57, 58, 59, 60, 61, 62, 47, 48, 49] (by decide +kernel) (by decide +kernel)
set_option maxRecDepth 20000 in
theorem gX3_takeStorm_X3_regret : GoodIn wsX3_takeStorm (wsV RX3 101 RX3 yX3_regret wsX3_regret) := goodIn_app (goodIn_of _ (by decide +kernel)) ggX3_takeStorm_X3_regret
set_option maxRecDepth 20000 in
theorem ggX3_takeStorm_X3_loseWorths : GoodIn wsX3_takeStorm wsX3_loseWorths := goodIn_r _ [46, 42, 11, 12, 13, 9, 14, 15, 16, 17, 18, 19, 20, 21, 22, 23, 24, 25, 26, 27, 28, 29, 30, 31, 32, 33, 34, 35, 36, 37, 50, 51, 52, 53, 54, 55, 56, 57, 58, 59, 60, 61, 62, 47, 48, 49] (by decide +kernel) (by decide +kernel)
set_option maxRecDepth 20000 in
theorem gX3_takeStorm_X3_loseWorths : GoodIn wsX3_takeStorm (wsV RX3 105 RX3 yX3_loseWorths wsX3_loseWorths) := goodIn_app (goodIn_of _ (by decide +kernel)) ggX3_takeStorm_X3_loseWorths
set_option maxRecDepth 20000 in
theorem ggX3_felledInVain_X3_isEndangered : GoodIn wsX3_felledInVain wsX3_isEndangered := goodIn_r _ [6, 7, 8, 9, 5, 10, 11, 12, 13, 14, 15, 16, 17, 18, 19, 20, 21, 22, 23, 24, 25, 26, 27, 28, 29, 30, 31, 32, 33, 34, 35, 36, 37, 38, 39, 40, 41, 42, 43, 44, 45] (by decide +kernel) (by decide +kernel)
set_option maxRecDepth 20000 in
theorem gX3_felledInVain_X3_isEndangered : GoodIn wsX3_felledInVain (wsV RX3 108 RX3 yX3_isEndangered wsX3_isEndangered) := goodIn_app (goodIn_of _ (by decide +kernel)) ggX3_felledInVain_X3_isEndangered
set_option maxRecDepth 20000 in
theorem ggX3_regret_X3_isEndangered : GoodIn wsX3_regret wsX3_isEndangered := goodIn_r _ [6, 7, 8, 9, 5, 10, 11, 12, 13, 14, 15, 16, 17, 18, 19, 20, 21, 22, 23, 24, 25, 26, 27, 28, 29, 30, 31, 32, 33, 34, 35, 36, 37, 38, 39, 40, 41, 42, 43, 44, 45] (by decide +kernel) (by decide +kernel)
set_option maxRecDepth 20000 in
theorem gX3_regret_X3_isEndangered : GoodIn wsX3_regret (wsV RX3 108 RX3 yX3_isEndangered wsX3_isEndangered) := goodIn_app (goodIn_of _ (by decide +kernel)) ggX3_regret_X3_isEndangered
set_option maxRecDepth 20000 in
theorem ggX3_loseWorths_X3_isEndangered : GoodIn wsX3_loseWorths wsX3_isEndangered := goodIn_r _ [6, 7, 8, 9, 5, 10, 11, 12, 13, 14, 15, 16, 17, 18, 19, 20, 21, 22, 23, 24, 25, 26, 27, 28, 29, 30, 31, 32, 33, 34, 35, 36, 37, 38, 39, 40, 41, 42, 43, 44, 45] (by decide +kernel) (by decide +kernel)
set_option maxRecDepth 20000 in
theorem gX3_loseWorths_X3_isEndangered : GoodIn wsX3_loseWorths (wsV RX3 108 RX3 yX3_isEndangered wsX3_isEndangered) := goodIn_app (goodIn_of _ (by decide +kernel)) ggX3_loseWorths_X3_isEndangered
set_option maxRecDepth 20000 in
theorem ggX3_whyNot_X3_stepsTo : GoodIn wsX3_whyNot wsX3_stepsTo := goodIn_r _ [8, 9, 10, 11, 12, 13, 14, 15, 16, 17, 18, 19, 20, 21, 22, 23, 24, 25, 26, 27] (by decide +kernel) (by decide +kernel)
set_option maxRecDepth 20000 in
theorem gX3_whyNot_X3_stepsTo : GoodIn wsX3_whyNot (wsV RX3 81 RX3 yX3_stepsTo wsX3_stepsTo) := goodIn_app (goodIn_of _ (by decide +kernel)) ggX3_whyNot_X3_stepsTo
set_option maxRecDepth 20000 in
theorem ggX3_bestPlot_X3_whyNot : GoodIn wsX3_bestPlot wsX3_whyNot := goodIn_r _ [5, 6, 7, 8, 9, 10, 11, 4, 12, 13, 14, 15, 16, 17, 18, 48, 49, 50, 51, 52, 53, 54, 55, 56, 57, 58, 59, 60] (by decide +kernel) (by decide +kernel)
set_option maxRecDepth 20000 in
theorem gX3_bestPlot_X3_whyNot : GoodIn wsX3_bestPlot (wsV RX3 115 RX3 yX3_whyNot wsX3_whyNot) := goodIn_app (goodIn_of _ (by decide +kernel)) ggX3_bestPlot_X3_whyNot
set_option maxRecDepth 20000 in
theorem ggX3_bestPlot_X3_isBetter : GoodIn wsX3_bestPlot wsX3_isBetter := goodIn_r _ [22, 6, 23, 24, 25, 4, 26, 27, 28, 29, 30, 8, 31, 32, 33, 34, 35, 36, 37, 16, 38, 39, 40, 41, 42, 43, 44, 45, 46, 47, 9, 10, 11, 12, 13, 14, 15, 17, 18, 48, 49, 50, 51, 52, 53, 54, 55, 56, 57, 58, 59, 60, 61, 62, 63] (by decide +kernel) (by decide +kernel)
set_option maxRecDepth 20000 in
theorem gX3_bestPlot_X3_isBetter : GoodIn wsX3_bestPlot (wsV RX3 118 RX3 yX3_isBetter wsX3_isBetter) := goodIn_app (goodIn_of _ (by decide +kernel)) ggX3_bestPlot_X3_isBetter
set_option maxRecDepth 20000 in
theorem ggX3_isBetter_X3_standsToLose : GoodIn wsX3_isBetter wsX3_standsToLose := goodIn_r _ [6, 1, 7, 8, 9, 5, 10, 11, 12, 13, 14, 15, 16, 17, 18, 19, 20, 21, 22, 23, 24, 25, 26, 27, 28, 29, 52, 53, 54, 39, 40, 41, 42, 43, 44, 45, 46, 47, 48, 49, 50, 51] (by decide +kernel) (by decide +kernel)
set_option maxRecDepth 20000 in
theorem gX3_isBetter_X3_standsToLose : GoodIn wsX3_isBetter (wsV RX3 122 RX3 yX3_standsToLose wsX3_standsToLose) := goodIn_app (goodIn_of _ (by decide +kernel)) ggX3_isBetter_X3_standsToLose
set_option maxRecDepth 20000 in
theorem ggX3_isBetter_X3_stepsTo : GoodIn wsX3_isBetter wsX3_stepsTo := goodIn_r _ [33, 34, 35, 36, 19, 37, 38, 39, 40, 41, 42, 43, 44, 45, 46, 47, 48, 49, 50, 51] (by decide +kernel) (by decide +kernel)
set_option maxRecDepth 20000 in
theorem gX3_isBetter_X3_stepsTo : GoodIn wsX3_isBetter (wsV RX3 81 RX3 yX3_stepsTo wsX3_stepsTo) := goodIn_app (goodIn_of _ (by decide +kernel)) ggX3_isBetter_X3_stepsTo
set_option maxRecDepth 20000 in
theorem ggX3_hits_X2_within : GoodIn wsX3_hits wsX2_within := goodIn_r _ [6, 7, 8, 9, 10, 11, 12, 13, 14, 15, 16, 5, 17, 18, 19, 33, 34, 35] (by decide +kernel) (by decide +kernel)
set_option maxRecDepth 20000 in
theorem gX3_hits_X2_within : GoodIn wsX3_hits (wsV RX3 125 RX2 yX2_within wsX2_within) := goodIn_app (goodIn_of _ (by decide +kernel)) ggX3_hits_X2_within
set_option maxRecDepth 20000 in
theorem ggX3_isEndangered_X3_hits : GoodIn wsX3_isEndangered wsX3_hits := goodIn_r _ [5, 6, 7, 8, 9, 10, 11, 12, 13, 14, 15, 16, 17, 18, 19, 20, 21, 22, 23, 24, 25, 26, 27, 28, 29, 30, 31, 32, 33, 34, 35, 36, 37, 38, 39, 40] (by decide +kernel) (by decide +kernel)
set_option maxRecDepth 20000 in
theorem gX3_isEndangered_X3_hits : GoodIn wsX3_isEndangered (wsV RX3 128 RX3 yX3_hits wsX3_hits) := goodIn_app (goodIn_of _ (by decide +kernel)) ggX3_isEndangered_X3_hits
set_option maxRecDepth 20000 in
theorem ggX3_isDoomed_X3_hits : GoodIn wsX3_isDoomed wsX3_hits := goodIn_r _ [5, 6, 7, 8, 9, 10, 11, 12, 13, 14, 15, 16, 17, 18, 19, 20, 21, 22, 23, 24, 28, 29, 30, 31, 32, 33, 34, 35, 36, 37, 38, 39, 40, 25, 26, 27] (by decide +kernel) (by decide +kernel)
set_option maxRecDepth 20000 in
theorem gX3_isDoomed_X3_hits : GoodIn wsX3_isDoomed (wsV RX3 128 RX3 yX3_hits wsX3_hits) := goodIn_app (goodIn_of _ (by decide +kernel)) ggX3_isDoomed_X3_hits
set_option maxRecDepth 20000 in
theorem ggX3_standsToLose_X3_hits : GoodIn wsX3_standsToLose wsX3_hits := goodIn_r _ [6, 7, 8, 9, 10, 11, 12, 13, 14, 15, 16, 17, 18, 19, 20, 21, 22, 23, 24, 25, 29, 30, 31, 32, 33, 34, 35, 36, 37, 38, 39, 40, 41, 26, 27, 28] (by decide +kernel) (by decide +kernel)
set_option maxRecDepth 20000 in
theorem gX3_standsToLose_X3_hits : GoodIn wsX3_standsToLose (wsV RX3 128 RX3 yX3_hits wsX3_hits) := goodIn_app (goodIn_of _ (by decide +kernel)) ggX3_standsToLose_X3_hits
set_option maxRecDepth 20000 in
theorem ggX3_endangeredPlots_X3_isEndangered : GoodIn wsX3_endangeredPlots wsX3_isEndangered := goodIn_r _ [5, 6, 7, 8, 4, 9, 10, 11, 12, 13, 14, 15, 16, 17, 18, 19, 20, 21, 22, 23, 24, 25, 26, 27, 28, 29, 30, 31, 32, 33, 34, 35, 36, 37, 38, 39, 40, 41, 42, 43, 44] (by decide +kernel) (by decide +kernel)
set_option maxRecDepth 20000 in
theorem gX3_endangeredPlots_X3_isEndangered : GoodIn wsX3_endangeredPlots (wsV RX3 108 RX3 yX3_isEndangered wsX3_isEndangered) := goodIn_app (goodIn_of _ (by decide +kernel)) ggX3_endangeredPlots_X3_isEndangered
set_option maxRecDepth 20000 in
theorem ggX3_doomedPlots_X3_isDoomed : GoodIn wsX3_doomedPlots wsX3_isDoomed := goodIn_r _ [5, 6, 7, 8, 4, 9, 10, 11, 12, 13, 14, 15, 16, 17, 18, 19, 20, 21, 22, 23, 24, 25, 26, 27, 28, 29, 30, 31, 32, 33, 34, 35, 36, 37, 38, 39, 40, 41, 42, 43, 44] (by decide +kernel) (by decide +kernel)
set_option maxRecDepth 20000 in
theorem gX3_doomedPlots_X3_isDoomed : GoodIn wsX3_doomedPlots (wsV RX3 131 RX3 yX3_isDoomed wsX3_isDoomed) := goodIn_app (goodIn_of _ (by decide +kernel)) ggX3_doomedPlots_X3_isDoomed
set_option maxRecDepth 20000 in
theorem ggX3_allStandToLose_X3_standsToLose : GoodIn wsX3_allStandToLose wsX3_standsToLose := goodIn_r _ [5, 6, 7, 8, 9, 4, 10, 11, 12, 13, 14, 15, 16, 17, 18, 19, 20, 21, 22, 23, 24, 25, 26, 27, 28, 29, 30, 31, 32, 33, 34, 35, 36, 37, 38, 39, 40, 41, 42, 43, 44, 45] (by decide +kernel) (by decide +kernel)
set_option maxRecDepth 20000 in
theorem gX3_allStandToLose_X3_standsToLose : GoodIn wsX3_allStandToLose (wsV RX3 122 RX3 yX3_standsToLose wsX3_standsToLose) := goodIn_app (goodIn_of _ (by decide +kernel)) ggX3_allStandToLose_X3_standsToLose
set_option maxRecDepth 20000 in
theorem ggX4_init_X3_init : GoodIn wsX4_init wsX3_init := goodIn_r _ [24, 25, 2, 3, 26, 27, 28, 29, 30, 31, 32, 33, 34, 35, 53, 54, 55, 56, 57, 58, 59, 60, 61, 62, 63, 64, 65] (by decide +kernel) (by decide +kernel)
set_option maxRecDepth 20000 in
theorem gX4_init_X3_init : GoodIn wsX4_init (wsX3_init) := ggX4_init_X3_init
set_option maxRecDepth 20000 in
theorem ggX4_init_X1_init : GoodIn wsX4_init wsX1_init := goodIn_r _ [38, 39, 2, 3, 40, 41, 5, 6, 42, 23, 24, 25, 26, 27, 28, 29, 30, 31, 32, 33, 34, 35, 75, 76, 53, 54, 55, 56, 57, 58, 59, 60, 61, 62, 63, 64, 65] (by decide +kernel) (by decide +kernel)
set_option maxRecDepth 20000 in
theorem gX4_init_X1_init : GoodIn wsX4_init (wsX1_init) := ggX4_init_X1_init
set_option maxRecDepth 20000 in
theorem ggX4_init_X2_init : GoodIn wsX4_init wsX2_init := goodIn_r _ [44, 45, 2, 3, 26, 46, 47, 77, 78, 79] (by decide +kernel) (by decide +kernel)
set_option maxRecDepth 20000 in
theorem gX4_init_X2_init_n31 : GoodIn wsX4_init (wsX2_init) := ggX4_init_X2_init
set_option maxRecDepth 20000 in
theorem ggX4_init_X0_init : GoodIn wsX4_init wsX0_init := goodIn_r _ [49, 50, 2, 3, 51, 52, 80, 81, 82, 83, 84, 85] (by decide +kernel) (by decide +kernel)
set_option maxRecDepth 20000 in
theorem gX4_init_X0_init_n38 : GoodIn wsX4_init (wsX0_init) := ggX4_init_X0_init
set_option maxRecDepth 20000 in
theorem ggX4_grow_X3_copyFrom : GoodIn wsX4_grow wsX3_copyFrom := goodIn_r _ [7, 8, 9, 10, 11, 12, 13, 14, 15, 16, 17, 18, 19, 20, 21, 22, 23, 24, 58, 59, 60, 61, 62, 63, 64, 65, 66, 67, 68, 69, 70] (by decide +kernel) (by decide +kernel)
set_option maxRecDepth 20000 in
theorem gX4_grow_X3_copyFrom : GoodIn wsX4_grow (wsV RX4 43 RX3 yX3_copyFrom wsX3_copyFrom) := goodIn_app (goodIn_of _ (by decide +kernel)) ggX4_grow_X3_copyFrom
set_option maxRecDepth 20000 in
theorem ggX4_grow_X3_plant : GoodIn wsX4_grow wsX3_plant := goodIn_r _ [28, 8, 29, 30, 31, 58, 59, 60, 61, 62, 63, 64, 65, 66, 67, 68, 69, 70] (by decide +kernel) (by decide +kernel)
set_option maxRecDepth 20000 in
theorem gX4_grow_X3_plant : GoodIn wsX4_grow (wsV RX4 47 RX3 yX3_plant wsX3_plant) := goodIn_app (goodIn_of _ (by decide +kernel)) ggX4_grow_X3_plant
set_option maxRecDepth 20000 in
theorem ggX4_grow_X4_recorded : GoodIn wsX4_grow wsX4_recorded := goodIn_r _ [35, 36, 1, 37, 38, 39, 40, 41, 42, 43, 44, 45, 46, 47, 48, 4, 5, 6, 7, 8, 9, 10, 11, 12, 13, 14, 15, 16, 17, 18, 19, 20, 21, 22, 23, 24, 49, 50, 51, 52, 53, 54, 55, 56, 57, 71, 72, 58, 59, 60, 61, 62, 63, 64, 65, 66, 67, 68, 69, 70] (by decide +kernel) (by decide +kernel)
set_option maxRecDepth 20000 in
theorem gX4_grow_X4_recorded : GoodIn wsX4_grow (wsV RX4 51 RX4 yX4_recorded wsX4_recorded) := goodIn_app (goodIn_of _ (by decide +kernel)) ggX4_grow_X4_recorded
set_option maxRecDepth 20000 in
theorem ggX4_rain_X3_copyFrom : GoodIn wsX4_rain wsX3_copyFrom := goodIn_r _ [7, 8, 9, 10, 11, 12, 13, 14, 15, 16, 17, 18, 19, 20, 21, 22, 23, 24, 62, 63, 64, 65, 66, 67, 68, 69, 70, 71, 72, 73, 74] (by decide +kernel) (by decide +kernel)
set_option maxRecDepth 20000 in
theorem gX4_rain_X3_copyFrom : GoodIn wsX4_rain (wsV RX4 43 RX3 yX3_copyFrom wsX3_copyFrom) := goodIn_app (goodIn_of _ (by decide +kernel)) ggX4_rain_X3_copyFrom
set_option maxRecDepth 20000 in
theorem ggX4_rain_X3_getWet : GoodIn wsX4_rain wsX3_getWet := goodIn_r _ [28, 14, 29, 30, 31, 32, 33, 34, 35, 62, 63, 64, 65, 66, 67, 68, 69, 70, 71, 72, 73, 74] (by decide +kernel) (by decide +kernel)
set_option maxRecDepth 20000 in
theorem gX4_rain_X3_getWet : GoodIn wsX4_rain (wsV RX4 55 RX3 yX3_getWet wsX3_getWet) := goodIn_app (goodIn_of _ (by decide +kernel)) ggX4_rain_X3_getWet
set_option maxRecDepth 20000 in
theorem ggX4_rain_X4_recorded : GoodIn wsX4_rain wsX4_recorded := goodIn_r _ [39, 40, 1, 41, 42, 43, 44, 45, 46, 47, 48, 49, 50, 51, 52, 4, 5, 6, 7, 8, 9, 10, 11, 12, 13, 14, 15, 16, 17, 18, 19, 20, 21, 22, 23, 24, 53, 54, 55, 56, 57, 58, 59, 60, 61, 75, 76, 62, 63, 64, 65, 66, 67, 68, 69, 70, 71, 72, 73, 74] (by decide +kernel) (by decide +kernel)
set_option maxRecDepth 20000 in
theorem gX4_rain_X4_recorded : GoodIn wsX4_rain (wsV RX4 51 RX4 yX4_recorded wsX4_recorded) := goodIn_app (goodIn_of _ (by decide +kernel)) ggX4_rain_X4_recorded
set_option maxRecDepth 20000 in
theorem ggX4_endDays_X3_copyFrom : GoodIn wsX4_endDays wsX3_copyFrom := goodIn_r _ [7, 8, 9, 10, 11, 12, 13, 14, 15, 16, 17, 18, 19, 20, 21, 22, 23, 24, 62, 63, 64, 65, 66, 67, 68, 69, 70, 71, 72, 73, 74] (by decide +kernel) (by decide +kernel)
set_option maxRecDepth 20000 in
theorem gX4_endDays_X3_copyFrom : GoodIn wsX4_endDays (wsV RX4 43 RX3 yX3_copyFrom wsX3_copyFrom) := goodIn_app (goodIn_of _ (by decide +kernel)) ggX4_endDays_X3_copyFrom
set_option maxRecDepth 20000 in
theorem ggX4_endDays_X3_passDays : GoodIn wsX4_endDays wsX3_passDays := goodIn_r _ [28, 21, 14, 29, 30, 31, 32, 16, 20, 33, 34, 35, 62, 63, 64, 65, 66, 67, 68, 69, 70, 71, 72, 73, 74] (by decide +kernel) (by decide +kernel)
set_option maxRecDepth 20000 in
theorem gX4_endDays_X3_passDays : GoodIn wsX4_endDays (wsV RX4 58 RX3 yX3_passDays wsX3_passDays) := goodIn_app (goodIn_of _ (by decide +kernel)) ggX4_endDays_X3_passDays
set_option maxRecDepth 20000 in
theorem ggX4_endDays_X4_recorded : GoodIn wsX4_endDays wsX4_recorded := goodIn_r _ [39, 40, 1, 41, 42, 43, 44, 45, 46, 47, 48, 49, 50, 51, 52, 4, 5, 6, 7, 8, 9, 10, 11, 12, 13, 14, 15, 16, 17, 18, 19, 20, 21, 22, 23, 24, 53, 54, 55, 56, 57, 58, 59, 60, 61, 75, 76, 62, 63, 64, 65, 66, 67, 68, 69, 70, 71, 72, 73, 74] (by decide +kernel) (by decide +kernel)
set_option maxRecDepth 20000 in
theorem gX4_endDays_X4_recorded : GoodIn wsX4_endDays (wsV RX4 51 RX4 yX4_recorded wsX4_recorded) := goodIn_app (goodIn_of _ (by decide +kernel)) ggX4_endDays_X4_recorded
set_option maxRecDepth 20000 in
theorem ggX4_set_X3_copyFrom : GoodIn wsX4_set wsX3_copyFrom := goodIn_r _ [7, 8, 9, 10, 11, 12, 13, 14, 15, 16, 17, 18, 19, 20, 21, 22, 23, 24, 58, 59, 60, 61, 62, 63, 64, 65, 66, 67, 68, 69, 70] (by decide +kernel) (by decide +kernel)
set_option maxRecDepth 20000 in
theorem gX4_set_X3_copyFrom : GoodIn wsX4_set (wsV RX4 43 RX3 yX3_copyFrom wsX3_copyFrom) := goodIn_app (goodIn_of _ (by decide +kernel)) ggX4_set_X3_copyFrom
set_option maxRecDepth 20000 in
theorem ggX4_set_X3_changeSetting : GoodIn wsX4_set wsX3_changeSetting := goodIn_r _ [28, 20, 29, 30, 31, 58, 59, 60, 61, 62, 63, 64, 65, 66, 67, 68, 69, 70] (by decide +kernel) (by decide +kernel)
set_option maxRecDepth 20000 in
theorem gX4_set_X3_changeSetting : GoodIn wsX4_set (wsV RX4 61 RX3 yX3_changeSetting wsX3_changeSetting) := goodIn_app (goodIn_of _ (by decide +kernel)) ggX4_set_X3_changeSetting
set_option maxRecDepth 20000 in
theorem ggX4_set_X4_recorded : GoodIn wsX4_set wsX4_recorded := goodIn_r _ [35, 36, 1, 37, 38, 39, 40, 41, 42, 43, 44, 45, 46, 47, 48, 4, 5, 6, 7, 8, 9, 10, 11, 12, 13, 14, 15, 16, 17, 18, 19, 20, 21, 22, 23, 24, 49, 50, 51, 52, 53, 54, 55, 56, 57, 71, 72, 58, 59, 60, 61, 62, 63, 64, 65, 66, 67, 68, 69, 70] (by decide +kernel) (by decide +kernel)
set_option maxRecDepth 20000 in
theorem gX4_set_X4_recorded : GoodIn wsX4_set (wsV RX4 51 RX4 yX4_recorded wsX4_recorded) := goodIn_app (goodIn_of _ (by decide +kernel)) ggX4_set_X4_recorded
set_option maxRecDepth 20000 in
theorem ggX4_go_X3_copyFrom : GoodIn wsX4_go wsX3_copyFrom := goodIn_r _ [7, 8, 9, 10, 11, 12, 13, 14, 15, 16, 17, 18, 19, 20, 21, 22, 23, 24, 66, 67, 68, 69, 70, 71, 72, 73, 74, 75, 76, 77, 78] (by decide +kernel) (by decide +kernel)
set_option maxRecDepth 20000 in
theorem gX4_go_X3_copyFrom : GoodIn wsX4_go (wsV RX4 43 RX3 yX3_copyFrom wsX3_copyFrom) := goodIn_app (goodIn_of _ (by decide +kernel)) ggX4_go_X3_copyFrom
set_option maxRecDepth 20000 in
theorem ggX4_go_X3_sendCrew : GoodIn wsX4_go wsX3_sendCrew := goodIn_r _ [28, 16, 15, 29, 30, 31, 32, 33, 34, 6, 35, 36, 37, 38, 39, 14, 66, 67, 68, 69, 70, 71, 72, 73, 74, 75, 76, 77, 78] (by decide +kernel) (by decide +kernel)
set_option maxRecDepth 20000 in
theorem gX4_go_X3_sendCrew : GoodIn wsX4_go (wsV RX4 64 RX3 yX3_sendCrew wsX3_sendCrew) := goodIn_app (goodIn_of _ (by decide +kernel)) ggX4_go_X3_sendCrew
set_option maxRecDepth 20000 in
theorem ggX4_go_X4_recorded : GoodIn wsX4_go wsX4_recorded := goodIn_r _ [43, 44, 1, 45, 46, 47, 48, 49, 50, 51, 52, 53, 54, 55, 56, 4, 5, 6, 7, 8, 9, 10, 11, 12, 13, 14, 15, 16, 17, 18, 19, 20, 21, 22, 23, 24, 57, 58, 59, 60, 61, 62, 63, 64, 65, 79, 80, 66, 67, 68, 69, 70, 71, 72, 73, 74, 75, 76, 77, 78] (by decide +kernel) (by decide +kernel)
set_option maxRecDepth 20000 in
theorem gX4_go_X4_recorded : GoodIn wsX4_go (wsV RX4 51 RX4 yX4_recorded wsX4_recorded) := goodIn_app (goodIn_of _ (by decide +kernel)) ggX4_go_X4_recorded
set_option maxRecDepth 20000 in
theorem ggX4_fell_X3_copyFrom : GoodIn wsX4_fell wsX3_copyFrom := goodIn_r _ [7, 8, 9, 10, 11, 12, 13, 14, 15, 16, 17, 18, 19, 20, 21, 22, 23, 24, 58, 59, 60, 61, 62, 63, 64, 65, 66, 67, 68, 69, 70] (by decide +kernel) (by decide +kernel)
set_option maxRecDepth 20000 in
theorem gX4_fell_X3_copyFrom : GoodIn wsX4_fell (wsV RX4 43 RX3 yX3_copyFrom wsX3_copyFrom) := goodIn_app (goodIn_of _ (by decide +kernel)) ggX4_fell_X3_copyFrom
set_option maxRecDepth 20000 in
theorem ggX4_fell_X3_fellHere : GoodIn wsX4_fell wsX3_fellHere := goodIn_r _ [28, 20, 16, 15, 8, 13, 17, 18, 29, 30, 31, 58, 59, 60, 61, 62, 63, 64, 65, 66, 67, 68, 69, 70] (by decide +kernel) (by decide +kernel)
set_option maxRecDepth 20000 in
theorem gX4_fell_X3_fellHere : GoodIn wsX4_fell (wsV RX4 67 RX3 yX3_fellHere wsX3_fellHere) := goodIn_app (goodIn_of _ (by decide +kernel)) ggX4_fell_X3_fellHere
set_option maxRecDepth 20000 in
theorem ggX4_fell_X4_recorded : GoodIn wsX4_fell wsX4_recorded := goodIn_r _ [35, 36, 1, 37, 38, 39, 40, 41, 42, 43, 44, 45, 46, 47, 48, 4, 5, 6, 7, 8, 9, 10, 11, 12, 13, 14, 15, 16, 17, 18, 19, 20, 21, 22, 23, 24, 49, 50, 51, 52, 53, 54, 55, 56, 57, 71, 72, 58, 59, 60, 61, 62, 63, 64, 65, 66, 67, 68, 69, 70] (by decide +kernel) (by decide +kernel)
set_option maxRecDepth 20000 in
theorem gX4_fell_X4_recorded : GoodIn wsX4_fell (wsV RX4 51 RX4 yX4_recorded wsX4_recorded) := goodIn_app (goodIn_of _ (by decide +kernel)) ggX4_fell_X4_recorded
set_option maxRecDepth 20000 in
theorem ggX4_hint_X3_copyFrom : GoodIn wsX4_hint wsX3_copyFrom := goodIn_r _ [7, 8, 9, 10, 11, 12, 13, 14, 15, 16, 17, 18, 19, 20, 21, 22, 23, 24, 81, 82, 83, 84, 85, 86, 87, 88, 89, 90, 91, 92, 93] (by decide +kernel) (by decide +kernel)
set_option maxRecDepth 20000 in
theorem gX4_hint_X3_copyFrom : GoodIn wsX4_hint (wsV RX4 43 RX3 yX3_copyFrom wsX3_copyFrom) := goodIn_app (goodIn_of _ (by decide +kernel)) ggX4_hint_X3_copyFrom
set_option maxRecDepth 20000 in
theorem ggX4_hint_X4_pathsLeft : GoodIn wsX4_hint wsX4_pathsLeft := goodIn_r _ [29, 30, 2, 31, 32, 33, 34, 35, 36, 37, 38, 39, 40, 41, 42, 43, 44, 72, 73, 74, 75, 76, 77, 78, 79, 80, 81, 82, 83, 84, 85, 86, 87, 88, 89, 90, 91, 92, 93, 94, 95, 96] (by decide +kernel) (by decide +kernel)
set_option maxRecDepth 20000 in
theorem gX4_hint_X4_pathsLeft : GoodIn wsX4_hint (wsV RX4 70 RX4 yX4_pathsLeft wsX4_pathsLeft) := goodIn_app (goodIn_of _ (by decide +kernel)) ggX4_hint_X4_pathsLeft
set_option maxRecDepth 20000 in
theorem ggX4_hint_X3_tellColumn : GoodIn wsX4_hint wsX3_tellColumn := goodIn_r _ [48, 19, 49, 28, 50, 51, 52, 53, 34, 54, 36, 37, 81, 82, 83, 84, 85, 86, 87, 88, 89, 90, 91, 92, 93, 94, 95, 96] (by decide +kernel) (by decide +kernel)
set_option maxRecDepth 20000 in
theorem gX4_hint_X3_tellColumn : GoodIn wsX4_hint (wsV RX4 74 RX3 yX3_tellColumn wsX3_tellColumn) := goodIn_app (goodIn_of _ (by decide +kernel)) ggX4_hint_X3_tellColumn
set_option maxRecDepth 20000 in
theorem ggX4_hint_X4_recorded : GoodIn wsX4_hint wsX4_recorded := goodIn_r _ [58, 59, 1, 60, 61, 62, 63, 64, 65, 66, 67, 68, 69, 70, 71, 4, 5, 6, 7, 8, 9, 10, 11, 12, 13, 14, 15, 16, 17, 18, 19, 20, 21, 22, 23, 24, 72, 73, 74, 75, 76, 77, 78, 79, 80, 97, 98, 81, 82, 83, 84, 85, 86, 87, 88, 89, 90, 91, 92, 93] (by decide +kernel) (by decide +kernel)
set_option maxRecDepth 20000 in
theorem gX4_hint_X4_recorded : GoodIn wsX4_hint (wsV RX4 51 RX4 yX4_recorded wsX4_recorded) := goodIn_app (goodIn_of _ (by decide +kernel)) ggX4_hint_X4_recorded
set_option maxRecDepth 20000 in
theorem ggX4_takeBack_X3_copyFrom : GoodIn wsX4_takeBack wsX3_copyFrom := goodIn_r _ [8, 9, 10, 11, 12, 13, 14, 15, 16, 17, 18, 19, 20, 21, 22, 23, 24, 25, 73, 74, 75, 76, 77, 78, 79, 80, 81, 82, 83, 84, 85] (by decide +kernel) (by decide +kernel)
set_option maxRecDepth 20000 in
theorem gX4_takeBack_X3_copyFrom : GoodIn wsX4_takeBack (wsV RX4 43 RX3 yX3_copyFrom wsX3_copyFrom) := goodIn_app (goodIn_of _ (by decide +kernel)) ggX4_takeBack_X3_copyFrom
set_option maxRecDepth 20000 in
theorem ggX4_takeBack_X3_untellColumn : GoodIn wsX4_takeBack wsX3_untellColumn := goodIn_r _ [29, 20, 30, 31, 32, 33, 34, 35, 36, 37, 38, 39, 40, 41, 42, 43, 44, 45, 46, 73, 74, 75, 76, 77, 78, 79, 80, 81, 82, 83, 84, 85, 86, 87, 88] (by decide +kernel) (by decide +kernel)
set_option maxRecDepth 20000 in
theorem gX4_takeBack_X3_untellColumn : GoodIn wsX4_takeBack (wsV RX4 78 RX3 yX3_untellColumn wsX3_untellColumn) := goodIn_app (goodIn_of _ (by decide +kernel)) ggX4_takeBack_X3_untellColumn
set_option maxRecDepth 20000 in
theorem ggX4_takeBack_X4_recorded : GoodIn wsX4_takeBack wsX4_recorded := goodIn_r _ [50, 51, 1, 52, 53, 54, 55, 56, 57, 58, 59, 60, 61, 62, 63, 5, 6, 7, 8, 9, 10, 11, 12, 13, 14, 15, 16, 17, 18, 19, 20, 21, 22, 23, 24, 25, 64, 65, 66, 67, 68, 69, 70, 71, 72, 89, 90, 73, 74, 75, 76, 77, 78, 79, 80, 81, 82, 83, 84, 85] (by decide +kernel) (by decide +kernel)
set_option maxRecDepth 20000 in
theorem gX4_takeBack_X4_recorded : GoodIn wsX4_takeBack (wsV RX4 51 RX4 yX4_recorded wsX4_recorded) := goodIn_app (goodIn_of _ (by decide +kernel)) ggX4_takeBack_X4_recorded
set_option maxRecDepth 20000 in
theorem ggX4_storm_X3_copyFrom : GoodIn wsX4_storm wsX3_copyFrom := goodIn_r _ [7, 8, 9, 10, 11, 12, 13, 14, 15, 16, 17, 18, 19, 20, 21, 22, 23, 24, 110, 111, 112, 113, 114, 115, 116, 117, 118, 119, 120, 121, 122] (by decide +kernel) (by decide +kernel)
set_option maxRecDepth 20000 in
theorem gX4_storm_X3_copyFrom : GoodIn wsX4_storm (wsV RX4 43 RX3 yX3_copyFrom wsX3_copyFrom) := goodIn_app (goodIn_of _ (by decide +kernel)) ggX4_storm_X3_copyFrom
set_option maxRecDepth 20000 in
theorem ggX4_storm_X4_pathsLeft : GoodIn wsX4_storm wsX4_pathsLeft := goodIn_r _ [29, 30, 2, 31, 32, 33, 34, 35, 36, 37, 38, 39, 40, 41, 42, 43, 44, 101, 102, 103, 104, 105, 106, 107, 108, 109, 110, 111, 112, 113, 114, 115, 116, 117, 118, 119, 120, 121, 122, 123, 124, 125] (by decide +kernel) (by decide +kernel)
set_option maxRecDepth 20000 in
theorem gX4_storm_X4_pathsLeft : GoodIn wsX4_storm (wsV RX4 70 RX4 yX4_pathsLeft wsX4_pathsLeft) := goodIn_app (goodIn_of _ (by decide +kernel)) ggX4_storm_X4_pathsLeft
set_option maxRecDepth 20000 in
theorem ggX4_storm_X3_takeStorm : GoodIn wsX4_storm wsX3_takeStorm := goodIn_r _ [48, 23, 22, 24, 13, 19, 49, 50, 51, 6, 52, 53, 54, 55, 56, 57, 58, 59, 60, 20, 61, 62, 63, 34, 64, 65, 66, 67, 68, 69, 70, 71, 72, 73, 74, 75, 36, 37, 76, 77, 78, 79, 8, 80, 81, 82, 83, 123, 124, 125, 110, 111, 112, 113, 114, 115, 116, 117, 118, 119, 120, 121, 122] (by decide +kernel) (by decide +kernel)
set_option maxRecDepth 20000 in
theorem gX4_storm_X3_takeStorm : GoodIn wsX4_storm (wsV RX4 82 RX3 yX3_takeStorm wsX3_takeStorm) := goodIn_app (goodIn_of _ (by decide +kernel)) ggX4_storm_X3_takeStorm
set_option maxRecDepth 20000 in
theorem ggX4_storm_X4_recorded : GoodIn wsX4_storm wsX4_recorded := goodIn_r _ [87, 88, 1, 89, 90, 91, 92, 93, 94, 95, 96, 97, 98, 99, 100, 4, 5, 6, 7, 8, 9, 10, 11, 12, 13, 14, 15, 16, 17, 18, 19, 20, 21, 22, 23, 24, 101, 102, 103, 104, 105, 106, 107, 108, 109, 126, 127, 110, 111, 112, 113, 114, 115, 116, 117, 118, 119, 120, 121, 122] (by decide +kernel) (by decide +kernel)
set_option maxRecDepth 20000 in
theorem gX4_storm_X4_recorded : GoodIn wsX4_storm (wsV RX4 51 RX4 yX4_recorded wsX4_recorded) := goodIn_app (goodIn_of _ (by decide +kernel)) ggX4_storm_X4_recorded
set_option maxRecDepth 20000 in
theorem ggX4_clearText_X0_empty : GoodIn wsX4_clearText wsX0_empty := goodIn_r _ [6, 7, 17, 18, 19, 20, 21, 22] (by decide +kernel) (by decide +kernel)
set_option maxRecDepth 20000 in
theorem gX4_clearText_X0_empty : GoodIn wsX4_clearText (wsV RX4 90 RX0 yX0_empty wsX0_empty) := goodIn_app (goodIn_of _ (by decide +kernel)) ggX4_clearText_X0_empty
set_option maxRecDepth 20000 in
theorem ggX4_perform_X0_countThings : GoodIn wsX4_perform wsX0_countThings := goodIn_r _ [10, 11, 12, 13, 14, 15, 9, 16, 17, 18, 19, 20, 21, 22, 23, 24, 25, 26, 27, 28, 29, 30, 31, 32, 33, 34, 35, 36, 37, 38, 39, 40, 41, 42, 43, 44, 45, 46, 47, 48, 49, 50, 51, 173, 174, 175, 176, 177, 178] (by decide +kernel) (by decide +kernel)
set_option maxRecDepth 20000 in
theorem gX4_perform_X0_countThings : GoodIn wsX4_perform (wsV RX4 94 RX0 yX0_countThings wsX0_countThings) := goodIn_app (goodIn_of _ (by decide +kernel)) ggX4_perform_X0_countThings
set_option maxRecDepth 20000 in
theorem ggX4_perform_X3_copyFrom : GoodIn wsX4_perform wsX3_copyFrom := goodIn_r _ [56, 57, 58, 59, 60, 61, 62, 63, 64, 65, 66, 67, 68, 69, 70, 71, 72, 73, 179, 180, 181, 182, 183, 184, 185, 186, 187, 188, 189, 190, 191] (by decide +kernel) (by decide +kernel)
set_option maxRecDepth 20000 in
theorem gX4_perform_X3_copyFrom : GoodIn wsX4_perform (wsV RX4 43 RX3 yX3_copyFrom wsX3_copyFrom) := goodIn_app (goodIn_of _ (by decide +kernel)) ggX4_perform_X3_copyFrom
set_option maxRecDepth 20000 in
theorem ggX4_perform_X0_startOver : GoodIn wsX4_perform wsX0_startOver := goodIn_r _ [16, 11, 173, 174, 175, 176, 177, 178] (by decide +kernel) (by decide +kernel)
set_option maxRecDepth 20000 in
theorem gX4_perform_X0_startOver : GoodIn wsX4_perform (wsV RX4 97 RX0 yX0_startOver wsX0_startOver) := goodIn_app (goodIn_of _ (by decide +kernel)) ggX4_perform_X0_startOver
set_option maxRecDepth 20000 in
theorem ggX4_perform_X0_readNext : GoodIn wsX4_perform wsX0_readNext := goodIn_r _ [78, 26, 27, 28, 9, 29, 11, 12, 30, 17, 18, 19, 20, 21, 22, 23, 24, 25, 31, 32, 33, 34, 35, 36, 37, 38, 39, 40, 41, 42, 43, 44, 45, 46, 47, 48, 49, 50, 51, 173, 174, 175, 176, 177, 178] (by decide +kernel) (by decide +kernel)
set_option maxRecDepth 20000 in
theorem gX4_perform_X0_readNext : GoodIn wsX4_perform (wsV RX4 100 RX0 yX0_readNext wsX0_readNext) := goodIn_app (goodIn_of _ (by decide +kernel)) ggX4_perform_X0_readNext
set_option maxRecDepth 20000 in
theorem ggX4_perform_X4_doThing : GoodIn wsX4_perform wsX4_doThing := goodIn_r _ [82, 1, 3, 83, 84, 85, 55, 86, 57, 44, 45, 46, 87, 88, 89, 90, 63, 91, 92, 93, 94, 95, 96, 97, 98, 99, 100, 101, 102, 103, 104, 105, 106, 107, 108, 109, 110, 111, 112, 113, 114, 115, 116, 117, 68, 118, 119, 120, 121, 122, 123, 124, 125, 65, 64, 126, 127, 128, 129, 130, 131, 132, 133, 134, 135, 136, 69, 62, 66, 67, 137, 138, 139, 140, 70, 141, 142, 143, 164, 165, 166, 167, 168, 169, 170, 171, 172, 173, 174, 175, 176, 177, 178, 179, 180, 181, 182, 183, 184, 185, 186, 187, 188, 189, 190, 191, 192, 193, 194] (by decide +kernel) (by decide +kernel)
set_option maxRecDepth 20000 in
theorem gX4_perform_X4_doThing : GoodIn wsX4_perform (wsV RX4 103 RX4 yX4_doThing wsX4_doThing) := goodIn_app (goodIn_of _ (by decide +kernel)) ggX4_perform_X4_doThing
set_option maxRecDepth 20000 in
theorem ggX4_perform_X4_isError : GoodIn wsX4_perform wsX4_isError := goodIn_r _ [146] (by decide +kernel) (by decide +kernel)
set_option maxRecDepth 20000 in
theorem gX4_perform_X4_isError : GoodIn wsX4_perform (va_wsS RX4 106 yX4_isError wsX4_isError) := goodIn_app (goodIn_of _ (by decide +kernel)) ggX4_perform_X4_isError
set_option maxRecDepth 20000 in
theorem ggX4_perform_X4_recorded : GoodIn wsX4_perform wsX4_recorded := goodIn_r _ [150, 151, 2, 152, 153, 154, 155, 156, 157, 158, 159, 160, 161, 162, 163, 53, 54, 55, 56, 57, 58, 59, 60, 61, 62, 63, 64, 65, 66, 67, 68, 69, 70, 71, 72, 73, 164, 165, 166, 167, 168, 169, 170, 171, 172, 195, 196, 179, 180, 181, 182, 183, 184, 185, 186, 187, 188, 189, 190, 191] (by decide +kernel) (by decide +kernel)
set_option maxRecDepth 20000 in
theorem gX4_perform_X4_recorded : GoodIn wsX4_perform (wsV RX4 51 RX4 yX4_recorded wsX4_recorded) := goodIn_app (goodIn_of _ (by decide +kernel)) ggX4_perform_X4_recorded
set_option maxRecDepth 20000 in
theorem ggX4_stopped_X4_isIn : GoodIn wsX4_stopped wsX4_isIn := goodIn_r _ [6] (by decide +kernel) (by decide +kernel)
set_option maxRecDepth 20000 in
theorem gX4_stopped_X4_isIn : GoodIn wsX4_stopped (va_wsS RX4 117 yX4_isIn wsX4_isIn) := goodIn_app (goodIn_of _ (by decide +kernel)) ggX4_stopped_X4_isIn
set_option maxRecDepth 20000 in
theorem ggX4_undo_X1_pop : GoodIn wsX4_undo wsX1_pop := goodIn_r _ [7, 8, 9, 10, 11, 12, 13, 14, 15, 16, 17, 18, 19, 20, 21, 22, 23, 24, 25, 26, 27, 28, 29, 30, 31, 41, 42, 43, 44, 45, 46, 47, 48, 49, 50, 51, 52, 53, 54, 55] (by decide +kernel) (by decide +kernel)
set_option maxRecDepth 20000 in
theorem gX4_undo_X1_pop : GoodIn wsX4_undo (wsV RX4 121 RX1 yX1_pop wsX1_pop) := goodIn_app (goodIn_of _ (by decide +kernel)) ggX4_undo_X1_pop
set_option maxRecDepth 20000 in
theorem ggX4_keep_X3_copyFrom : GoodIn wsX4_keep wsX3_copyFrom := goodIn_r _ [8, 9, 10, 11, 12, 13, 14, 15, 16, 17, 18, 19, 20, 21, 22, 23, 24, 25, 35, 36, 37, 38, 39, 40, 41, 42, 43, 44, 45, 46, 47] (by decide +kernel) (by decide +kernel)
set_option maxRecDepth 20000 in
theorem gX4_keep_X3_copyFrom : GoodIn wsX4_keep (wsV RX4 43 RX3 yX3_copyFrom wsX3_copyFrom) := goodIn_app (goodIn_of _ (by decide +kernel)) ggX4_keep_X3_copyFrom
set_option maxRecDepth 20000 in
theorem ggX4_restore_X3_copyFrom : GoodIn wsX4_restore wsX3_copyFrom := goodIn_r _ [9, 10, 11, 12, 13, 14, 15, 16, 17, 18, 19, 20, 21, 22, 23, 24, 25, 26, 54, 55, 56, 57, 58, 59, 60, 61, 62, 63, 64, 65, 66] (by decide +kernel) (by decide +kernel)
set_option maxRecDepth 20000 in
theorem gX4_restore_X3_copyFrom : GoodIn wsX4_restore (wsV RX4 43 RX3 yX3_copyFrom wsX3_copyFrom) := goodIn_app (goodIn_of _ (by decide +kernel)) ggX4_restore_X3_copyFrom
set_option maxRecDepth 20000 in
theorem ggX4_restore_X4_recorded : GoodIn wsX4_restore wsX4_recorded := goodIn_r _ [31, 32, 2, 33, 34, 35, 36, 37, 38, 39, 40, 41, 42, 43, 44, 6, 7, 8, 9, 10, 11, 12, 13, 14, 15, 16, 17, 18, 19, 20, 21, 22, 23, 24, 25, 26, 45, 46, 47, 48, 49, 50, 51, 52, 53, 67, 68, 54, 55, 56, 57, 58, 59, 60, 61, 62, 63, 64, 65, 66] (by decide +kernel) (by decide +kernel)
set_option maxRecDepth 20000 in
theorem gX4_restore_X4_recorded : GoodIn wsX4_restore (wsV RX4 51 RX4 yX4_recorded wsX4_recorded) := goodIn_app (goodIn_of _ (by decide +kernel)) ggX4_restore_X4_recorded
set_option maxRecDepth 20000 in
theorem ggX4_plot_X4_isIn : GoodIn wsX4_plot wsX4_isIn := goodIn_r _ [5] (by decide +kernel) (by decide +kernel)
set_option maxRecDepth 20000 in
theorem gX4_plot_X4_isIn : GoodIn wsX4_plot (va_wsS RX4 117 yX4_isIn wsX4_isIn) := goodIn_app (goodIn_of _ (by decide +kernel)) ggX4_plot_X4_isIn
set_option maxRecDepth 20000 in
theorem ggX4_plot_X4_pathsLeft : GoodIn wsX4_plot wsX4_pathsLeft := goodIn_r _ [9, 10, 1, 11, 12, 13, 14, 15, 16, 17, 18, 19, 20, 21, 22, 23, 24, 60, 61, 62, 63, 64, 65, 66, 67, 68, 69, 70, 71, 72, 73, 74, 75, 76, 77, 78, 79, 80, 81, 82, 83, 84] (by decide +kernel) (by decide +kernel)
set_option maxRecDepth 20000 in
theorem gX4_plot_X4_pathsLeft : GoodIn wsX4_plot (wsV RX4 70 RX4 yX4_pathsLeft wsX4_pathsLeft) := goodIn_app (goodIn_of _ (by decide +kernel)) ggX4_plot_X4_pathsLeft
set_option maxRecDepth 20000 in
theorem ggX4_plot_X3_hits : GoodIn wsX4_plot wsX3_hits := goodIn_r _ [29, 30, 31, 32, 33, 14, 34, 35, 36, 37, 38, 39, 40, 41, 42, 43, 44, 45, 16, 17, 69, 70, 71, 72, 73, 74, 75, 76, 77, 78, 79, 80, 81, 82, 83, 84] (by decide +kernel) (by decide +kernel)
set_option maxRecDepth 20000 in
theorem gX4_plot_X3_hits : GoodIn wsX4_plot (wsV RX4 142 RX3 yX3_hits wsX3_hits) := goodIn_app (goodIn_of _ (by decide +kernel)) ggX4_plot_X3_hits
set_option maxRecDepth 20000 in
theorem ggX4_plot_X3_isEndangered : GoodIn wsX4_plot wsX3_isEndangered := goodIn_r _ [49, 50, 26, 27, 28, 29, 30, 31, 32, 33, 14, 34, 35, 36, 37, 38, 39, 40, 41, 42, 43, 44, 45, 16, 17, 69, 70, 71, 72, 73, 74, 75, 76, 77, 78, 79, 80, 81, 82, 83, 84] (by decide +kernel) (by decide +kernel)
set_option maxRecDepth 20000 in
theorem gX4_plot_X3_isEndangered : GoodIn wsX4_plot (wsV RX4 145 RX3 yX3_isEndangered wsX3_isEndangered) := goodIn_app (goodIn_of _ (by decide +kernel)) ggX4_plot_X3_isEndangered
set_option maxRecDepth 20000 in
theorem ggX4_plot_X3_isDoomed : GoodIn wsX4_plot wsX3_isDoomed := goodIn_r _ [54, 50, 26, 27, 28, 29, 30, 31, 32, 33, 14, 34, 35, 36, 37, 38, 39, 40, 41, 42, 43, 44, 45, 16, 17, 82, 83, 84, 69, 70, 71, 72, 73, 74, 75, 76, 77, 78, 79, 80, 81] (by decide +kernel) (by decide +kernel)
set_option maxRecDepth 20000 in
theorem gX4_plot_X3_isDoomed : GoodIn wsX4_plot (wsV RX4 149 RX3 yX3_isDoomed wsX3_isDoomed) := goodIn_app (goodIn_of _ (by decide +kernel)) ggX4_plot_X3_isDoomed
set_option maxRecDepth 20000 in
theorem ggX4_plot_X3_standsToLose : GoodIn wsX4_plot wsX3_standsToLose := goodIn_r _ [58, 59, 50, 26, 27, 28, 29, 30, 31, 32, 33, 14, 34, 35, 36, 37, 38, 39, 40, 41, 42, 43, 44, 45, 16, 17, 82, 83, 84, 69, 70, 71, 72, 73, 74, 75, 76, 77, 78, 79, 80, 81] (by decide +kernel) (by decide +kernel)
set_option maxRecDepth 20000 in
theorem gX4_plot_X3_standsToLose : GoodIn wsX4_plot (wsV RX4 152 RX3 yX3_standsToLose wsX3_standsToLose) := goodIn_app (goodIn_of _ (by decide +kernel)) ggX4_plot_X3_standsToLose
set_option maxRecDepth 20000 in
theorem ggX4_crew_X4_isIn : GoodIn wsX4_crew wsX4_isIn := goodIn_r _ [5] (by decide +kernel) (by decide +kernel)
set_option maxRecDepth 20000 in
theorem gX4_crew_X4_isIn : GoodIn wsX4_crew (va_wsS RX4 117 yX4_isIn wsX4_isIn) := goodIn_app (goodIn_of _ (by decide +kernel)) ggX4_crew_X4_isIn
set_option maxRecDepth 20000 in
theorem ggX4_row_X4_isIn : GoodIn wsX4_row wsX4_isIn := goodIn_r _ [5] (by decide +kernel) (by decide +kernel)
set_option maxRecDepth 20000 in
theorem gX4_row_X4_isIn : GoodIn wsX4_row (va_wsS RX4 117 yX4_isIn wsX4_isIn) := goodIn_app (goodIn_of _ (by decide +kernel)) ggX4_row_X4_isIn
set_option maxRecDepth 20000 in
theorem ggX4_row_X4_pathsLeft : GoodIn wsX4_row wsX4_pathsLeft := goodIn_r _ [9, 10, 1, 11, 12, 13, 14, 15, 16, 17, 18, 19, 20, 21, 22, 23, 24, 37, 38, 39, 40, 41, 42, 43, 44, 45, 46, 47, 48, 49, 50, 51, 52, 53, 54, 55, 56, 57, 58, 59, 60, 61] (by decide +kernel) (by decide +kernel)
set_option maxRecDepth 20000 in
theorem gX4_row_X4_pathsLeft : GoodIn wsX4_row (wsV RX4 70 RX4 yX4_pathsLeft wsX4_pathsLeft) := goodIn_app (goodIn_of _ (by decide +kernel)) ggX4_row_X4_pathsLeft
set_option maxRecDepth 20000 in
theorem ggX4_row_X2_leastColumn : GoodIn wsX4_row wsX2_leastColumn := goodIn_r _ [28, 29, 30, 31, 14, 32, 16, 17, 59, 60, 61] (by decide +kernel) (by decide +kernel)
set_option maxRecDepth 20000 in
theorem gX4_row_X2_leastColumn : GoodIn wsX4_row (wsV RX4 174 RX2 yX2_leastColumn wsX2_leastColumn) := goodIn_app (goodIn_of _ (by decide +kernel)) ggX4_row_X2_leastColumn
set_option maxRecDepth 20000 in
theorem ggX4_row_X2_greatestColumn : GoodIn wsX4_row wsX2_greatestColumn := goodIn_r _ [36, 29, 30, 31, 14, 32, 16, 17, 59, 60, 61] (by decide +kernel) (by decide +kernel)
set_option maxRecDepth 20000 in
theorem gX4_row_X2_greatestColumn : GoodIn wsX4_row (wsV RX4 177 RX2 yX2_greatestColumn wsX2_greatestColumn) := goodIn_app (goodIn_of _ (by decide +kernel)) ggX4_row_X2_greatestColumn
set_option maxRecDepth 20000 in
theorem ggX4_way_X4_isIn : GoodIn wsX4_way wsX4_isIn := goodIn_r _ [5] (by decide +kernel) (by decide +kernel)
set_option maxRecDepth 20000 in
theorem gX4_way_X4_isIn : GoodIn wsX4_way (va_wsS RX4 117 yX4_isIn wsX4_isIn) := goodIn_app (goodIn_of _ (by decide +kernel)) ggX4_way_X4_isIn
set_option maxRecDepth 20000 in
theorem ggX4_way_X3_stepsTo : GoodIn wsX4_way wsX3_stepsTo := goodIn_r _ [10, 11, 12, 13, 14, 15, 16, 26, 27, 28, 29, 30, 31, 32, 33, 34, 35, 36, 37, 38] (by decide +kernel) (by decide +kernel)
set_option maxRecDepth 20000 in
theorem gX4_way_X3_stepsTo : GoodIn wsX4_way (wsV RX4 180 RX3 yX3_stepsTo wsX3_stepsTo) := goodIn_app (goodIn_of _ (by decide +kernel)) ggX4_way_X3_stepsTo
set_option maxRecDepth 20000 in
theorem ggX4_reason_X4_isIn : GoodIn wsX4_reason wsX4_isIn := goodIn_r _ [5] (by decide +kernel) (by decide +kernel)
set_option maxRecDepth 20000 in
theorem gX4_reason_X4_isIn : GoodIn wsX4_reason (va_wsS RX4 117 yX4_isIn wsX4_isIn) := goodIn_app (goodIn_of _ (by decide +kernel)) ggX4_reason_X4_isIn
set_option maxRecDepth 20000 in
theorem ggX4_reason_X3_whyNot : GoodIn wsX4_reason wsX3_whyNot := goodIn_r _ [10, 11, 12, 13, 14, 15, 16, 9, 17, 18, 19, 20, 21, 22, 23, 33, 34, 35, 36, 37, 38, 39, 40, 41, 42, 43, 44, 45] (by decide +kernel) (by decide +kernel)
set_option maxRecDepth 20000 in
theorem gX4_reason_X3_whyNot : GoodIn wsX4_reason (wsV RX4 183 RX3 yX3_whyNot wsX3_whyNot) := goodIn_app (goodIn_of _ (by decide +kernel)) ggX4_reason_X3_whyNot
set_option maxRecDepth 20000 in
theorem ggX4_best_X4_isIn : GoodIn wsX4_best wsX4_isIn := goodIn_r _ [5] (by decide +kernel) (by decide +kernel)
set_option maxRecDepth 20000 in
theorem gX4_best_X4_isIn : GoodIn wsX4_best (va_wsS RX4 117 yX4_isIn wsX4_isIn) := goodIn_app (goodIn_of _ (by decide +kernel)) ggX4_best_X4_isIn
set_option maxRecDepth 20000 in
theorem ggX4_best_X4_pathsLeft : GoodIn wsX4_best wsX4_pathsLeft := goodIn_r _ [9, 10, 1, 11, 12, 13, 14, 15, 16, 17, 18, 19, 20, 21, 22, 23, 24, 73, 74, 75, 76, 77, 78, 79, 80, 81, 82, 83, 84, 85, 86, 87, 88, 89, 90, 91, 92, 93, 94, 95, 96, 97] (by decide +kernel) (by decide +kernel)
set_option maxRecDepth 20000 in
theorem gX4_best_X4_pathsLeft : GoodIn wsX4_best (wsV RX4 70 RX4 yX4_pathsLeft wsX4_pathsLeft) := goodIn_app (goodIn_of _ (by decide +kernel)) ggX4_best_X4_pathsLeft
set_option maxRecDepth 20000 in
theorem ggX4_best_X3_bestPlot : GoodIn wsX4_best wsX3_bestPlot := goodIn_r _ [29, 30, 31, 32, 28, 33, 34, 35, 36, 37, 38, 39, 40, 41, 42, 43, 44, 45, 46, 47, 48, 49, 50, 51, 52, 53, 54, 55, 56, 57, 58, 59, 60, 61, 14, 62, 63, 64, 65, 66, 67, 68, 69, 70, 71, 72, 16, 17, 82, 83, 84, 85, 86, 87, 88, 89, 90, 91, 92, 93, 94, 95, 96, 97] (by decide +kernel) (by decide +kernel)
set_option maxRecDepth 20000 in
theorem gX4_best_X3_bestPlot : GoodIn wsX4_best (wsV RX4 186 RX3 yX3_bestPlot wsX3_bestPlot) := goodIn_app (goodIn_of _ (by decide +kernel)) ggX4_best_X3_bestPlot
set_option maxRecDepth 20000 in
theorem ggX4_openRow_X4_pathsLeft : GoodIn wsX4_openRow wsX4_pathsLeft := goodIn_r _ [5, 6, 7, 8, 9, 10, 11, 12, 13, 14, 15, 16, 17, 18, 19, 20, 21, 34, 35, 36, 37, 38, 39, 40, 41, 42, 43, 44, 45, 46, 47, 48, 49, 50, 51, 52, 53, 54, 55, 56, 57, 58] (by decide +kernel) (by decide +kernel)
set_option maxRecDepth 20000 in
theorem gX4_openRow_X4_pathsLeft : GoodIn wsX4_openRow (wsV RX4 70 RX4 yX4_pathsLeft wsX4_pathsLeft) := goodIn_app (goodIn_of _ (by decide +kernel)) ggX4_openRow_X4_pathsLeft
set_option maxRecDepth 20000 in
theorem ggX4_openRow_X2_mostOpenRow : GoodIn wsX4_openRow wsX2_mostOpenRow := goodIn_r _ [25, 15, 26, 27, 28, 11, 29, 30, 31, 32, 33, 13, 14, 56, 57, 58] (by decide +kernel) (by decide +kernel)
set_option maxRecDepth 20000 in
theorem gX4_openRow_X2_mostOpenRow : GoodIn wsX4_openRow (wsV RX4 189 RX2 yX2_mostOpenRow wsX2_mostOpenRow) := goodIn_app (goodIn_of _ (by decide +kernel)) ggX4_openRow_X2_mostOpenRow
set_option maxRecDepth 20000 in
theorem ggX4_ifTold_X4_isIn : GoodIn wsX4_ifTold wsX4_isIn := goodIn_r _ [4] (by decide +kernel) (by decide +kernel)
set_option maxRecDepth 20000 in
theorem gX4_ifTold_X4_isIn : GoodIn wsX4_ifTold (va_wsS RX4 117 yX4_isIn wsX4_isIn) := goodIn_app (goodIn_of _ (by decide +kernel)) ggX4_ifTold_X4_isIn
set_option maxRecDepth 20000 in
theorem ggX4_ifTold_X4_pathsLeft : GoodIn wsX4_ifTold wsX4_pathsLeft := goodIn_r _ [8, 9, 10, 11, 12, 13, 14, 15, 16, 17, 18, 19, 20, 21, 22, 23, 24, 29, 30, 31, 32, 33, 34, 35, 36, 37, 38, 39, 40, 41, 42, 43, 44, 45, 46, 47, 48, 49, 50, 51, 52, 53] (by decide +kernel) (by decide +kernel)
set_option maxRecDepth 20000 in
theorem gX4_ifTold_X4_pathsLeft : GoodIn wsX4_ifTold (wsV RX4 70 RX4 yX4_pathsLeft wsX4_pathsLeft) := goodIn_app (goodIn_of _ (by decide +kernel)) ggX4_ifTold_X4_pathsLeft
set_option maxRecDepth 20000 in
theorem ggX4_ifTold_X2_through : GoodIn wsX4_ifTold wsX2_through := goodIn_r _ [28, 16, 17, 51, 52, 53] (by decide +kernel) (by decide +kernel)
set_option maxRecDepth 20000 in
theorem gX4_ifTold_X2_through : GoodIn wsX4_ifTold (wsV RX4 192 RX2 yX2_through wsX2_through) := goodIn_app (goodIn_of _ (by decide +kernel)) ggX4_ifTold_X2_through
set_option maxRecDepth 20000 in
theorem ggX4_count_X3_worthOfAll : GoodIn wsX4_count wsX3_worthOfAll := goodIn_r _ [8, 9, 98, 99, 100, 101, 102, 103, 104, 105, 106, 107, 108, 109, 110] (by decide +kernel) (by decide +kernel)
set_option maxRecDepth 20000 in
theorem gX4_count_X3_worthOfAll : GoodIn wsX4_count (wsV RX4 195 RX3 yX3_worthOfAll wsX3_worthOfAll) := goodIn_app (goodIn_of _ (by decide +kernel)) ggX4_count_X3_worthOfAll
set_option maxRecDepth 20000 in
theorem ggX4_count_X4_pathsLeft : GoodIn wsX4_count wsX4_pathsLeft := goodIn_r _ [14, 15, 1, 16, 17, 18, 19, 20, 21, 22, 23, 24, 25, 26, 27, 28, 29, 89, 90, 91, 92, 93, 94, 95, 96, 97, 98, 99, 100, 101, 102, 103, 104, 105, 106, 107, 108, 109, 110, 111, 112, 113] (by decide +kernel) (by decide +kernel)
set_option maxRecDepth 20000 in
theorem gX4_count_X4_pathsLeft : GoodIn wsX4_count (wsV RX4 70 RX4 yX4_pathsLeft wsX4_pathsLeft) := goodIn_app (goodIn_of _ (by decide +kernel)) ggX4_count_X4_pathsLeft
set_option maxRecDepth 20000 in
theorem ggX4_count_X3_endangeredPlots : GoodIn wsX4_count wsX3_endangeredPlots := goodIn_r _ [33, 34, 35, 36, 7, 37, 38, 39, 40, 41, 42, 43, 44, 45, 19, 46, 47, 48, 49, 50, 51, 52, 53, 54, 55, 56, 57, 21, 22, 98, 99, 100, 101, 102, 103, 104, 105, 106, 107, 108, 109, 110, 111, 112, 113] (by decide +kernel) (by decide +kernel)
set_option maxRecDepth 20000 in
theorem gX4_count_X3_endangeredPlots : GoodIn wsX4_count (wsV RX4 198 RX3 yX3_endangeredPlots wsX3_endangeredPlots) := goodIn_app (goodIn_of _ (by decide +kernel)) ggX4_count_X3_endangeredPlots
set_option maxRecDepth 20000 in
theorem ggX4_count_X3_doomedPlots : GoodIn wsX4_count wsX3_doomedPlots := goodIn_r _ [61, 62, 63, 64, 7, 65, 38, 39, 40, 41, 42, 43, 44, 45, 19, 46, 47, 48, 49, 50, 51, 52, 53, 54, 55, 56, 57, 21, 22, 111, 112, 113, 98, 99, 100, 101, 102, 103, 104, 105, 106, 107, 108, 109, 110] (by decide +kernel) (by decide +kernel)
set_option maxRecDepth 20000 in
theorem gX4_count_X3_doomedPlots : GoodIn wsX4_count (wsV RX4 201 RX3 yX3_doomedPlots wsX3_doomedPlots) := goodIn_app (goodIn_of _ (by decide +kernel)) ggX4_count_X3_doomedPlots
set_option maxRecDepth 20000 in
theorem ggX4_count_X3_allStandToLose : GoodIn wsX4_count wsX3_allStandToLose := goodIn_r _ [69, 70, 71, 72, 7, 73, 9, 38, 39, 40, 41, 42, 43, 44, 45, 19, 46, 47, 48, 49, 50, 51, 52, 53, 54, 55, 56, 57, 21, 22, 111, 112, 113, 98, 99, 100, 101, 102, 103, 104, 105, 106, 107, 108, 109, 110] (by decide +kernel) (by decide +kernel)
set_option maxRecDepth 20000 in
theorem gX4_count_X3_allStandToLose : GoodIn wsX4_count (wsV RX4 204 RX3 yX3_allStandToLose wsX3_allStandToLose) := goodIn_app (goodIn_of _ (by decide +kernel)) ggX4_count_X3_allStandToLose
set_option maxRecDepth 20000 in
theorem ggX4_count_X3_hintsTold : GoodIn wsX4_count wsX3_hintsTold := goodIn_r _ [77, 78, 98, 99, 100, 101, 102, 103, 104, 105, 106, 107, 108, 109, 110] (by decide +kernel) (by decide +kernel)
set_option maxRecDepth 20000 in
theorem gX4_count_X3_hintsTold : GoodIn wsX4_count (wsV RX4 210 RX3 yX3_hintsTold wsX3_hintsTold) := goodIn_app (goodIn_of _ (by decide +kernel)) ggX4_count_X3_hintsTold
set_option maxRecDepth 20000 in
theorem ggX4_count_X3_savedByAll : GoodIn wsX4_count wsX3_savedByAll := goodIn_r _ [82, 83, 98, 99, 100, 101, 102, 103, 104, 105, 106, 107, 108, 109, 110] (by decide +kernel) (by decide +kernel)
set_option maxRecDepth 20000 in
theorem gX4_count_X3_savedByAll : GoodIn wsX4_count (wsV RX4 213 RX3 yX3_savedByAll wsX3_savedByAll) := goodIn_app (goodIn_of _ (by decide +kernel)) ggX4_count_X3_savedByAll
set_option maxRecDepth 20000 in
theorem ggX4_count_X3_felledPlots : GoodIn wsX4_count wsX3_felledPlots := goodIn_r _ [87, 88, 98, 99, 100, 101, 102, 103, 104, 105, 106, 107, 108, 109, 110] (by decide +kernel) (by decide +kernel)
set_option maxRecDepth 20000 in
theorem gX4_count_X3_felledPlots : GoodIn wsX4_count (wsV RX4 225 RX3 yX3_felledPlots wsX3_felledPlots) := goodIn_app (goodIn_of _ (by decide +kernel)) ggX4_count_X3_felledPlots
set_option maxRecDepth 20000 in
theorem ggX4_recorded_X1_push : GoodIn wsX4_recorded wsX1_push := goodIn_r _ [7, 8, 9, 10, 11, 12, 6, 13, 14, 15, 16, 17, 18, 19, 20, 21, 22, 23, 24, 25, 26, 27, 28, 29, 30, 31, 32, 33, 34, 35, 45, 46, 47, 48, 49, 50, 51, 52, 53, 54, 55, 56, 57, 58, 59] (by decide +kernel) (by decide +kernel)
set_option maxRecDepth 20000 in
theorem gX4_recorded_X1_push : GoodIn wsX4_recorded (wsV RX4 234 RX1 yX1_push wsX1_push) := goodIn_app (goodIn_of _ (by decide +kernel)) ggX4_recorded_X1_push
set_option maxRecDepth 20000 in
theorem ggX4_pathsLeft_X2_follow : GoodIn wsX4_pathsLeft wsX2_follow := goodIn_r _ [7, 8, 9, 10, 11, 12, 6, 13, 14, 15, 16, 39, 40, 41] (by decide +kernel) (by decide +kernel)
set_option maxRecDepth 20000 in
theorem gX4_pathsLeft_X2_follow : GoodIn wsX4_pathsLeft (wsV RX4 237 RX2 yX2_follow wsX2_follow) := goodIn_app (goodIn_of _ (by decide +kernel)) ggX4_pathsLeft_X2_follow
set_option maxRecDepth 20000 in
theorem ggX4_doThing_X3_plant : GoodIn wsX4_doThing wsX3_plant := goodIn_r _ [7, 8, 9, 10, 11, 93, 94, 95, 96, 97, 98, 99, 100, 101, 102, 103, 104, 105] (by decide +kernel) (by decide +kernel)
set_option maxRecDepth 20000 in
theorem gX4_doThing_X3_plant : GoodIn wsX4_doThing (wsV RX4 47 RX3 yX3_plant wsX3_plant) := goodIn_app (goodIn_of _ (by decide +kernel)) ggX4_doThing_X3_plant
set_option maxRecDepth 20000 in
theorem ggX4_doThing_X3_getWet : GoodIn wsX4_doThing wsX3_getWet := goodIn_r _ [15, 16, 17, 18, 19, 20, 9, 10, 11, 93, 94, 95, 96, 97, 98, 99, 100, 101, 102, 103, 104, 105] (by decide +kernel) (by decide +kernel)
set_option maxRecDepth 20000 in
theorem gX4_doThing_X3_getWet : GoodIn wsX4_doThing (wsV RX4 55 RX3 yX3_getWet wsX3_getWet) := goodIn_app (goodIn_of _ (by decide +kernel)) ggX4_doThing_X3_getWet
set_option maxRecDepth 20000 in
theorem ggX4_doThing_X4_pathsLeft : GoodIn wsX4_doThing wsX4_pathsLeft := goodIn_r _ [24, 25, 2, 26, 27, 28, 29, 30, 31, 32, 33, 34, 35, 36, 37, 38, 39, 78, 79, 80, 81, 82, 83, 84, 85, 86, 93, 94, 95, 96, 97, 98, 99, 100, 101, 102, 103, 104, 105, 106, 107, 108] (by decide +kernel) (by decide +kernel)
set_option maxRecDepth 20000 in
theorem gX4_doThing_X4_pathsLeft : GoodIn wsX4_doThing (wsV RX4 70 RX4 yX4_pathsLeft wsX4_pathsLeft) := goodIn_app (goodIn_of _ (by decide +kernel)) ggX4_doThing_X4_pathsLeft
set_option maxRecDepth 20000 in
theorem ggX4_doThing_X3_tellColumn : GoodIn wsX4_doThing wsX3_tellColumn := goodIn_r _ [43, 44, 9, 10, 11, 45, 46, 47, 29, 48, 31, 32, 93, 94, 95, 96, 97, 98, 99, 100, 101, 102, 103, 104, 105, 106, 107, 108] (by decide +kernel) (by decide +kernel)
set_option maxRecDepth 20000 in
theorem gX4_doThing_X3_tellColumn : GoodIn wsX4_doThing (wsV RX4 74 RX3 yX3_tellColumn wsX3_tellColumn) := goodIn_app (goodIn_of _ (by decide +kernel)) ggX4_doThing_X3_tellColumn
set_option maxRecDepth 20000 in
theorem ggX4_doThing_X3_sendCrew : GoodIn wsX4_doThing wsX3_sendCrew := goodIn_r _ [52, 53, 54, 9, 10, 11, 55, 56, 57, 6, 58, 59, 60, 19, 61, 16, 93, 94, 95, 96, 97, 98, 99, 100, 101, 102, 103, 104, 105] (by decide +kernel) (by decide +kernel)
set_option maxRecDepth 20000 in
theorem gX4_doThing_X3_sendCrew : GoodIn wsX4_doThing (wsV RX4 64 RX3 yX3_sendCrew wsX3_sendCrew) := goodIn_app (goodIn_of _ (by decide +kernel)) ggX4_doThing_X3_sendCrew
set_option maxRecDepth 20000 in
theorem ggX4_doThing_X3_fellHere : GoodIn wsX4_doThing wsX3_fellHere := goodIn_r _ [65, 66, 53, 54, 8, 67, 68, 69, 9, 10, 11, 93, 94, 95, 96, 97, 98, 99, 100, 101, 102, 103, 104, 105] (by decide +kernel) (by decide +kernel)
set_option maxRecDepth 20000 in
theorem gX4_doThing_X3_fellHere : GoodIn wsX4_doThing (wsV RX4 67 RX3 yX3_fellHere wsX3_fellHere) := goodIn_app (goodIn_of _ (by decide +kernel)) ggX4_doThing_X3_fellHere
set_option maxRecDepth 20000 in
theorem ggX4_doThing_X3_passDays : GoodIn wsX4_doThing wsX3_passDays := goodIn_r _ [73, 74, 16, 75, 76, 19, 77, 53, 66, 9, 10, 11, 93, 94, 95, 96, 97, 98, 99, 100, 101, 102, 103, 104, 105] (by decide +kernel) (by decide +kernel)
set_option maxRecDepth 20000 in
theorem gX4_doThing_X3_passDays : GoodIn wsX4_doThing (wsV RX4 58 RX3 yX3_passDays wsX3_passDays) := goodIn_app (goodIn_of _ (by decide +kernel)) ggX4_doThing_X3_passDays
