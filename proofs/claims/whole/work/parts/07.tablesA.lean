def MX0_init : MI := (yX0_init, cX0_init, 1, none, 1, 2, 128)
def MX0_bestSet : MI := (yX0_bestSet, cX0_bestSet, 9, (some .int), 3, 0, 0)
def MX0_isFewer : MI := (yX0_isFewer, cX0_isFewer, 2, (some .boolean), 1, 0, 0)
def MX0_fewestThings : MI := (yX0_fewestThings, cX0_fewestThings, 5, (some .int), 3, 0, 0)
def MX0_servesMost : MI := (yX0_servesMost, cX0_servesMost, 7, (some .int), 3, 0, 0)
def MX0_longestRow : MI := (yX0_longestRow, cX0_longestRow, 8, (some .int), 4, 0, 0)
def MX0_findLongest : MI := (yX0_findLongest, cX0_findLongest, 6, none, 3, 0, 0)
def MX0_nextInRow : MI := (yX0_nextInRow, cX0_nextInRow, 5, (some .int), 3, 0, 0)
def MX0_canFollow : MI := (yX0_canFollow, cX0_canFollow, 4, (some .boolean), 2, 0, 0)
def MX0_bargains : MI := (yX0_bargains, cX0_bargains, 5, (some .int), 2, 0, 0)
def MX0_isLeftForAnother : MI := (yX0_isLeftForAnother, cX0_isLeftForAnother, 6, (some .boolean), 1, 0, 0)
def MX0_leftByTalk : MI := (yX0_leftByTalk, cX0_leftByTalk, 3, (some .int), 3, 0, 0)
def MX0_struckFirst : MI := (yX0_struckFirst, cX0_struckFirst, 3, (some .int), 3, 0, 0)
def MX0_findLeft : MI := (yX0_findLeft, cX0_findLeft, 8, none, 2, 0, 0)
def MX0_strike : MI := (yX0_strike, cX0_strike, 8, (some .int), 1, 0, 0)
def MX1_init : MI := (yX1_init, cX1_init, 1, none, 1, 0, 0)
def MX1_begin : MI := (yX1_begin, cX1_begin, 2, none, 0, 0, 0)
def MX1_copy : MI := (yX1_copy, cX1_copy, 2, none, 0, 0, 0)
def MX1_canPutBy : MI := (yX1_canPutBy, cX1_canPutBy, 3, (some .boolean), 2, 0, 0)
def MX1_putBy : MI := (yX1_putBy, cX1_putBy, 3, none, 1, 0, 0)
def MX1_takeOut : MI := (yX1_takeOut, cX1_takeOut, 2, none, 0, 0, 0)
def MX1_canBeLived : MI := (yX1_canBeLived, cX1_canBeLived, 3, (some .boolean), 2, 0, 0)
def MX1_liveLife : MI := (yX1_liveLife, cX1_liveLife, 4, (some .int), 2, 0, 0)
def MX1_goBy : MI := (yX1_goBy, cX1_goBy, 3, none, 2, 0, 0)
def MX1_coinsBehind : MI := (yX1_coinsBehind, cX1_coinsBehind, 3, (some .int), 1, 0, 0)
def MX1_goByDraw : MI := (yX1_goByDraw, cX1_goByDraw, 4, none, 4, 0, 0)
def MX1_putOrTakeOut : MI := (yX1_putOrTakeOut, cX1_putOrTakeOut, 4, none, 3, 0, 0)
def MX2_init : MI := (yX2_init, cX2_init, 3, none, 1, 4, 32)
def MX2_empty : MI := (yX2_empty, cX2_empty, 1, none, 0, 0, 0)
def MX2_add : MI := (yX2_add, cX2_add, 2, none, 2, 0, 0)
def MX2_takeTop : MI := (yX2_takeTop, cX2_takeTop, 2, none, 1, 0, 0)
def MX2_dropLowest : MI := (yX2_dropLowest, cX2_dropLowest, 2, none, 1, 0, 0)
def MX3_init : MI := (yX3_init, cX3_init, 1, none, 1, 7, 48)
def MX3_begin : MI := (yX3_begin, cX3_begin, 1, none, 0, 0, 0)
def MX3_tellRoom : MI := (yX3_tellRoom, cX3_tellRoom, 3, (some .boolean), 0, 0, 0)
def MX3_tellThing : MI := (yX3_tellThing, cX3_tellThing, 4, (some .boolean), 1, 0, 0)
def MX3_tellLife : MI := (yX3_tellLife, cX3_tellLife, 4, (some .boolean), 1, 0, 0)
def MX3_tellNeed : MI := (yX3_tellNeed, cX3_tellNeed, 3, (some .boolean), 1, 0, 0)
def MX3_isThing : MI := (yX3_isThing, cX3_isThing, 2, (some .boolean), 0, 0, 0)
def MX3_isLife : MI := (yX3_isLife, cX3_isLife, 2, (some .boolean), 0, 0, 0)
def MX3_isSetOfThings : MI := (yX3_isSetOfThings, cX3_isSetOfThings, 2, (some .boolean), 0, 0, 0)
def MX3_isSetOfLives : MI := (yX3_isSetOfLives, cX3_isSetOfLives, 2, (some .boolean), 0, 0, 0)
def MX3_allThings : MI := (yX3_allThings, cX3_allThings, 1, (some .int), 0, 0, 0)
def MX3_allLives : MI := (yX3_allLives, cX3_allLives, 1, (some .int), 0, 0, 0)
def MX3_livesThatNeed : MI := (yX3_livesThatNeed, cX3_livesThatNeed, 4, (some .int), 1, 0, 0)
def MX3_roomTaken : MI := (yX3_roomTaken, cX3_roomTaken, 6, (some .int), 1, 0, 0)
def MX3_price : MI := (yX3_price, cX3_price, 4, (some .int), 1, 0, 0)
def MX3_canBe : MI := (yX3_canBe, cX3_canBe, 5, (some .boolean), 1, 0, 0)
def MX3_livesBy : MI := (yX3_livesBy, cX3_livesBy, 4, (some .int), 2, 0, 0)
def MX3_gain : MI := (yX3_gain, cX3_gain, 4, (some .int), 2, 0, 0)
def MX3_chanceOfAll : MI := (yX3_chanceOfAll, cX3_chanceOfAll, 3, (some .int), 1, 0, 0)
def MX3_linenOf : MI := (yX3_linenOf, cX3_linenOf, 4, (some .int), 1, 0, 0)
def MX4_init : MI := (yX4_init, cX4_init, 1, none, 1, 1, 3)
def MX4_firstFault : MI := (yX4_firstFault, cX4_firstFault, 7, (some .int), 3, 0, 0)
def MX4_readNumbers : MI := (yX4_readNumbers, cX4_readNumbers, 9, (some .int), 2, 0, 0)
def MX4_tellItem : MI := (yX4_tellItem, cX4_tellItem, 6, (some .boolean), 2, 0, 0)
def MX4_figure : MI := (yX4_figure, cX4_figure, 4, (some .int), 1, 0, 0)
def MX4_letter : MI := (yX4_letter, cX4_letter, 3, (some .int), 0, 0, 0)
def MX5_init : MI := (yX5_init, cX5_init, 5, none, 7, 40, 800)
def MX5_write : MI := (yX5_write, cX5_write, 2, (some .int), 0, 0, 0)
def MX5_wipe : MI := (yX5_wipe, cX5_wipe, 2, (some .int), 0, 0, 0)
def MX5_fault : MI := (yX5_fault, cX5_fault, 1, (some .int), 4, 0, 0)
def MX5_lay : MI := (yX5_lay, cX5_lay, 2, (some .int), 4, 0, 0)
def MX5_thing : MI := (yX5_thing, cX5_thing, 3, (some .int), 3, 0, 0)
def MX5_life : MI := (yX5_life, cX5_life, 3, (some .int), 2, 0, 0)
def MX5_room : MI := (yX5_room, cX5_room, 1, (some .int), 2, 0, 0)
def MX5_worth : MI := (yX5_worth, cX5_worth, 3, (some .int), 4, 0, 0)
def MX5_put : MI := (yX5_put, cX5_put, 2, (some .int), 3, 0, 0)
def MX5_out : MI := (yX5_out, cX5_out, 2, (some .int), 3, 0, 0)
def MX5_live : MI := (yX5_live, cX5_live, 2, (some .int), 3, 0, 0)
def MX5_pass : MI := (yX5_pass, cX5_pass, 2, (some .int), 3, 0, 0)
def MX5_undo : MI := (yX5_undo, cX5_undo, 1, (some .int), 2, 0, 0)
def MX5_best : MI := (yX5_best, cX5_best, 4, (some .int), 4, 0, 0)
def MX5_cover : MI := (yX5_cover, cX5_cover, 4, (some .int), 4, 0, 0)
def MX5_serves : MI := (yX5_serves, cX5_serves, 1, (some .int), 4, 0, 0)
def MX5_row : MI := (yX5_row, cX5_row, 2, (some .int), 5, 0, 0)
def MX5_bargain : MI := (yX5_bargain, cX5_bargain, 1, (some .int), 3, 0, 0)
def MX5_talk : MI := (yX5_talk, cX5_talk, 3, (some .int), 4, 0, 0)
def MX5_see : MI := (yX5_see, cX5_see, 3, (some .int), 1, 0, 0)
def MX5_forget : MI := (yX5_forget, cX5_forget, 2, (some .int), 0, 0, 0)
def MX5_meant : MI := (yX5_meant, cX5_meant, 4, (some .int), 1, 0, 0)
def MX5_moths : MI := (yX5_moths, cX5_moths, 5, (some .int), 3, 0, 0)
def MX5_year : MI := (yX5_year, cX5_year, 5, (some .int), 5, 0, 0)
def MX5_keep : MI := (yX5_keep, cX5_keep, 1, (some .int), 3, 0, 0)
def MX5_back : MI := (yX5_back, cX5_back, 1, (some .int), 2, 0, 0)
def MX5_count : MI := (yX5_count, cX5_count, 2, (some .int), 3, 0, 0)
def MX5_roomLeft : MI := (yX5_roomLeft, cX5_roomLeft, 1, (some .int), 2, 0, 0)
def MX5_worthPart : MI := (yX5_worthPart, cX5_worthPart, 3, (some .int), 3, 0, 0)
def MX5_chanceBehindMoths : MI := (yX5_chanceBehindMoths, cX5_chanceBehindMoths, 7, (some .int), 2, 0, 0)
def MX5_draw : MI := (yX5_draw, cX5_draw, 4, (some .int), 0, 0, 0)
def MX5_isPart : MI := (yX5_isPart, cX5_isPart, 1, (some .boolean), 0, 0, 0)
def MX5_bit : MI := (yX5_bit, cX5_bit, 1, (some .int), 0, 0, 0)
def MX5_has : MI := (yX5_has, cX5_has, 2, (some .boolean), 0, 0, 0)
def MX5_at : MI := (yX5_at, cX5_at, 2, (some .int), 0, 0, 0)
def MX5_store : MI := (yX5_store, cX5_store, 3, none, 0, 0, 0)
def MX5_power : MI := (yX5_power, cX5_power, 4, (some .int), 0, 0, 0)
def MX5_lowestTerms : MI := (yX5_lowestTerms, cX5_lowestTerms, 4, (some .int), 1, 0, 0)
def MX5_commonDivisor : MI := (yX5_commonDivisor, cX5_commonDivisor, 6, (some .int), 0, 0, 0)
def MX6_init : MI := (yX6_init, cX6_init, 1, none, 2, 16, 520)
def MX6_in : MI := (yX6_in, cX6_in, 6, (some .boolean), 0, 0, 0)
def MX6_has : MI := (yX6_has, cX6_has, 2, (some .boolean), 0, 0, 0)
def MX6_ones : MI := (yX6_ones, cX6_ones, 3, (some .int), 0, 0, 0)
def MX6_copy : MI := (yX6_copy, cX6_copy, 4, none, 0, 0, 0)
def MX6_isThing : MI := (yX6_isThing, cX6_isThing, 2, (some .boolean), 1, 0, 0)
def MX6_isLife : MI := (yX6_isLife, cX6_isLife, 2, (some .boolean), 1, 0, 0)
def MX6_addsThing : MI := (yX6_addsThing, cX6_addsThing, 4, none, 0, 0, 0)
def MX6_addsLife : MI := (yX6_addsLife, cX6_addsLife, 4, none, 0, 0, 0)
def MX6_begins : MI := (yX6_begins, cX6_begins, 2, none, 1, 0, 0)
def MX6_write : MI := (yX6_write, cX6_write, 2, (some .int), 1, 0, 0)
def MX6_wipe : MI := (yX6_wipe, cX6_wipe, 2, (some .int), 0, 0, 0)
def MX6_letterAt : MI := (yX6_letterAt, cX6_letterAt, 2, (some .int), 0, 0, 0)
def MX6_takesNumber : MI := (yX6_takesNumber, cX6_takesNumber, 5, (some .boolean), 1, 0, 0)
def MX6_takesRoom : MI := (yX6_takesRoom, cX6_takesRoom, 2, (some .boolean), 2, 0, 0)
def MX6_takesThing : MI := (yX6_takesThing, cX6_takesThing, 3, (some .boolean), 2, 0, 0)
def MX6_takesLife : MI := (yX6_takesLife, cX6_takesLife, 3, (some .boolean), 2, 0, 0)
def MX6_takesNeed : MI := (yX6_takesNeed, cX6_takesNeed, 2, (some .boolean), 2, 0, 0)
def MX6_takesItem : MI := (yX6_takesItem, cX6_takesItem, 2, (some .boolean), 3, 0, 0)
def MX6_faultOf : MI := (yX6_faultOf, cX6_faultOf, 2, (some .int), 4, 0, 0)
def MX6_fault : MI := (yX6_fault, cX6_fault, 1, (some .int), 5, 0, 0)
def MX6_lay : MI := (yX6_lay, cX6_lay, 1, (some .int), 5, 0, 0)
def MX6_roomOf : MI := (yX6_roomOf, cX6_roomOf, 6, (some .int), 1, 0, 0)
def MX6_canBy : MI := (yX6_canBy, cX6_canBy, 6, (some .boolean), 1, 0, 0)
def MX6_livesBy : MI := (yX6_livesBy, cX6_livesBy, 4, (some .int), 2, 0, 0)
def MX6_worthOf : MI := (yX6_worthOf, cX6_worthOf, 4, (some .int), 2, 0, 0)
def MX6_likelyOfAll : MI := (yX6_likelyOfAll, cX6_likelyOfAll, 3, (some .int), 0, 0, 0)
def MX6_partOf : MI := (yX6_partOf, cX6_partOf, 7, (some .int), 0, 0, 0)
def MX6_worthPart : MI := (yX6_worthPart, cX6_worthPart, 4, (some .int), 3, 0, 0)
def MX6_canPut : MI := (yX6_canPut, cX6_canPut, 3, (some .boolean), 2, 0, 0)
def MX6_linenOf : MI := (yX6_linenOf, cX6_linenOf, 5, (some .int), 1, 0, 0)
def MX6_canLive : MI := (yX6_canLive, cX6_canLive, 3, (some .boolean), 2, 0, 0)
def MX6_puts : MI := (yX6_puts, cX6_puts, 3, none, 0, 0, 0)
def MX6_livesOne : MI := (yX6_livesOne, cX6_livesOne, 4, (some .int), 2, 0, 0)
def MX6_passes : MI := (yX6_passes, cX6_passes, 2, none, 0, 0, 0)
def MX6_neededBy : MI := (yX6_neededBy, cX6_neededBy, 4, (some .int), 1, 0, 0)
def MX6_thing : MI := (yX6_thing, cX6_thing, 3, (some .int), 3, 0, 0)
def MX6_life : MI := (yX6_life, cX6_life, 3, (some .int), 2, 0, 0)
def MX6_room : MI := (yX6_room, cX6_room, 1, (some .int), 2, 0, 0)
def MX6_isSet : MI := (yX6_isSet, cX6_isSet, 2, (some .boolean), 1, 0, 0)
def MX6_worth : MI := (yX6_worth, cX6_worth, 3, (some .int), 4, 0, 0)
def MX6_minds : MI := (yX6_minds, cX6_minds, 2, none, 1, 0, 0)
def MX6_put : MI := (yX6_put, cX6_put, 2, (some .int), 3, 0, 0)
def MX6_out : MI := (yX6_out, cX6_out, 2, (some .int), 2, 0, 0)
def MX6_live : MI := (yX6_live, cX6_live, 2, (some .int), 3, 0, 0)
def MX6_pass : MI := (yX6_pass, cX6_pass, 3, (some .int), 2, 0, 0)
def MX6_undo : MI := (yX6_undo, cX6_undo, 1, (some .int), 1, 0, 0)
def MX6_costOf : MI := (yX6_costOf, cX6_costOf, 4, (some .int), 1, 0, 0)
def MX6_best : MI := (yX6_best, cX6_best, 8, (some .int), 4, 0, 0)
def MX6_cover : MI := (yX6_cover, cX6_cover, 6, (some .int), 3, 0, 0)
def MX6_serves : MI := (yX6_serves, cX6_serves, 4, (some .int), 3, 0, 0)
def MX6_longestRow : MI := (yX6_longestRow, cX6_longestRow, 6, (some .int), 3, 0, 0)
def MX6_row : MI := (yX6_row, cX6_row, 3, (some .int), 4, 0, 0)
def MX6_bargain : MI := (yX6_bargain, cX6_bargain, 7, (some .int), 3, 0, 0)
def MX6_talk : MI := (yX6_talk, cX6_talk, 10, (some .int), 3, 0, 0)
def MX6_see : MI := (yX6_see, cX6_see, 3, (some .int), 2, 0, 0)
def MX6_forget : MI := (yX6_forget, cX6_forget, 2, (some .int), 0, 0, 0)
def MX6_meant : MI := (yX6_meant, cX6_meant, 3, (some .int), 0, 0, 0)
def MX6_moths : MI := (yX6_moths, cX6_moths, 9, (some .int), 2, 0, 0)
def MX6_year : MI := (yX6_year, cX6_year, 10, (some .int), 3, 0, 0)
def MX6_keep : MI := (yX6_keep, cX6_keep, 1, (some .int), 1, 0, 0)
def MX6_back : MI := (yX6_back, cX6_back, 1, (some .int), 1, 0, 0)
def MX6_count : MI := (yX6_count, cX6_count, 2, (some .int), 3, 0, 0)
def MJ6_bitCount_0f7a4 : MI := (yJ6_bitCount_0f7a4, cJ6_bitCount_0f7a4, 1, (some .int), 0, 0, 0)
def LX0_init : List (Nat × XI) := [(0, xLdA 1 0),
  (1, xObj 4),
  (4, xLdA 5 0),
  (5, xK 7 (nI 64)),
  (9, xPfR 12 0 0),
  (12, xLdA 13 0),
  (13, xK 15 (nI 64)),
  (17, xPfR 20 0 1),
  (20, xRetV)]
theorem sX0_init_0 : Snd MX0_init 0 (xLdA 1 0) := snd_aload_n (M := MX0_init) (pc := 0) dX0_init_0
theorem sX0_init_1 : Snd MX0_init 1 (xObj 4) := snd_obj (M := MX0_init) (pc := 1) dX0_init_1 w73 w74 w75 (by decide)
theorem sX0_init_4 : Snd MX0_init 4 (xLdA 5 0) := snd_aload_n (M := MX0_init) (pc := 4) dX0_init_4
theorem sX0_init_5 : Snd MX0_init 5 (xK 7 (nI 64)) := snd_bipush (M := MX0_init) (pc := 5) dX0_init_5 (by decide +kernel)
theorem sX0_init_9 : Snd MX0_init 9 (xPfR 12 0 0) := snd_pfRF (M := MX0_init) (pc := 9) (C0 := RX0) (T0 := TX0) (N := 2) dX0_init_9 rfl tbX0 tyX0 tyX0_ok nmX0 (by decide) w76 rfl rfl rfl (tyX0_ok 0 (by decide)) (fun _ => rfl) (fun _ => rfl)
theorem sX0_init_12 : Snd MX0_init 12 (xLdA 13 0) := snd_aload_n (M := MX0_init) (pc := 12) dX0_init_12
theorem sX0_init_13 : Snd MX0_init 13 (xK 15 (nI 64)) := snd_bipush (M := MX0_init) (pc := 13) dX0_init_13 (by decide +kernel)
theorem sX0_init_17 : Snd MX0_init 17 (xPfR 20 0 1) := snd_pfRF (M := MX0_init) (pc := 17) (C0 := RX0) (T0 := TX0) (N := 2) dX0_init_17 rfl tbX0 tyX0 tyX0_ok nmX0 (by decide) w77 rfl rfl rfl (tyX0_ok 1 (by decide)) (fun _ => rfl) (fun _ => rfl)
theorem sX0_init_20 : Snd MX0_init 20 (xRetV) := snd_vret (M := MX0_init) (pc := 20) dX0_init_20 rfl
theorem VX0_init : Valid MX0_init LX0_init := va_lid sX0_init_0 (va_lid sX0_init_1 (va_lid sX0_init_4 (va_lid sX0_init_5 (va_lid sX0_init_9 (va_lid sX0_init_12 (va_lid sX0_init_13 (va_lid sX0_init_17 (va_lid sX0_init_20 (va_lid0)))))))))
theorem kX0_init_0 : lk LX0_init 0 = some (xLdA 1 0) := rfl
theorem kX0_init_1 : lk LX0_init 1 = some (xObj 4) := rfl
theorem kX0_init_4 : lk LX0_init 4 = some (xLdA 5 0) := rfl
theorem kX0_init_5 : lk LX0_init 5 = some (xK 7 (nI 64)) := rfl
theorem kX0_init_9 : lk LX0_init 9 = some (xPfR 12 0 0) := rfl
theorem kX0_init_12 : lk LX0_init 12 = some (xLdA 13 0) := rfl
theorem kX0_init_13 : lk LX0_init 13 = some (xK 15 (nI 64)) := rfl
theorem kX0_init_17 : lk LX0_init 17 = some (xPfR 20 0 1) := rfl
theorem kX0_init_20 : lk LX0_init 20 = some (xRetV) := rfl
def LX0_bestSet : List (Nat × XI) := [(0, xLdA 1 2),
  (1, xLdA 2 1),
  (2, xLdI 3 3),
  (3, xCallV MX1_coinsBehind 1 2 6),
  (6, xStI 8 4),
  (8, xK 9 (nI 0)),
  (9, xStI 11 5),
  (11, xLdA 12 1),
  (12, xK 13 (nI 0)),
  (13, xCallV MX3_gain 3 1 16),
  (16, xStI 18 6),
  (18, xK 19 (nI 1)),
  (19, xStI 21 7),
  (21, xLdI 23 7),
  (23, xLdA 24 1),
  (24, xCallV MX3_allThings 3 0 27),
  (27, xC_gt 107 30),
  (30, xLdA 31 1),
  (31, xLdI 33 7),
  (33, xCallV MX3_roomTaken 3 1 36),
  (36, xLdA 37 1),
  (37, xGf 40 3 0),
  (40, xC_gt 101 43),
  (43, xLdA 44 1),
  (44, xLdI 46 7),
  (46, xLdA 47 2),
  (47, xGf 50 1 0),
  (50, xK 51 ((-1))),
  (51, xBin 52 f_ixor),
  (52, xBin 53 f_iand),
  (53, xCallV MX3_price 3 1 56),
  (56, xLdI 58 4),
  (58, xC_gt 101 61),
  (61, xLdA 62 1),
  (62, xLdI 64 7),
  (64, xCallV MX3_gain 3 1 67),
  (67, xStI 69 8),
  (69, xLdI 71 8),
  (71, xLdI 73 6),
  (73, xC_gt 93 76),
  (76, xLdI 78 8),
  (78, xLdI 80 6),
  (80, xC_ne 101 83),
  (83, xLdI 85 7),
  (85, xLdI 87 5),
  (87, xCallS MX0_isFewer 2 90),
  (90, xZ_eq 101 93),
  (93, xLdI 95 7),
  (95, xStI 97 5),
  (97, xLdI 99 8),
  (99, xStI 101 6),
  (101, xInc 104 7 (nI 1)),
  (104, xGo 21),
  (107, xLdI 109 5),
  (109, xRet)]
theorem sX0_bestSet_0 : Snd MX0_bestSet 0 (xLdA 1 2) := snd_aload_n (M := MX0_bestSet) (pc := 0) dX0_bestSet_0
theorem sX0_bestSet_1 : Snd MX0_bestSet 1 (xLdA 2 1) := snd_aload_n (M := MX0_bestSet) (pc := 1) dX0_bestSet_1
theorem sX0_bestSet_2 : Snd MX0_bestSet 2 (xLdI 3 3) := snd_iload_n (M := MX0_bestSet) (pc := 2) dX0_bestSet_2
theorem sX0_bestSet_3 : Snd MX0_bestSet 3 (xCallV MX1_coinsBehind 1 2 6) := snd_callV (M := MX0_bestSet) (pc := 3) (n := 2) dX0_bestSet_3 rfl w80 w81 w82 ⟨w78, w79, ⟨by decide, by decide, by decide +kernel⟩, by decide⟩ ⟨rfl, rfl⟩
theorem sX0_bestSet_6 : Snd MX0_bestSet 6 (xStI 8 4) := snd_istore (M := MX0_bestSet) (pc := 6) dX0_bestSet_6 (by decide)
theorem sX0_bestSet_8 : Snd MX0_bestSet 8 (xK 9 (nI 0)) := snd_iconst (M := MX0_bestSet) (pc := 8) dX0_bestSet_8 (by decide +kernel)
theorem sX0_bestSet_9 : Snd MX0_bestSet 9 (xStI 11 5) := snd_istore (M := MX0_bestSet) (pc := 9) dX0_bestSet_9 (by decide)
theorem sX0_bestSet_11 : Snd MX0_bestSet 11 (xLdA 12 1) := snd_aload_n (M := MX0_bestSet) (pc := 11) dX0_bestSet_11
theorem sX0_bestSet_12 : Snd MX0_bestSet 12 (xK 13 (nI 0)) := snd_iconst (M := MX0_bestSet) (pc := 12) dX0_bestSet_12 (by decide +kernel)
theorem sX0_bestSet_13 : Snd MX0_bestSet 13 (xCallV MX3_gain 3 1 16) := snd_callV (M := MX0_bestSet) (pc := 13) (n := 1) dX0_bestSet_13 rfl w85 w86 w87 ⟨w83, w84, ⟨by decide, by decide, by decide +kernel⟩, by decide⟩ ⟨rfl, rfl⟩
theorem sX0_bestSet_16 : Snd MX0_bestSet 16 (xStI 18 6) := snd_istore (M := MX0_bestSet) (pc := 16) dX0_bestSet_16 (by decide)
theorem sX0_bestSet_18 : Snd MX0_bestSet 18 (xK 19 (nI 1)) := snd_iconst (M := MX0_bestSet) (pc := 18) dX0_bestSet_18 (by decide +kernel)
theorem sX0_bestSet_19 : Snd MX0_bestSet 19 (xStI 21 7) := snd_istore (M := MX0_bestSet) (pc := 19) dX0_bestSet_19 (by decide)
theorem sX0_bestSet_21 : Snd MX0_bestSet 21 (xLdI 23 7) := snd_iload (M := MX0_bestSet) (pc := 21) dX0_bestSet_21
theorem sX0_bestSet_23 : Snd MX0_bestSet 23 (xLdA 24 1) := snd_aload_n (M := MX0_bestSet) (pc := 23) dX0_bestSet_23
theorem sX0_bestSet_24 : Snd MX0_bestSet 24 (xCallV MX3_allThings 3 0 27) := snd_callV (M := MX0_bestSet) (pc := 24) (n := 0) dX0_bestSet_24 rfl w89 w90 w91 ⟨w83, w88, ⟨by decide, by decide, by decide +kernel⟩, by decide⟩ ⟨rfl, rfl⟩
theorem sX0_bestSet_27 : Snd MX0_bestSet 27 (xC_gt 107 30) := snd_icmp_gt (M := MX0_bestSet) (pc := 27) dX0_bestSet_27 (by decide)
theorem sX0_bestSet_30 : Snd MX0_bestSet 30 (xLdA 31 1) := snd_aload_n (M := MX0_bestSet) (pc := 30) dX0_bestSet_30
theorem sX0_bestSet_31 : Snd MX0_bestSet 31 (xLdI 33 7) := snd_iload (M := MX0_bestSet) (pc := 31) dX0_bestSet_31
theorem sX0_bestSet_33 : Snd MX0_bestSet 33 (xCallV MX3_roomTaken 3 1 36) := snd_callV (M := MX0_bestSet) (pc := 33) (n := 1) dX0_bestSet_33 rfl w93 w94 w95 ⟨w83, w92, ⟨by decide, by decide, by decide +kernel⟩, by decide⟩ ⟨rfl, rfl⟩
theorem sX0_bestSet_36 : Snd MX0_bestSet 36 (xLdA 37 1) := snd_aload_n (M := MX0_bestSet) (pc := 36) dX0_bestSet_36
theorem sX0_bestSet_37 : Snd MX0_bestSet 37 (xGf 40 3 0) := snd_gf (M := MX0_bestSet) (pc := 37) (C0 := RX3) (T0 := TX3) (N := 14) dX0_bestSet_37 rfl tbX3 (by decide) w96
theorem sX0_bestSet_40 : Snd MX0_bestSet 40 (xC_gt 101 43) := snd_icmp_gt (M := MX0_bestSet) (pc := 40) dX0_bestSet_40 (by decide)
theorem sX0_bestSet_43 : Snd MX0_bestSet 43 (xLdA 44 1) := snd_aload_n (M := MX0_bestSet) (pc := 43) dX0_bestSet_43
theorem sX0_bestSet_44 : Snd MX0_bestSet 44 (xLdI 46 7) := snd_iload (M := MX0_bestSet) (pc := 44) dX0_bestSet_44
theorem sX0_bestSet_46 : Snd MX0_bestSet 46 (xLdA 47 2) := snd_aload_n (M := MX0_bestSet) (pc := 46) dX0_bestSet_46
theorem sX0_bestSet_47 : Snd MX0_bestSet 47 (xGf 50 1 0) := snd_gf (M := MX0_bestSet) (pc := 47) (C0 := RX1) (T0 := TX1) (N := 4) dX0_bestSet_47 rfl tbX1 (by decide) w97
theorem sX0_bestSet_50 : Snd MX0_bestSet 50 (xK 51 ((-1))) := snd_iconst (M := MX0_bestSet) (pc := 50) dX0_bestSet_50 (by decide +kernel)
theorem sX0_bestSet_51 : Snd MX0_bestSet 51 (xBin 52 f_ixor) := snd_ixor (M := MX0_bestSet) (pc := 51) dX0_bestSet_51
theorem sX0_bestSet_52 : Snd MX0_bestSet 52 (xBin 53 f_iand) := snd_iand (M := MX0_bestSet) (pc := 52) dX0_bestSet_52
theorem sX0_bestSet_53 : Snd MX0_bestSet 53 (xCallV MX3_price 3 1 56) := snd_callV (M := MX0_bestSet) (pc := 53) (n := 1) dX0_bestSet_53 rfl w99 w100 w101 ⟨w83, w98, ⟨by decide, by decide, by decide +kernel⟩, by decide⟩ ⟨rfl, rfl⟩
theorem sX0_bestSet_56 : Snd MX0_bestSet 56 (xLdI 58 4) := snd_iload (M := MX0_bestSet) (pc := 56) dX0_bestSet_56
theorem sX0_bestSet_58 : Snd MX0_bestSet 58 (xC_gt 101 61) := snd_icmp_gt (M := MX0_bestSet) (pc := 58) dX0_bestSet_58 (by decide)
theorem sX0_bestSet_61 : Snd MX0_bestSet 61 (xLdA 62 1) := snd_aload_n (M := MX0_bestSet) (pc := 61) dX0_bestSet_61
theorem sX0_bestSet_62 : Snd MX0_bestSet 62 (xLdI 64 7) := snd_iload (M := MX0_bestSet) (pc := 62) dX0_bestSet_62
theorem sX0_bestSet_64 : Snd MX0_bestSet 64 (xCallV MX3_gain 3 1 67) := snd_callV (M := MX0_bestSet) (pc := 64) (n := 1) dX0_bestSet_64 rfl w85 w86 w87 ⟨w83, w84, ⟨by decide, by decide, by decide +kernel⟩, by decide⟩ ⟨rfl, rfl⟩
theorem sX0_bestSet_67 : Snd MX0_bestSet 67 (xStI 69 8) := snd_istore (M := MX0_bestSet) (pc := 67) dX0_bestSet_67 (by decide)
theorem sX0_bestSet_69 : Snd MX0_bestSet 69 (xLdI 71 8) := snd_iload (M := MX0_bestSet) (pc := 69) dX0_bestSet_69
theorem sX0_bestSet_71 : Snd MX0_bestSet 71 (xLdI 73 6) := snd_iload (M := MX0_bestSet) (pc := 71) dX0_bestSet_71
theorem sX0_bestSet_73 : Snd MX0_bestSet 73 (xC_gt 93 76) := snd_icmp_gt (M := MX0_bestSet) (pc := 73) dX0_bestSet_73 (by decide)
theorem sX0_bestSet_76 : Snd MX0_bestSet 76 (xLdI 78 8) := snd_iload (M := MX0_bestSet) (pc := 76) dX0_bestSet_76
theorem sX0_bestSet_78 : Snd MX0_bestSet 78 (xLdI 80 6) := snd_iload (M := MX0_bestSet) (pc := 78) dX0_bestSet_78
theorem sX0_bestSet_80 : Snd MX0_bestSet 80 (xC_ne 101 83) := snd_icmp_ne (M := MX0_bestSet) (pc := 80) dX0_bestSet_80 (by decide)
theorem sX0_bestSet_83 : Snd MX0_bestSet 83 (xLdI 85 7) := snd_iload (M := MX0_bestSet) (pc := 83) dX0_bestSet_83
theorem sX0_bestSet_85 : Snd MX0_bestSet 85 (xLdI 87 5) := snd_iload (M := MX0_bestSet) (pc := 85) dX0_bestSet_85
theorem sX0_bestSet_87 : Snd MX0_bestSet 87 (xCallS MX0_isFewer 2 90) := snd_callS (M := MX0_bestSet) (pc := 87) (n := 2) dX0_bestSet_87 w104 w105 ⟨w102, w103, ⟨by decide, by decide, by decide +kernel⟩, by decide⟩ ⟨rfl, rfl⟩
theorem sX0_bestSet_90 : Snd MX0_bestSet 90 (xZ_eq 101 93) := snd_if_eq (M := MX0_bestSet) (pc := 90) dX0_bestSet_90 (by decide)
theorem sX0_bestSet_93 : Snd MX0_bestSet 93 (xLdI 95 7) := snd_iload (M := MX0_bestSet) (pc := 93) dX0_bestSet_93
theorem sX0_bestSet_95 : Snd MX0_bestSet 95 (xStI 97 5) := snd_istore (M := MX0_bestSet) (pc := 95) dX0_bestSet_95 (by decide)
theorem sX0_bestSet_97 : Snd MX0_bestSet 97 (xLdI 99 8) := snd_iload (M := MX0_bestSet) (pc := 97) dX0_bestSet_97
theorem sX0_bestSet_99 : Snd MX0_bestSet 99 (xStI 101 6) := snd_istore (M := MX0_bestSet) (pc := 99) dX0_bestSet_99 (by decide)
theorem sX0_bestSet_101 : Snd MX0_bestSet 101 (xInc 104 7 (nI 1)) := snd_iinc (M := MX0_bestSet) (pc := 101) dX0_bestSet_101 (by decide +kernel) (by decide)
theorem sX0_bestSet_104 : Snd MX0_bestSet 104 (xGo 21) := snd_goto (M := MX0_bestSet) (pc := 104) dX0_bestSet_104 (by decide)
theorem sX0_bestSet_107 : Snd MX0_bestSet 107 (xLdI 109 5) := snd_iload (M := MX0_bestSet) (pc := 107) dX0_bestSet_107
theorem sX0_bestSet_109 : Snd MX0_bestSet 109 (xRet) := snd_iret (M := MX0_bestSet) (pc := 109) dX0_bestSet_109 rfl
theorem VX0_bestSet : Valid MX0_bestSet LX0_bestSet := va_lid sX0_bestSet_0 (va_lid sX0_bestSet_1 (va_lid sX0_bestSet_2 (va_lid sX0_bestSet_3 (va_lid sX0_bestSet_6 (va_lid sX0_bestSet_8 (va_lid sX0_bestSet_9 (va_lid sX0_bestSet_11 (va_lid sX0_bestSet_12 (va_lid sX0_bestSet_13 (va_lid sX0_bestSet_16 (va_lid sX0_bestSet_18 (va_lid sX0_bestSet_19 (va_lid sX0_bestSet_21 (va_lid sX0_bestSet_23 (va_lid sX0_bestSet_24 (va_lid sX0_bestSet_27 (va_lid sX0_bestSet_30 (va_lid sX0_bestSet_31 (va_lid sX0_bestSet_33 (va_lid sX0_bestSet_36 (va_lid sX0_bestSet_37 (va_lid sX0_bestSet_40 (va_lid sX0_bestSet_43 (va_lid sX0_bestSet_44 (va_lid sX0_bestSet_46 (va_lid sX0_bestSet_47 (va_lid sX0_bestSet_50 (va_lid sX0_bestSet_51 (va_lid sX0_bestSet_52 (va_lid sX0_bestSet_53 (va_lid sX0_bestSet_56 (va_lid sX0_bestSet_58 (va_lid sX0_bestSet_61 (va_lid sX0_bestSet_62 (va_lid sX0_bestSet_64 (va_lid sX0_bestSet_67 (va_lid sX0_bestSet_69 (va_lid sX0_bestSet_71 (va_lid sX0_bestSet_73 (va_lid sX0_bestSet_76 (va_lid sX0_bestSet_78 (va_lid sX0_bestSet_80 (va_lid sX0_bestSet_83 (va_lid sX0_bestSet_85 (va_lid sX0_bestSet_87 (va_lid sX0_bestSet_90 (va_lid sX0_bestSet_93 (va_lid sX0_bestSet_95 (va_lid sX0_bestSet_97 (va_lid sX0_bestSet_99 (va_lid sX0_bestSet_101 (va_lid sX0_bestSet_104 (va_lid sX0_bestSet_107 (va_lid sX0_bestSet_109 (va_lid0)))))))))))))))))))))))))))))))))))))))))))))))))))))))
theorem kX0_bestSet_0 : lk LX0_bestSet 0 = some (xLdA 1 2) := rfl
theorem kX0_bestSet_1 : lk LX0_bestSet 1 = some (xLdA 2 1) := rfl
theorem kX0_bestSet_2 : lk LX0_bestSet 2 = some (xLdI 3 3) := rfl
theorem kX0_bestSet_3 : lk LX0_bestSet 3 = some (xCallV MX1_coinsBehind 1 2 6) := rfl
theorem kX0_bestSet_6 : lk LX0_bestSet 6 = some (xStI 8 4) := rfl
theorem kX0_bestSet_8 : lk LX0_bestSet 8 = some (xK 9 (nI 0)) := rfl
theorem kX0_bestSet_9 : lk LX0_bestSet 9 = some (xStI 11 5) := rfl
theorem kX0_bestSet_11 : lk LX0_bestSet 11 = some (xLdA 12 1) := rfl
theorem kX0_bestSet_12 : lk LX0_bestSet 12 = some (xK 13 (nI 0)) := rfl
theorem kX0_bestSet_13 : lk LX0_bestSet 13 = some (xCallV MX3_gain 3 1 16) := rfl
theorem kX0_bestSet_16 : lk LX0_bestSet 16 = some (xStI 18 6) := rfl
theorem kX0_bestSet_18 : lk LX0_bestSet 18 = some (xK 19 (nI 1)) := rfl
theorem kX0_bestSet_19 : lk LX0_bestSet 19 = some (xStI 21 7) := rfl
theorem kX0_bestSet_21 : lk LX0_bestSet 21 = some (xLdI 23 7) := rfl
theorem kX0_bestSet_23 : lk LX0_bestSet 23 = some (xLdA 24 1) := rfl
theorem kX0_bestSet_24 : lk LX0_bestSet 24 = some (xCallV MX3_allThings 3 0 27) := rfl
theorem kX0_bestSet_27 : lk LX0_bestSet 27 = some (xC_gt 107 30) := rfl
theorem kX0_bestSet_30 : lk LX0_bestSet 30 = some (xLdA 31 1) := rfl
theorem kX0_bestSet_31 : lk LX0_bestSet 31 = some (xLdI 33 7) := rfl
theorem kX0_bestSet_33 : lk LX0_bestSet 33 = some (xCallV MX3_roomTaken 3 1 36) := rfl
theorem kX0_bestSet_36 : lk LX0_bestSet 36 = some (xLdA 37 1) := rfl
theorem kX0_bestSet_37 : lk LX0_bestSet 37 = some (xGf 40 3 0) := rfl
theorem kX0_bestSet_40 : lk LX0_bestSet 40 = some (xC_gt 101 43) := rfl
theorem kX0_bestSet_43 : lk LX0_bestSet 43 = some (xLdA 44 1) := rfl
theorem kX0_bestSet_44 : lk LX0_bestSet 44 = some (xLdI 46 7) := rfl
theorem kX0_bestSet_46 : lk LX0_bestSet 46 = some (xLdA 47 2) := rfl
theorem kX0_bestSet_47 : lk LX0_bestSet 47 = some (xGf 50 1 0) := rfl
theorem kX0_bestSet_50 : lk LX0_bestSet 50 = some (xK 51 ((-1))) := rfl
theorem kX0_bestSet_51 : lk LX0_bestSet 51 = some (xBin 52 f_ixor) := rfl
theorem kX0_bestSet_52 : lk LX0_bestSet 52 = some (xBin 53 f_iand) := rfl
theorem kX0_bestSet_53 : lk LX0_bestSet 53 = some (xCallV MX3_price 3 1 56) := rfl
theorem kX0_bestSet_56 : lk LX0_bestSet 56 = some (xLdI 58 4) := rfl
theorem kX0_bestSet_58 : lk LX0_bestSet 58 = some (xC_gt 101 61) := rfl
theorem kX0_bestSet_61 : lk LX0_bestSet 61 = some (xLdA 62 1) := rfl
theorem kX0_bestSet_62 : lk LX0_bestSet 62 = some (xLdI 64 7) := rfl
theorem kX0_bestSet_64 : lk LX0_bestSet 64 = some (xCallV MX3_gain 3 1 67) := rfl
theorem kX0_bestSet_67 : lk LX0_bestSet 67 = some (xStI 69 8) := rfl
theorem kX0_bestSet_69 : lk LX0_bestSet 69 = some (xLdI 71 8) := rfl
theorem kX0_bestSet_71 : lk LX0_bestSet 71 = some (xLdI 73 6) := rfl
theorem kX0_bestSet_73 : lk LX0_bestSet 73 = some (xC_gt 93 76) := rfl
theorem kX0_bestSet_76 : lk LX0_bestSet 76 = some (xLdI 78 8) := rfl
theorem kX0_bestSet_78 : lk LX0_bestSet 78 = some (xLdI 80 6) := rfl
theorem kX0_bestSet_80 : lk LX0_bestSet 80 = some (xC_ne 101 83) := rfl
theorem kX0_bestSet_83 : lk LX0_bestSet 83 = some (xLdI 85 7) := rfl
theorem kX0_bestSet_85 : lk LX0_bestSet 85 = some (xLdI 87 5) := rfl
theorem kX0_bestSet_87 : lk LX0_bestSet 87 = some (xCallS MX0_isFewer 2 90) := rfl
theorem kX0_bestSet_90 : lk LX0_bestSet 90 = some (xZ_eq 101 93) := rfl
theorem kX0_bestSet_93 : lk LX0_bestSet 93 = some (xLdI 95 7) := rfl
theorem kX0_bestSet_95 : lk LX0_bestSet 95 = some (xStI 97 5) := rfl
theorem kX0_bestSet_97 : lk LX0_bestSet 97 = some (xLdI 99 8) := rfl
theorem kX0_bestSet_99 : lk LX0_bestSet 99 = some (xStI 101 6) := rfl
theorem kX0_bestSet_101 : lk LX0_bestSet 101 = some (xInc 104 7 (nI 1)) := rfl
theorem kX0_bestSet_104 : lk LX0_bestSet 104 = some (xGo 21) := rfl
theorem kX0_bestSet_107 : lk LX0_bestSet 107 = some (xLdI 109 5) := rfl
theorem kX0_bestSet_109 : lk LX0_bestSet 109 = some (xRet) := rfl
def LX0_isFewer : List (Nat × XI) := [(0, xLdI 1 0),
  (1, xCallS MJ6_bitCount_0f7a4 1 4),
  (4, xLdI 5 1),
  (5, xCallS MJ6_bitCount_0f7a4 1 8),
  (8, xC_ge 15 11),
  (11, xK 12 (nI 1)),
  (12, xGo 16),
  (15, xK 16 (nI 0)),
  (16, xRetZ)]
theorem sX0_isFewer_0 : Snd MX0_isFewer 0 (xLdI 1 0) := snd_iload_n (M := MX0_isFewer) (pc := 0) dX0_isFewer_0
theorem sX0_isFewer_1 : Snd MX0_isFewer 1 (xCallS MJ6_bitCount_0f7a4 1 4) := snd_callS (M := MX0_isFewer) (pc := 1) (n := 1) dX0_isFewer_1 w108 w109 ⟨w106, w107, ⟨by decide, by decide, by decide +kernel⟩, by decide⟩ ⟨rfl, rfl⟩
theorem sX0_isFewer_4 : Snd MX0_isFewer 4 (xLdI 5 1) := snd_iload_n (M := MX0_isFewer) (pc := 4) dX0_isFewer_4
theorem sX0_isFewer_5 : Snd MX0_isFewer 5 (xCallS MJ6_bitCount_0f7a4 1 8) := snd_callS (M := MX0_isFewer) (pc := 5) (n := 1) dX0_isFewer_5 w108 w109 ⟨w106, w107, ⟨by decide, by decide, by decide +kernel⟩, by decide⟩ ⟨rfl, rfl⟩
theorem sX0_isFewer_8 : Snd MX0_isFewer 8 (xC_ge 15 11) := snd_icmp_ge (M := MX0_isFewer) (pc := 8) dX0_isFewer_8 (by decide)
theorem sX0_isFewer_11 : Snd MX0_isFewer 11 (xK 12 (nI 1)) := snd_iconst (M := MX0_isFewer) (pc := 11) dX0_isFewer_11 (by decide +kernel)
theorem sX0_isFewer_12 : Snd MX0_isFewer 12 (xGo 16) := snd_goto (M := MX0_isFewer) (pc := 12) dX0_isFewer_12 (by decide)
theorem sX0_isFewer_15 : Snd MX0_isFewer 15 (xK 16 (nI 0)) := snd_iconst (M := MX0_isFewer) (pc := 15) dX0_isFewer_15 (by decide +kernel)
theorem sX0_isFewer_16 : Snd MX0_isFewer 16 (xRetZ) := snd_zret (M := MX0_isFewer) (pc := 16) dX0_isFewer_16 rfl
theorem VX0_isFewer : Valid MX0_isFewer LX0_isFewer := va_lid sX0_isFewer_0 (va_lid sX0_isFewer_1 (va_lid sX0_isFewer_4 (va_lid sX0_isFewer_5 (va_lid sX0_isFewer_8 (va_lid sX0_isFewer_11 (va_lid sX0_isFewer_12 (va_lid sX0_isFewer_15 (va_lid sX0_isFewer_16 (va_lid0)))))))))
theorem kX0_isFewer_0 : lk LX0_isFewer 0 = some (xLdI 1 0) := rfl
theorem kX0_isFewer_1 : lk LX0_isFewer 1 = some (xCallS MJ6_bitCount_0f7a4 1 4) := rfl
theorem kX0_isFewer_4 : lk LX0_isFewer 4 = some (xLdI 5 1) := rfl
theorem kX0_isFewer_5 : lk LX0_isFewer 5 = some (xCallS MJ6_bitCount_0f7a4 1 8) := rfl
theorem kX0_isFewer_8 : lk LX0_isFewer 8 = some (xC_ge 15 11) := rfl
theorem kX0_isFewer_11 : lk LX0_isFewer 11 = some (xK 12 (nI 1)) := rfl
theorem kX0_isFewer_12 : lk LX0_isFewer 12 = some (xGo 16) := rfl
theorem kX0_isFewer_15 : lk LX0_isFewer 15 = some (xK 16 (nI 0)) := rfl
theorem kX0_isFewer_16 : lk LX0_isFewer 16 = some (xRetZ) := rfl
def LX0_fewestThings : List (Nat × XI) := [(0, xLdA 1 1),
  (1, xCallV MX3_allThings 3 0 4),
  (4, xStI 5 3),
  (5, xK 6 (nI 0)),
  (6, xStI 8 4),
  (8, xLdI 10 4),
  (10, xLdA 11 1),
  (11, xCallV MX3_allThings 3 0 14),
  (14, xC_ge 48 17),
  (17, xLdI 19 4),
  (19, xLdI 20 3),
  (20, xCallS MX0_isFewer 2 23),
  (23, xZ_eq 42 26),
  (26, xLdI 27 2),
  (27, xLdA 28 1),
  (28, xLdI 30 4),
  (30, xCallV MX3_livesBy 3 1 33),
  (33, xK 34 ((-1))),
  (34, xBin 35 f_ixor),
  (35, xBin 36 f_iand),
  (36, xZ_ne 42 39),
  (39, xLdI 41 4),
  (41, xStI 42 3),
  (42, xInc 45 4 (nI 1)),
  (45, xGo 8),
  (48, xLdI 49 3),
  (49, xRet)]
theorem sX0_fewestThings_0 : Snd MX0_fewestThings 0 (xLdA 1 1) := snd_aload_n (M := MX0_fewestThings) (pc := 0) dX0_fewestThings_0
theorem sX0_fewestThings_1 : Snd MX0_fewestThings 1 (xCallV MX3_allThings 3 0 4) := snd_callV (M := MX0_fewestThings) (pc := 1) (n := 0) dX0_fewestThings_1 rfl w89 w90 w91 ⟨w83, w88, ⟨by decide, by decide, by decide +kernel⟩, by decide⟩ ⟨rfl, rfl⟩
theorem sX0_fewestThings_4 : Snd MX0_fewestThings 4 (xStI 5 3) := snd_istore_n (M := MX0_fewestThings) (pc := 4) dX0_fewestThings_4 (by decide)
theorem sX0_fewestThings_5 : Snd MX0_fewestThings 5 (xK 6 (nI 0)) := snd_iconst (M := MX0_fewestThings) (pc := 5) dX0_fewestThings_5 (by decide +kernel)
theorem sX0_fewestThings_6 : Snd MX0_fewestThings 6 (xStI 8 4) := snd_istore (M := MX0_fewestThings) (pc := 6) dX0_fewestThings_6 (by decide)
theorem sX0_fewestThings_8 : Snd MX0_fewestThings 8 (xLdI 10 4) := snd_iload (M := MX0_fewestThings) (pc := 8) dX0_fewestThings_8
theorem sX0_fewestThings_10 : Snd MX0_fewestThings 10 (xLdA 11 1) := snd_aload_n (M := MX0_fewestThings) (pc := 10) dX0_fewestThings_10
theorem sX0_fewestThings_11 : Snd MX0_fewestThings 11 (xCallV MX3_allThings 3 0 14) := snd_callV (M := MX0_fewestThings) (pc := 11) (n := 0) dX0_fewestThings_11 rfl w89 w90 w91 ⟨w83, w88, ⟨by decide, by decide, by decide +kernel⟩, by decide⟩ ⟨rfl, rfl⟩
theorem sX0_fewestThings_14 : Snd MX0_fewestThings 14 (xC_ge 48 17) := snd_icmp_ge (M := MX0_fewestThings) (pc := 14) dX0_fewestThings_14 (by decide)
theorem sX0_fewestThings_17 : Snd MX0_fewestThings 17 (xLdI 19 4) := snd_iload (M := MX0_fewestThings) (pc := 17) dX0_fewestThings_17
theorem sX0_fewestThings_19 : Snd MX0_fewestThings 19 (xLdI 20 3) := snd_iload_n (M := MX0_fewestThings) (pc := 19) dX0_fewestThings_19
theorem sX0_fewestThings_20 : Snd MX0_fewestThings 20 (xCallS MX0_isFewer 2 23) := snd_callS (M := MX0_fewestThings) (pc := 20) (n := 2) dX0_fewestThings_20 w104 w105 ⟨w102, w103, ⟨by decide, by decide, by decide +kernel⟩, by decide⟩ ⟨rfl, rfl⟩
theorem sX0_fewestThings_23 : Snd MX0_fewestThings 23 (xZ_eq 42 26) := snd_if_eq (M := MX0_fewestThings) (pc := 23) dX0_fewestThings_23 (by decide)
theorem sX0_fewestThings_26 : Snd MX0_fewestThings 26 (xLdI 27 2) := snd_iload_n (M := MX0_fewestThings) (pc := 26) dX0_fewestThings_26
theorem sX0_fewestThings_27 : Snd MX0_fewestThings 27 (xLdA 28 1) := snd_aload_n (M := MX0_fewestThings) (pc := 27) dX0_fewestThings_27
theorem sX0_fewestThings_28 : Snd MX0_fewestThings 28 (xLdI 30 4) := snd_iload (M := MX0_fewestThings) (pc := 28) dX0_fewestThings_28
theorem sX0_fewestThings_30 : Snd MX0_fewestThings 30 (xCallV MX3_livesBy 3 1 33) := snd_callV (M := MX0_fewestThings) (pc := 30) (n := 1) dX0_fewestThings_30 rfl w111 w112 w113 ⟨w83, w110, ⟨by decide, by decide, by decide +kernel⟩, by decide⟩ ⟨rfl, rfl⟩
theorem sX0_fewestThings_33 : Snd MX0_fewestThings 33 (xK 34 ((-1))) := snd_iconst (M := MX0_fewestThings) (pc := 33) dX0_fewestThings_33 (by decide +kernel)
theorem sX0_fewestThings_34 : Snd MX0_fewestThings 34 (xBin 35 f_ixor) := snd_ixor (M := MX0_fewestThings) (pc := 34) dX0_fewestThings_34
theorem sX0_fewestThings_35 : Snd MX0_fewestThings 35 (xBin 36 f_iand) := snd_iand (M := MX0_fewestThings) (pc := 35) dX0_fewestThings_35
theorem sX0_fewestThings_36 : Snd MX0_fewestThings 36 (xZ_ne 42 39) := snd_if_ne (M := MX0_fewestThings) (pc := 36) dX0_fewestThings_36 (by decide)
theorem sX0_fewestThings_39 : Snd MX0_fewestThings 39 (xLdI 41 4) := snd_iload (M := MX0_fewestThings) (pc := 39) dX0_fewestThings_39
theorem sX0_fewestThings_41 : Snd MX0_fewestThings 41 (xStI 42 3) := snd_istore_n (M := MX0_fewestThings) (pc := 41) dX0_fewestThings_41 (by decide)
theorem sX0_fewestThings_42 : Snd MX0_fewestThings 42 (xInc 45 4 (nI 1)) := snd_iinc (M := MX0_fewestThings) (pc := 42) dX0_fewestThings_42 (by decide +kernel) (by decide)
theorem sX0_fewestThings_45 : Snd MX0_fewestThings 45 (xGo 8) := snd_goto (M := MX0_fewestThings) (pc := 45) dX0_fewestThings_45 (by decide)
theorem sX0_fewestThings_48 : Snd MX0_fewestThings 48 (xLdI 49 3) := snd_iload_n (M := MX0_fewestThings) (pc := 48) dX0_fewestThings_48
theorem sX0_fewestThings_49 : Snd MX0_fewestThings 49 (xRet) := snd_iret (M := MX0_fewestThings) (pc := 49) dX0_fewestThings_49 rfl
theorem VX0_fewestThings : Valid MX0_fewestThings LX0_fewestThings := va_lid sX0_fewestThings_0 (va_lid sX0_fewestThings_1 (va_lid sX0_fewestThings_4 (va_lid sX0_fewestThings_5 (va_lid sX0_fewestThings_6 (va_lid sX0_fewestThings_8 (va_lid sX0_fewestThings_10 (va_lid sX0_fewestThings_11 (va_lid sX0_fewestThings_14 (va_lid sX0_fewestThings_17 (va_lid sX0_fewestThings_19 (va_lid sX0_fewestThings_20 (va_lid sX0_fewestThings_23 (va_lid sX0_fewestThings_26 (va_lid sX0_fewestThings_27 (va_lid sX0_fewestThings_28 (va_lid sX0_fewestThings_30 (va_lid sX0_fewestThings_33 (va_lid sX0_fewestThings_34 (va_lid sX0_fewestThings_35 (va_lid sX0_fewestThings_36 (va_lid sX0_fewestThings_39 (va_lid sX0_fewestThings_41 (va_lid sX0_fewestThings_42 (va_lid sX0_fewestThings_45 (va_lid sX0_fewestThings_48 (va_lid sX0_fewestThings_49 (va_lid0)))))))))))))))))))))))))))
theorem kX0_fewestThings_0 : lk LX0_fewestThings 0 = some (xLdA 1 1) := rfl
theorem kX0_fewestThings_1 : lk LX0_fewestThings 1 = some (xCallV MX3_allThings 3 0 4) := rfl
theorem kX0_fewestThings_4 : lk LX0_fewestThings 4 = some (xStI 5 3) := rfl
theorem kX0_fewestThings_5 : lk LX0_fewestThings 5 = some (xK 6 (nI 0)) := rfl
theorem kX0_fewestThings_6 : lk LX0_fewestThings 6 = some (xStI 8 4) := rfl
theorem kX0_fewestThings_8 : lk LX0_fewestThings 8 = some (xLdI 10 4) := rfl
theorem kX0_fewestThings_10 : lk LX0_fewestThings 10 = some (xLdA 11 1) := rfl
theorem kX0_fewestThings_11 : lk LX0_fewestThings 11 = some (xCallV MX3_allThings 3 0 14) := rfl
theorem kX0_fewestThings_14 : lk LX0_fewestThings 14 = some (xC_ge 48 17) := rfl
theorem kX0_fewestThings_17 : lk LX0_fewestThings 17 = some (xLdI 19 4) := rfl
theorem kX0_fewestThings_19 : lk LX0_fewestThings 19 = some (xLdI 20 3) := rfl
theorem kX0_fewestThings_20 : lk LX0_fewestThings 20 = some (xCallS MX0_isFewer 2 23) := rfl
theorem kX0_fewestThings_23 : lk LX0_fewestThings 23 = some (xZ_eq 42 26) := rfl
theorem kX0_fewestThings_26 : lk LX0_fewestThings 26 = some (xLdI 27 2) := rfl
theorem kX0_fewestThings_27 : lk LX0_fewestThings 27 = some (xLdA 28 1) := rfl
theorem kX0_fewestThings_28 : lk LX0_fewestThings 28 = some (xLdI 30 4) := rfl
theorem kX0_fewestThings_30 : lk LX0_fewestThings 30 = some (xCallV MX3_livesBy 3 1 33) := rfl
theorem kX0_fewestThings_33 : lk LX0_fewestThings 33 = some (xK 34 ((-1))) := rfl
theorem kX0_fewestThings_34 : lk LX0_fewestThings 34 = some (xBin 35 f_ixor) := rfl
theorem kX0_fewestThings_35 : lk LX0_fewestThings 35 = some (xBin 36 f_iand) := rfl
theorem kX0_fewestThings_36 : lk LX0_fewestThings 36 = some (xZ_ne 42 39) := rfl
theorem kX0_fewestThings_39 : lk LX0_fewestThings 39 = some (xLdI 41 4) := rfl
theorem kX0_fewestThings_41 : lk LX0_fewestThings 41 = some (xStI 42 3) := rfl
theorem kX0_fewestThings_42 : lk LX0_fewestThings 42 = some (xInc 45 4 (nI 1)) := rfl
theorem kX0_fewestThings_45 : lk LX0_fewestThings 45 = some (xGo 8) := rfl
theorem kX0_fewestThings_48 : lk LX0_fewestThings 48 = some (xLdI 49 3) := rfl
theorem kX0_fewestThings_49 : lk LX0_fewestThings 49 = some (xRet) := rfl
def LX0_servesMost : List (Nat × XI) := [(0, xK 2 ((-4))),
  (2, xStI 3 3),
  (3, xK 4 (nI 0)),
  (4, xStI 6 4),
  (6, xK 7 (nI 0)),
  (7, xStI 9 5),
  (9, xLdI 11 5),
  (11, xLdA 12 1),
  (12, xGf 15 3 2),
  (15, xC_ge 67 18),
  (18, xLdI 19 2),
  (19, xLdI 21 5),
  (21, xCallS MX5_has 2 24),
  (24, xZ_eq 61 27),
  (27, xLdA 28 1),
  (28, xLdI 29 2),
  (29, xK 30 (nI 1)),
  (30, xLdI 32 5),
  (32, xBin 33 f_ishl),
  (33, xK 34 ((-1))),
  (34, xBin 35 f_ixor),
  (35, xBin 36 f_iand),
  (36, xCallV MX3_gain 3 1 39),
  (39, xStI 41 6),
  (41, xLdI 42 3),
  (42, xK 44 ((-4))),
  (44, xC_eq 54 47),
  (47, xLdI 49 6),
  (49, xLdI 51 4),
  (51, xC_ge 61 54),
  (54, xLdI 56 5),
  (56, xStI 57 3),
  (57, xLdI 59 6),
  (59, xStI 61 4),
  (61, xInc 64 5 (nI 1)),
  (64, xGo 9),
  (67, xLdI 68 3),
  (68, xRet)]
theorem sX0_servesMost_0 : Snd MX0_servesMost 0 (xK 2 ((-4))) := snd_bipush (M := MX0_servesMost) (pc := 0) dX0_servesMost_0 (by decide +kernel)
theorem sX0_servesMost_2 : Snd MX0_servesMost 2 (xStI 3 3) := snd_istore_n (M := MX0_servesMost) (pc := 2) dX0_servesMost_2 (by decide)
theorem sX0_servesMost_3 : Snd MX0_servesMost 3 (xK 4 (nI 0)) := snd_iconst (M := MX0_servesMost) (pc := 3) dX0_servesMost_3 (by decide +kernel)
theorem sX0_servesMost_4 : Snd MX0_servesMost 4 (xStI 6 4) := snd_istore (M := MX0_servesMost) (pc := 4) dX0_servesMost_4 (by decide)
theorem sX0_servesMost_6 : Snd MX0_servesMost 6 (xK 7 (nI 0)) := snd_iconst (M := MX0_servesMost) (pc := 6) dX0_servesMost_6 (by decide +kernel)
theorem sX0_servesMost_7 : Snd MX0_servesMost 7 (xStI 9 5) := snd_istore (M := MX0_servesMost) (pc := 7) dX0_servesMost_7 (by decide)
theorem sX0_servesMost_9 : Snd MX0_servesMost 9 (xLdI 11 5) := snd_iload (M := MX0_servesMost) (pc := 9) dX0_servesMost_9
theorem sX0_servesMost_11 : Snd MX0_servesMost 11 (xLdA 12 1) := snd_aload_n (M := MX0_servesMost) (pc := 11) dX0_servesMost_11
theorem sX0_servesMost_12 : Snd MX0_servesMost 12 (xGf 15 3 2) := snd_gf (M := MX0_servesMost) (pc := 12) (C0 := RX3) (T0 := TX3) (N := 14) dX0_servesMost_12 rfl tbX3 (by decide) w114
theorem sX0_servesMost_15 : Snd MX0_servesMost 15 (xC_ge 67 18) := snd_icmp_ge (M := MX0_servesMost) (pc := 15) dX0_servesMost_15 (by decide)
theorem sX0_servesMost_18 : Snd MX0_servesMost 18 (xLdI 19 2) := snd_iload_n (M := MX0_servesMost) (pc := 18) dX0_servesMost_18
theorem sX0_servesMost_19 : Snd MX0_servesMost 19 (xLdI 21 5) := snd_iload (M := MX0_servesMost) (pc := 19) dX0_servesMost_19
theorem sX0_servesMost_21 : Snd MX0_servesMost 21 (xCallS MX5_has 2 24) := snd_callSN (M := MX0_servesMost) (pc := 21) (n := 2) dX0_servesMost_21 nt11 w117 ⟨w115, w116, ⟨by decide, by decide, by decide +kernel⟩, by decide⟩ ⟨rfl, rfl⟩
theorem sX0_servesMost_24 : Snd MX0_servesMost 24 (xZ_eq 61 27) := snd_if_eq (M := MX0_servesMost) (pc := 24) dX0_servesMost_24 (by decide)
theorem sX0_servesMost_27 : Snd MX0_servesMost 27 (xLdA 28 1) := snd_aload_n (M := MX0_servesMost) (pc := 27) dX0_servesMost_27
theorem sX0_servesMost_28 : Snd MX0_servesMost 28 (xLdI 29 2) := snd_iload_n (M := MX0_servesMost) (pc := 28) dX0_servesMost_28
theorem sX0_servesMost_29 : Snd MX0_servesMost 29 (xK 30 (nI 1)) := snd_iconst (M := MX0_servesMost) (pc := 29) dX0_servesMost_29 (by decide +kernel)
theorem sX0_servesMost_30 : Snd MX0_servesMost 30 (xLdI 32 5) := snd_iload (M := MX0_servesMost) (pc := 30) dX0_servesMost_30
theorem sX0_servesMost_32 : Snd MX0_servesMost 32 (xBin 33 f_ishl) := snd_ishl (M := MX0_servesMost) (pc := 32) dX0_servesMost_32
theorem sX0_servesMost_33 : Snd MX0_servesMost 33 (xK 34 ((-1))) := snd_iconst (M := MX0_servesMost) (pc := 33) dX0_servesMost_33 (by decide +kernel)
theorem sX0_servesMost_34 : Snd MX0_servesMost 34 (xBin 35 f_ixor) := snd_ixor (M := MX0_servesMost) (pc := 34) dX0_servesMost_34
theorem sX0_servesMost_35 : Snd MX0_servesMost 35 (xBin 36 f_iand) := snd_iand (M := MX0_servesMost) (pc := 35) dX0_servesMost_35
theorem sX0_servesMost_36 : Snd MX0_servesMost 36 (xCallV MX3_gain 3 1 39) := snd_callV (M := MX0_servesMost) (pc := 36) (n := 1) dX0_servesMost_36 rfl w85 w86 w87 ⟨w83, w84, ⟨by decide, by decide, by decide +kernel⟩, by decide⟩ ⟨rfl, rfl⟩
theorem sX0_servesMost_39 : Snd MX0_servesMost 39 (xStI 41 6) := snd_istore (M := MX0_servesMost) (pc := 39) dX0_servesMost_39 (by decide)
theorem sX0_servesMost_41 : Snd MX0_servesMost 41 (xLdI 42 3) := snd_iload_n (M := MX0_servesMost) (pc := 41) dX0_servesMost_41
theorem sX0_servesMost_42 : Snd MX0_servesMost 42 (xK 44 ((-4))) := snd_bipush (M := MX0_servesMost) (pc := 42) dX0_servesMost_42 (by decide +kernel)
theorem sX0_servesMost_44 : Snd MX0_servesMost 44 (xC_eq 54 47) := snd_icmp_eq (M := MX0_servesMost) (pc := 44) dX0_servesMost_44 (by decide)
theorem sX0_servesMost_47 : Snd MX0_servesMost 47 (xLdI 49 6) := snd_iload (M := MX0_servesMost) (pc := 47) dX0_servesMost_47
theorem sX0_servesMost_49 : Snd MX0_servesMost 49 (xLdI 51 4) := snd_iload (M := MX0_servesMost) (pc := 49) dX0_servesMost_49
theorem sX0_servesMost_51 : Snd MX0_servesMost 51 (xC_ge 61 54) := snd_icmp_ge (M := MX0_servesMost) (pc := 51) dX0_servesMost_51 (by decide)
theorem sX0_servesMost_54 : Snd MX0_servesMost 54 (xLdI 56 5) := snd_iload (M := MX0_servesMost) (pc := 54) dX0_servesMost_54
theorem sX0_servesMost_56 : Snd MX0_servesMost 56 (xStI 57 3) := snd_istore_n (M := MX0_servesMost) (pc := 56) dX0_servesMost_56 (by decide)
theorem sX0_servesMost_57 : Snd MX0_servesMost 57 (xLdI 59 6) := snd_iload (M := MX0_servesMost) (pc := 57) dX0_servesMost_57
theorem sX0_servesMost_59 : Snd MX0_servesMost 59 (xStI 61 4) := snd_istore (M := MX0_servesMost) (pc := 59) dX0_servesMost_59 (by decide)
theorem sX0_servesMost_61 : Snd MX0_servesMost 61 (xInc 64 5 (nI 1)) := snd_iinc (M := MX0_servesMost) (pc := 61) dX0_servesMost_61 (by decide +kernel) (by decide)
theorem sX0_servesMost_64 : Snd MX0_servesMost 64 (xGo 9) := snd_goto (M := MX0_servesMost) (pc := 64) dX0_servesMost_64 (by decide)
theorem sX0_servesMost_67 : Snd MX0_servesMost 67 (xLdI 68 3) := snd_iload_n (M := MX0_servesMost) (pc := 67) dX0_servesMost_67
theorem sX0_servesMost_68 : Snd MX0_servesMost 68 (xRet) := snd_iret (M := MX0_servesMost) (pc := 68) dX0_servesMost_68 rfl
theorem VX0_servesMost : Valid MX0_servesMost LX0_servesMost := va_lid sX0_servesMost_0 (va_lid sX0_servesMost_2 (va_lid sX0_servesMost_3 (va_lid sX0_servesMost_4 (va_lid sX0_servesMost_6 (va_lid sX0_servesMost_7 (va_lid sX0_servesMost_9 (va_lid sX0_servesMost_11 (va_lid sX0_servesMost_12 (va_lid sX0_servesMost_15 (va_lid sX0_servesMost_18 (va_lid sX0_servesMost_19 (va_lid sX0_servesMost_21 (va_lid sX0_servesMost_24 (va_lid sX0_servesMost_27 (va_lid sX0_servesMost_28 (va_lid sX0_servesMost_29 (va_lid sX0_servesMost_30 (va_lid sX0_servesMost_32 (va_lid sX0_servesMost_33 (va_lid sX0_servesMost_34 (va_lid sX0_servesMost_35 (va_lid sX0_servesMost_36 (va_lid sX0_servesMost_39 (va_lid sX0_servesMost_41 (va_lid sX0_servesMost_42 (va_lid sX0_servesMost_44 (va_lid sX0_servesMost_47 (va_lid sX0_servesMost_49 (va_lid sX0_servesMost_51 (va_lid sX0_servesMost_54 (va_lid sX0_servesMost_56 (va_lid sX0_servesMost_57 (va_lid sX0_servesMost_59 (va_lid sX0_servesMost_61 (va_lid sX0_servesMost_64 (va_lid sX0_servesMost_67 (va_lid sX0_servesMost_68 (va_lid0))))))))))))))))))))))))))))))))))))))
theorem kX0_servesMost_0 : lk LX0_servesMost 0 = some (xK 2 ((-4))) := rfl
theorem kX0_servesMost_2 : lk LX0_servesMost 2 = some (xStI 3 3) := rfl
theorem kX0_servesMost_3 : lk LX0_servesMost 3 = some (xK 4 (nI 0)) := rfl
theorem kX0_servesMost_4 : lk LX0_servesMost 4 = some (xStI 6 4) := rfl
theorem kX0_servesMost_6 : lk LX0_servesMost 6 = some (xK 7 (nI 0)) := rfl
theorem kX0_servesMost_7 : lk LX0_servesMost 7 = some (xStI 9 5) := rfl
theorem kX0_servesMost_9 : lk LX0_servesMost 9 = some (xLdI 11 5) := rfl
theorem kX0_servesMost_11 : lk LX0_servesMost 11 = some (xLdA 12 1) := rfl
theorem kX0_servesMost_12 : lk LX0_servesMost 12 = some (xGf 15 3 2) := rfl
theorem kX0_servesMost_15 : lk LX0_servesMost 15 = some (xC_ge 67 18) := rfl
theorem kX0_servesMost_18 : lk LX0_servesMost 18 = some (xLdI 19 2) := rfl
theorem kX0_servesMost_19 : lk LX0_servesMost 19 = some (xLdI 21 5) := rfl
theorem kX0_servesMost_21 : lk LX0_servesMost 21 = some (xCallS MX5_has 2 24) := rfl
theorem kX0_servesMost_24 : lk LX0_servesMost 24 = some (xZ_eq 61 27) := rfl
theorem kX0_servesMost_27 : lk LX0_servesMost 27 = some (xLdA 28 1) := rfl
theorem kX0_servesMost_28 : lk LX0_servesMost 28 = some (xLdI 29 2) := rfl
theorem kX0_servesMost_29 : lk LX0_servesMost 29 = some (xK 30 (nI 1)) := rfl
theorem kX0_servesMost_30 : lk LX0_servesMost 30 = some (xLdI 32 5) := rfl
theorem kX0_servesMost_32 : lk LX0_servesMost 32 = some (xBin 33 f_ishl) := rfl
theorem kX0_servesMost_33 : lk LX0_servesMost 33 = some (xK 34 ((-1))) := rfl
theorem kX0_servesMost_34 : lk LX0_servesMost 34 = some (xBin 35 f_ixor) := rfl
theorem kX0_servesMost_35 : lk LX0_servesMost 35 = some (xBin 36 f_iand) := rfl
theorem kX0_servesMost_36 : lk LX0_servesMost 36 = some (xCallV MX3_gain 3 1 39) := rfl
theorem kX0_servesMost_39 : lk LX0_servesMost 39 = some (xStI 41 6) := rfl
theorem kX0_servesMost_41 : lk LX0_servesMost 41 = some (xLdI 42 3) := rfl
theorem kX0_servesMost_42 : lk LX0_servesMost 42 = some (xK 44 ((-4))) := rfl
theorem kX0_servesMost_44 : lk LX0_servesMost 44 = some (xC_eq 54 47) := rfl
theorem kX0_servesMost_47 : lk LX0_servesMost 47 = some (xLdI 49 6) := rfl
theorem kX0_servesMost_49 : lk LX0_servesMost 49 = some (xLdI 51 4) := rfl
theorem kX0_servesMost_51 : lk LX0_servesMost 51 = some (xC_ge 61 54) := rfl
theorem kX0_servesMost_54 : lk LX0_servesMost 54 = some (xLdI 56 5) := rfl
theorem kX0_servesMost_56 : lk LX0_servesMost 56 = some (xStI 57 3) := rfl
theorem kX0_servesMost_57 : lk LX0_servesMost 57 = some (xLdI 59 6) := rfl
theorem kX0_servesMost_59 : lk LX0_servesMost 59 = some (xStI 61 4) := rfl
theorem kX0_servesMost_61 : lk LX0_servesMost 61 = some (xInc 64 5 (nI 1)) := rfl
theorem kX0_servesMost_64 : lk LX0_servesMost 64 = some (xGo 9) := rfl
theorem kX0_servesMost_67 : lk LX0_servesMost 67 = some (xLdI 68 3) := rfl
theorem kX0_servesMost_68 : lk LX0_servesMost 68 = some (xRet) := rfl
def LX0_longestRow : List (Nat × XI) := [(0, xLdA 1 0),
  (1, xLdA 2 1),
  (2, xLdA 3 2),
  (3, xCallV MX0_findLongest 0 2 6),
  (6, xLdA 7 0),
  (7, xGf 10 0 0),
  (10, xK 11 (nI 0)),
  (11, xCallS MX5_at 2 14),
  (14, xStI 16 4),
  (16, xLdI 17 3),
  (17, xZ_ne 23 20),
  (20, xLdI 22 4),
  (22, xRet),
  (23, xLdI 24 3),
  (24, xLdI 26 4),
  (26, xC_le 32 29),
  (29, xK 31 ((-4))),
  (31, xRet),
  (32, xK 33 (nI 0)),
  (33, xStI 35 5),
  (35, xK 37 ((-4))),
  (37, xStI 39 6),
  (39, xK 40 (nI 0)),
  (40, xStI 42 7),
  (42, xLdI 44 7),
  (44, xLdI 45 3),
  (45, xC_ge 73 48),
  (48, xLdA 49 0),
  (49, xLdA 50 1),
  (50, xLdA 51 2),
  (51, xLdI 53 5),
  (53, xCallV MX0_nextInRow 0 3 56),
  (56, xStI 58 6),
  (58, xLdI 60 5),
  (60, xK 61 (nI 1)),
  (61, xLdI 63 6),
  (63, xBin 64 f_ishl),
  (64, xBin 65 f_ior),
  (65, xStI 67 5),
  (67, xInc 70 7 (nI 1)),
  (70, xGo 42),
  (73, xLdI 75 6),
  (75, xRet)]
theorem sX0_longestRow_0 : Snd MX0_longestRow 0 (xLdA 1 0) := snd_aload_n (M := MX0_longestRow) (pc := 0) dX0_longestRow_0
theorem sX0_longestRow_1 : Snd MX0_longestRow 1 (xLdA 2 1) := snd_aload_n (M := MX0_longestRow) (pc := 1) dX0_longestRow_1
theorem sX0_longestRow_2 : Snd MX0_longestRow 2 (xLdA 3 2) := snd_aload_n (M := MX0_longestRow) (pc := 2) dX0_longestRow_2
theorem sX0_longestRow_3 : Snd MX0_longestRow 3 (xCallV MX0_findLongest 0 2 6) := snd_callV (M := MX0_longestRow) (pc := 3) (n := 2) dX0_longestRow_3 rfl w119 w120 w121 ⟨w102, w118, ⟨by decide, by decide, by decide +kernel⟩, by decide⟩ ⟨rfl, rfl⟩
theorem sX0_longestRow_6 : Snd MX0_longestRow 6 (xLdA 7 0) := snd_aload_n (M := MX0_longestRow) (pc := 6) dX0_longestRow_6
theorem sX0_longestRow_7 : Snd MX0_longestRow 7 (xGf 10 0 0) := snd_gf (M := MX0_longestRow) (pc := 7) (C0 := RX0) (T0 := TX0) (N := 2) dX0_longestRow_7 rfl tbX0 (by decide) w76
theorem sX0_longestRow_10 : Snd MX0_longestRow 10 (xK 11 (nI 0)) := snd_iconst (M := MX0_longestRow) (pc := 10) dX0_longestRow_10 (by decide +kernel)
theorem sX0_longestRow_11 : Snd MX0_longestRow 11 (xCallS MX5_at 2 14) := snd_callSN (M := MX0_longestRow) (pc := 11) (n := 2) dX0_longestRow_11 nt12 w123 ⟨w115, w122, ⟨by decide, by decide, by decide +kernel⟩, by decide⟩ ⟨rfl, rfl⟩
theorem sX0_longestRow_14 : Snd MX0_longestRow 14 (xStI 16 4) := snd_istore (M := MX0_longestRow) (pc := 14) dX0_longestRow_14 (by decide)
theorem sX0_longestRow_16 : Snd MX0_longestRow 16 (xLdI 17 3) := snd_iload_n (M := MX0_longestRow) (pc := 16) dX0_longestRow_16
theorem sX0_longestRow_17 : Snd MX0_longestRow 17 (xZ_ne 23 20) := snd_if_ne (M := MX0_longestRow) (pc := 17) dX0_longestRow_17 (by decide)
theorem sX0_longestRow_20 : Snd MX0_longestRow 20 (xLdI 22 4) := snd_iload (M := MX0_longestRow) (pc := 20) dX0_longestRow_20
theorem sX0_longestRow_22 : Snd MX0_longestRow 22 (xRet) := snd_iret (M := MX0_longestRow) (pc := 22) dX0_longestRow_22 rfl
theorem sX0_longestRow_23 : Snd MX0_longestRow 23 (xLdI 24 3) := snd_iload_n (M := MX0_longestRow) (pc := 23) dX0_longestRow_23
theorem sX0_longestRow_24 : Snd MX0_longestRow 24 (xLdI 26 4) := snd_iload (M := MX0_longestRow) (pc := 24) dX0_longestRow_24
theorem sX0_longestRow_26 : Snd MX0_longestRow 26 (xC_le 32 29) := snd_icmp_le (M := MX0_longestRow) (pc := 26) dX0_longestRow_26 (by decide)
theorem sX0_longestRow_29 : Snd MX0_longestRow 29 (xK 31 ((-4))) := snd_bipush (M := MX0_longestRow) (pc := 29) dX0_longestRow_29 (by decide +kernel)
theorem sX0_longestRow_31 : Snd MX0_longestRow 31 (xRet) := snd_iret (M := MX0_longestRow) (pc := 31) dX0_longestRow_31 rfl
theorem sX0_longestRow_32 : Snd MX0_longestRow 32 (xK 33 (nI 0)) := snd_iconst (M := MX0_longestRow) (pc := 32) dX0_longestRow_32 (by decide +kernel)
theorem sX0_longestRow_33 : Snd MX0_longestRow 33 (xStI 35 5) := snd_istore (M := MX0_longestRow) (pc := 33) dX0_longestRow_33 (by decide)
theorem sX0_longestRow_35 : Snd MX0_longestRow 35 (xK 37 ((-4))) := snd_bipush (M := MX0_longestRow) (pc := 35) dX0_longestRow_35 (by decide +kernel)
theorem sX0_longestRow_37 : Snd MX0_longestRow 37 (xStI 39 6) := snd_istore (M := MX0_longestRow) (pc := 37) dX0_longestRow_37 (by decide)
theorem sX0_longestRow_39 : Snd MX0_longestRow 39 (xK 40 (nI 0)) := snd_iconst (M := MX0_longestRow) (pc := 39) dX0_longestRow_39 (by decide +kernel)
theorem sX0_longestRow_40 : Snd MX0_longestRow 40 (xStI 42 7) := snd_istore (M := MX0_longestRow) (pc := 40) dX0_longestRow_40 (by decide)
theorem sX0_longestRow_42 : Snd MX0_longestRow 42 (xLdI 44 7) := snd_iload (M := MX0_longestRow) (pc := 42) dX0_longestRow_42
theorem sX0_longestRow_44 : Snd MX0_longestRow 44 (xLdI 45 3) := snd_iload_n (M := MX0_longestRow) (pc := 44) dX0_longestRow_44
theorem sX0_longestRow_45 : Snd MX0_longestRow 45 (xC_ge 73 48) := snd_icmp_ge (M := MX0_longestRow) (pc := 45) dX0_longestRow_45 (by decide)
theorem sX0_longestRow_48 : Snd MX0_longestRow 48 (xLdA 49 0) := snd_aload_n (M := MX0_longestRow) (pc := 48) dX0_longestRow_48
theorem sX0_longestRow_49 : Snd MX0_longestRow 49 (xLdA 50 1) := snd_aload_n (M := MX0_longestRow) (pc := 49) dX0_longestRow_49
theorem sX0_longestRow_50 : Snd MX0_longestRow 50 (xLdA 51 2) := snd_aload_n (M := MX0_longestRow) (pc := 50) dX0_longestRow_50
theorem sX0_longestRow_51 : Snd MX0_longestRow 51 (xLdI 53 5) := snd_iload (M := MX0_longestRow) (pc := 51) dX0_longestRow_51
theorem sX0_longestRow_53 : Snd MX0_longestRow 53 (xCallV MX0_nextInRow 0 3 56) := snd_callV (M := MX0_longestRow) (pc := 53) (n := 3) dX0_longestRow_53 rfl w125 w126 w127 ⟨w102, w124, ⟨by decide, by decide, by decide +kernel⟩, by decide⟩ ⟨rfl, rfl⟩
theorem sX0_longestRow_56 : Snd MX0_longestRow 56 (xStI 58 6) := snd_istore (M := MX0_longestRow) (pc := 56) dX0_longestRow_56 (by decide)
theorem sX0_longestRow_58 : Snd MX0_longestRow 58 (xLdI 60 5) := snd_iload (M := MX0_longestRow) (pc := 58) dX0_longestRow_58
theorem sX0_longestRow_60 : Snd MX0_longestRow 60 (xK 61 (nI 1)) := snd_iconst (M := MX0_longestRow) (pc := 60) dX0_longestRow_60 (by decide +kernel)
theorem sX0_longestRow_61 : Snd MX0_longestRow 61 (xLdI 63 6) := snd_iload (M := MX0_longestRow) (pc := 61) dX0_longestRow_61
theorem sX0_longestRow_63 : Snd MX0_longestRow 63 (xBin 64 f_ishl) := snd_ishl (M := MX0_longestRow) (pc := 63) dX0_longestRow_63
theorem sX0_longestRow_64 : Snd MX0_longestRow 64 (xBin 65 f_ior) := snd_ior (M := MX0_longestRow) (pc := 64) dX0_longestRow_64
theorem sX0_longestRow_65 : Snd MX0_longestRow 65 (xStI 67 5) := snd_istore (M := MX0_longestRow) (pc := 65) dX0_longestRow_65 (by decide)
theorem sX0_longestRow_67 : Snd MX0_longestRow 67 (xInc 70 7 (nI 1)) := snd_iinc (M := MX0_longestRow) (pc := 67) dX0_longestRow_67 (by decide +kernel) (by decide)
theorem sX0_longestRow_70 : Snd MX0_longestRow 70 (xGo 42) := snd_goto (M := MX0_longestRow) (pc := 70) dX0_longestRow_70 (by decide)
theorem sX0_longestRow_73 : Snd MX0_longestRow 73 (xLdI 75 6) := snd_iload (M := MX0_longestRow) (pc := 73) dX0_longestRow_73
theorem sX0_longestRow_75 : Snd MX0_longestRow 75 (xRet) := snd_iret (M := MX0_longestRow) (pc := 75) dX0_longestRow_75 rfl
theorem VX0_longestRow : Valid MX0_longestRow LX0_longestRow := va_lid sX0_longestRow_0 (va_lid sX0_longestRow_1 (va_lid sX0_longestRow_2 (va_lid sX0_longestRow_3 (va_lid sX0_longestRow_6 (va_lid sX0_longestRow_7 (va_lid sX0_longestRow_10 (va_lid sX0_longestRow_11 (va_lid sX0_longestRow_14 (va_lid sX0_longestRow_16 (va_lid sX0_longestRow_17 (va_lid sX0_longestRow_20 (va_lid sX0_longestRow_22 (va_lid sX0_longestRow_23 (va_lid sX0_longestRow_24 (va_lid sX0_longestRow_26 (va_lid sX0_longestRow_29 (va_lid sX0_longestRow_31 (va_lid sX0_longestRow_32 (va_lid sX0_longestRow_33 (va_lid sX0_longestRow_35 (va_lid sX0_longestRow_37 (va_lid sX0_longestRow_39 (va_lid sX0_longestRow_40 (va_lid sX0_longestRow_42 (va_lid sX0_longestRow_44 (va_lid sX0_longestRow_45 (va_lid sX0_longestRow_48 (va_lid sX0_longestRow_49 (va_lid sX0_longestRow_50 (va_lid sX0_longestRow_51 (va_lid sX0_longestRow_53 (va_lid sX0_longestRow_56 (va_lid sX0_longestRow_58 (va_lid sX0_longestRow_60 (va_lid sX0_longestRow_61 (va_lid sX0_longestRow_63 (va_lid sX0_longestRow_64 (va_lid sX0_longestRow_65 (va_lid sX0_longestRow_67 (va_lid sX0_longestRow_70 (va_lid sX0_longestRow_73 (va_lid sX0_longestRow_75 (va_lid0)))))))))))))))))))))))))))))))))))))))))))
theorem kX0_longestRow_0 : lk LX0_longestRow 0 = some (xLdA 1 0) := rfl
theorem kX0_longestRow_1 : lk LX0_longestRow 1 = some (xLdA 2 1) := rfl
theorem kX0_longestRow_2 : lk LX0_longestRow 2 = some (xLdA 3 2) := rfl
theorem kX0_longestRow_3 : lk LX0_longestRow 3 = some (xCallV MX0_findLongest 0 2 6) := rfl
theorem kX0_longestRow_6 : lk LX0_longestRow 6 = some (xLdA 7 0) := rfl
theorem kX0_longestRow_7 : lk LX0_longestRow 7 = some (xGf 10 0 0) := rfl
theorem kX0_longestRow_10 : lk LX0_longestRow 10 = some (xK 11 (nI 0)) := rfl
theorem kX0_longestRow_11 : lk LX0_longestRow 11 = some (xCallS MX5_at 2 14) := rfl
theorem kX0_longestRow_14 : lk LX0_longestRow 14 = some (xStI 16 4) := rfl
theorem kX0_longestRow_16 : lk LX0_longestRow 16 = some (xLdI 17 3) := rfl
theorem kX0_longestRow_17 : lk LX0_longestRow 17 = some (xZ_ne 23 20) := rfl
theorem kX0_longestRow_20 : lk LX0_longestRow 20 = some (xLdI 22 4) := rfl
theorem kX0_longestRow_22 : lk LX0_longestRow 22 = some (xRet) := rfl
theorem kX0_longestRow_23 : lk LX0_longestRow 23 = some (xLdI 24 3) := rfl
theorem kX0_longestRow_24 : lk LX0_longestRow 24 = some (xLdI 26 4) := rfl
theorem kX0_longestRow_26 : lk LX0_longestRow 26 = some (xC_le 32 29) := rfl
theorem kX0_longestRow_29 : lk LX0_longestRow 29 = some (xK 31 ((-4))) := rfl
theorem kX0_longestRow_31 : lk LX0_longestRow 31 = some (xRet) := rfl
theorem kX0_longestRow_32 : lk LX0_longestRow 32 = some (xK 33 (nI 0)) := rfl
theorem kX0_longestRow_33 : lk LX0_longestRow 33 = some (xStI 35 5) := rfl
theorem kX0_longestRow_35 : lk LX0_longestRow 35 = some (xK 37 ((-4))) := rfl
theorem kX0_longestRow_37 : lk LX0_longestRow 37 = some (xStI 39 6) := rfl
theorem kX0_longestRow_39 : lk LX0_longestRow 39 = some (xK 40 (nI 0)) := rfl
theorem kX0_longestRow_40 : lk LX0_longestRow 40 = some (xStI 42 7) := rfl
theorem kX0_longestRow_42 : lk LX0_longestRow 42 = some (xLdI 44 7) := rfl
theorem kX0_longestRow_44 : lk LX0_longestRow 44 = some (xLdI 45 3) := rfl
theorem kX0_longestRow_45 : lk LX0_longestRow 45 = some (xC_ge 73 48) := rfl
theorem kX0_longestRow_48 : lk LX0_longestRow 48 = some (xLdA 49 0) := rfl
theorem kX0_longestRow_49 : lk LX0_longestRow 49 = some (xLdA 50 1) := rfl
theorem kX0_longestRow_50 : lk LX0_longestRow 50 = some (xLdA 51 2) := rfl
theorem kX0_longestRow_51 : lk LX0_longestRow 51 = some (xLdI 53 5) := rfl
theorem kX0_longestRow_53 : lk LX0_longestRow 53 = some (xCallV MX0_nextInRow 0 3 56) := rfl
theorem kX0_longestRow_56 : lk LX0_longestRow 56 = some (xStI 58 6) := rfl
theorem kX0_longestRow_58 : lk LX0_longestRow 58 = some (xLdI 60 5) := rfl
theorem kX0_longestRow_60 : lk LX0_longestRow 60 = some (xK 61 (nI 1)) := rfl
theorem kX0_longestRow_61 : lk LX0_longestRow 61 = some (xLdI 63 6) := rfl
theorem kX0_longestRow_63 : lk LX0_longestRow 63 = some (xBin 64 f_ishl) := rfl
theorem kX0_longestRow_64 : lk LX0_longestRow 64 = some (xBin 65 f_ior) := rfl
theorem kX0_longestRow_65 : lk LX0_longestRow 65 = some (xStI 67 5) := rfl
theorem kX0_longestRow_67 : lk LX0_longestRow 67 = some (xInc 70 7 (nI 1)) := rfl
theorem kX0_longestRow_70 : lk LX0_longestRow 70 = some (xGo 42) := rfl
theorem kX0_longestRow_73 : lk LX0_longestRow 73 = some (xLdI 75 6) := rfl
theorem kX0_longestRow_75 : lk LX0_longestRow 75 = some (xRet) := rfl
def LX0_findLongest : List (Nat × XI) := [(0, xLdA 1 1),
  (1, xCallV MX3_allLives 3 0 4),
  (4, xStI 5 3),
  (5, xLdI 6 3),
  (6, xZ_lt 79 9),
  (9, xK 10 (nI 0)),
  (10, xStI 12 4),
  (12, xK 13 (nI 0)),
  (13, xStI 15 5),
  (15, xLdI 17 5),
  (17, xLdA 18 1),
  (18, xGf 21 3 3),
  (21, xC_ge 63 24),
  (24, xLdA 25 1),
  (25, xLdA 26 2),
  (26, xLdI 27 3),
  (27, xLdI 29 5),
  (29, xCallS MX0_canFollow 4 32),
  (32, xZ_eq 57 35),
  (35, xLdI 37 4),
  (37, xK 38 (nI 1)),
  (38, xLdA 39 0),
  (39, xGf 42 0 0),
  (42, xLdI 43 3),
  (43, xK 44 (nI 1)),
  (44, xLdI 46 5),
  (46, xBin 47 f_ishl),
  (47, xBin 48 f_ior),
  (48, xCallS MX5_at 2 51),
  (51, xBin 52 f_iadd),
  (52, xMmax 55),
  (55, xStI 57 4),
  (57, xInc 60 5 (nI 1)),
  (60, xGo 15),
  (63, xLdA 64 0),
  (64, xGf 67 0 0),
  (67, xLdI 68 3),
  (68, xLdI 70 4),
  (70, xCallS MX5_store 3 73),
  (73, xInc 76 3 ((-1))),
  (76, xGo 5),
  (79, xRetV)]
theorem sX0_findLongest_0 : Snd MX0_findLongest 0 (xLdA 1 1) := snd_aload_n (M := MX0_findLongest) (pc := 0) dX0_findLongest_0
theorem sX0_findLongest_1 : Snd MX0_findLongest 1 (xCallV MX3_allLives 3 0 4) := snd_callV (M := MX0_findLongest) (pc := 1) (n := 0) dX0_findLongest_1 rfl w129 w130 w131 ⟨w83, w128, ⟨by decide, by decide, by decide +kernel⟩, by decide⟩ ⟨rfl, rfl⟩
theorem sX0_findLongest_4 : Snd MX0_findLongest 4 (xStI 5 3) := snd_istore_n (M := MX0_findLongest) (pc := 4) dX0_findLongest_4 (by decide)
theorem sX0_findLongest_5 : Snd MX0_findLongest 5 (xLdI 6 3) := snd_iload_n (M := MX0_findLongest) (pc := 5) dX0_findLongest_5
theorem sX0_findLongest_6 : Snd MX0_findLongest 6 (xZ_lt 79 9) := snd_if_lt (M := MX0_findLongest) (pc := 6) dX0_findLongest_6 (by decide)
theorem sX0_findLongest_9 : Snd MX0_findLongest 9 (xK 10 (nI 0)) := snd_iconst (M := MX0_findLongest) (pc := 9) dX0_findLongest_9 (by decide +kernel)
theorem sX0_findLongest_10 : Snd MX0_findLongest 10 (xStI 12 4) := snd_istore (M := MX0_findLongest) (pc := 10) dX0_findLongest_10 (by decide)
theorem sX0_findLongest_12 : Snd MX0_findLongest 12 (xK 13 (nI 0)) := snd_iconst (M := MX0_findLongest) (pc := 12) dX0_findLongest_12 (by decide +kernel)
theorem sX0_findLongest_13 : Snd MX0_findLongest 13 (xStI 15 5) := snd_istore (M := MX0_findLongest) (pc := 13) dX0_findLongest_13 (by decide)
theorem sX0_findLongest_15 : Snd MX0_findLongest 15 (xLdI 17 5) := snd_iload (M := MX0_findLongest) (pc := 15) dX0_findLongest_15
theorem sX0_findLongest_17 : Snd MX0_findLongest 17 (xLdA 18 1) := snd_aload_n (M := MX0_findLongest) (pc := 17) dX0_findLongest_17
theorem sX0_findLongest_18 : Snd MX0_findLongest 18 (xGf 21 3 3) := snd_gf (M := MX0_findLongest) (pc := 18) (C0 := RX3) (T0 := TX3) (N := 14) dX0_findLongest_18 rfl tbX3 (by decide) w132
theorem sX0_findLongest_21 : Snd MX0_findLongest 21 (xC_ge 63 24) := snd_icmp_ge (M := MX0_findLongest) (pc := 21) dX0_findLongest_21 (by decide)
theorem sX0_findLongest_24 : Snd MX0_findLongest 24 (xLdA 25 1) := snd_aload_n (M := MX0_findLongest) (pc := 24) dX0_findLongest_24
theorem sX0_findLongest_25 : Snd MX0_findLongest 25 (xLdA 26 2) := snd_aload_n (M := MX0_findLongest) (pc := 25) dX0_findLongest_25
theorem sX0_findLongest_26 : Snd MX0_findLongest 26 (xLdI 27 3) := snd_iload_n (M := MX0_findLongest) (pc := 26) dX0_findLongest_26
theorem sX0_findLongest_27 : Snd MX0_findLongest 27 (xLdI 29 5) := snd_iload (M := MX0_findLongest) (pc := 27) dX0_findLongest_27
theorem sX0_findLongest_29 : Snd MX0_findLongest 29 (xCallS MX0_canFollow 4 32) := snd_callS (M := MX0_findLongest) (pc := 29) (n := 4) dX0_findLongest_29 w134 w135 ⟨w102, w133, ⟨by decide, by decide, by decide +kernel⟩, by decide⟩ ⟨rfl, rfl⟩
theorem sX0_findLongest_32 : Snd MX0_findLongest 32 (xZ_eq 57 35) := snd_if_eq (M := MX0_findLongest) (pc := 32) dX0_findLongest_32 (by decide)
theorem sX0_findLongest_35 : Snd MX0_findLongest 35 (xLdI 37 4) := snd_iload (M := MX0_findLongest) (pc := 35) dX0_findLongest_35
theorem sX0_findLongest_37 : Snd MX0_findLongest 37 (xK 38 (nI 1)) := snd_iconst (M := MX0_findLongest) (pc := 37) dX0_findLongest_37 (by decide +kernel)
theorem sX0_findLongest_38 : Snd MX0_findLongest 38 (xLdA 39 0) := snd_aload_n (M := MX0_findLongest) (pc := 38) dX0_findLongest_38
theorem sX0_findLongest_39 : Snd MX0_findLongest 39 (xGf 42 0 0) := snd_gf (M := MX0_findLongest) (pc := 39) (C0 := RX0) (T0 := TX0) (N := 2) dX0_findLongest_39 rfl tbX0 (by decide) w76
theorem sX0_findLongest_42 : Snd MX0_findLongest 42 (xLdI 43 3) := snd_iload_n (M := MX0_findLongest) (pc := 42) dX0_findLongest_42
theorem sX0_findLongest_43 : Snd MX0_findLongest 43 (xK 44 (nI 1)) := snd_iconst (M := MX0_findLongest) (pc := 43) dX0_findLongest_43 (by decide +kernel)
theorem sX0_findLongest_44 : Snd MX0_findLongest 44 (xLdI 46 5) := snd_iload (M := MX0_findLongest) (pc := 44) dX0_findLongest_44
theorem sX0_findLongest_46 : Snd MX0_findLongest 46 (xBin 47 f_ishl) := snd_ishl (M := MX0_findLongest) (pc := 46) dX0_findLongest_46
theorem sX0_findLongest_47 : Snd MX0_findLongest 47 (xBin 48 f_ior) := snd_ior (M := MX0_findLongest) (pc := 47) dX0_findLongest_47
theorem sX0_findLongest_48 : Snd MX0_findLongest 48 (xCallS MX5_at 2 51) := snd_callSN (M := MX0_findLongest) (pc := 48) (n := 2) dX0_findLongest_48 nt12 w123 ⟨w115, w122, ⟨by decide, by decide, by decide +kernel⟩, by decide⟩ ⟨rfl, rfl⟩
theorem sX0_findLongest_51 : Snd MX0_findLongest 51 (xBin 52 f_iadd) := snd_iadd (M := MX0_findLongest) (pc := 51) dX0_findLongest_51
theorem sX0_findLongest_52 : Snd MX0_findLongest 52 (xMmax 55) := snd_mmax (M := MX0_findLongest) (pc := 52) dX0_findLongest_52 w136 w137 w138 w139 (by decide)
theorem sX0_findLongest_55 : Snd MX0_findLongest 55 (xStI 57 4) := snd_istore (M := MX0_findLongest) (pc := 55) dX0_findLongest_55 (by decide)
theorem sX0_findLongest_57 : Snd MX0_findLongest 57 (xInc 60 5 (nI 1)) := snd_iinc (M := MX0_findLongest) (pc := 57) dX0_findLongest_57 (by decide +kernel) (by decide)
theorem sX0_findLongest_60 : Snd MX0_findLongest 60 (xGo 15) := snd_goto (M := MX0_findLongest) (pc := 60) dX0_findLongest_60 (by decide)
theorem sX0_findLongest_63 : Snd MX0_findLongest 63 (xLdA 64 0) := snd_aload_n (M := MX0_findLongest) (pc := 63) dX0_findLongest_63
theorem sX0_findLongest_64 : Snd MX0_findLongest 64 (xGf 67 0 0) := snd_gf (M := MX0_findLongest) (pc := 64) (C0 := RX0) (T0 := TX0) (N := 2) dX0_findLongest_64 rfl tbX0 (by decide) w76
theorem sX0_findLongest_67 : Snd MX0_findLongest 67 (xLdI 68 3) := snd_iload_n (M := MX0_findLongest) (pc := 67) dX0_findLongest_67
theorem sX0_findLongest_68 : Snd MX0_findLongest 68 (xLdI 70 4) := snd_iload (M := MX0_findLongest) (pc := 68) dX0_findLongest_68
theorem sX0_findLongest_70 : Snd MX0_findLongest 70 (xCallS MX5_store 3 73) := snd_callSN (M := MX0_findLongest) (pc := 70) (n := 3) dX0_findLongest_70 nt13 w141 ⟨w115, w140, ⟨by decide, by decide, by decide +kernel⟩, by decide⟩ ⟨rfl, rfl⟩
theorem sX0_findLongest_73 : Snd MX0_findLongest 73 (xInc 76 3 ((-1))) := snd_iinc (M := MX0_findLongest) (pc := 73) dX0_findLongest_73 (by decide +kernel) (by decide)
theorem sX0_findLongest_76 : Snd MX0_findLongest 76 (xGo 5) := snd_goto (M := MX0_findLongest) (pc := 76) dX0_findLongest_76 (by decide)
theorem sX0_findLongest_79 : Snd MX0_findLongest 79 (xRetV) := snd_vret (M := MX0_findLongest) (pc := 79) dX0_findLongest_79 rfl
theorem VX0_findLongest : Valid MX0_findLongest LX0_findLongest := va_lid sX0_findLongest_0 (va_lid sX0_findLongest_1 (va_lid sX0_findLongest_4 (va_lid sX0_findLongest_5 (va_lid sX0_findLongest_6 (va_lid sX0_findLongest_9 (va_lid sX0_findLongest_10 (va_lid sX0_findLongest_12 (va_lid sX0_findLongest_13 (va_lid sX0_findLongest_15 (va_lid sX0_findLongest_17 (va_lid sX0_findLongest_18 (va_lid sX0_findLongest_21 (va_lid sX0_findLongest_24 (va_lid sX0_findLongest_25 (va_lid sX0_findLongest_26 (va_lid sX0_findLongest_27 (va_lid sX0_findLongest_29 (va_lid sX0_findLongest_32 (va_lid sX0_findLongest_35 (va_lid sX0_findLongest_37 (va_lid sX0_findLongest_38 (va_lid sX0_findLongest_39 (va_lid sX0_findLongest_42 (va_lid sX0_findLongest_43 (va_lid sX0_findLongest_44 (va_lid sX0_findLongest_46 (va_lid sX0_findLongest_47 (va_lid sX0_findLongest_48 (va_lid sX0_findLongest_51 (va_lid sX0_findLongest_52 (va_lid sX0_findLongest_55 (va_lid sX0_findLongest_57 (va_lid sX0_findLongest_60 (va_lid sX0_findLongest_63 (va_lid sX0_findLongest_64 (va_lid sX0_findLongest_67 (va_lid sX0_findLongest_68 (va_lid sX0_findLongest_70 (va_lid sX0_findLongest_73 (va_lid sX0_findLongest_76 (va_lid sX0_findLongest_79 (va_lid0))))))))))))))))))))))))))))))))))))))))))
theorem kX0_findLongest_0 : lk LX0_findLongest 0 = some (xLdA 1 1) := rfl
theorem kX0_findLongest_1 : lk LX0_findLongest 1 = some (xCallV MX3_allLives 3 0 4) := rfl
theorem kX0_findLongest_4 : lk LX0_findLongest 4 = some (xStI 5 3) := rfl
theorem kX0_findLongest_5 : lk LX0_findLongest 5 = some (xLdI 6 3) := rfl
theorem kX0_findLongest_6 : lk LX0_findLongest 6 = some (xZ_lt 79 9) := rfl
theorem kX0_findLongest_9 : lk LX0_findLongest 9 = some (xK 10 (nI 0)) := rfl
theorem kX0_findLongest_10 : lk LX0_findLongest 10 = some (xStI 12 4) := rfl
theorem kX0_findLongest_12 : lk LX0_findLongest 12 = some (xK 13 (nI 0)) := rfl
theorem kX0_findLongest_13 : lk LX0_findLongest 13 = some (xStI 15 5) := rfl
theorem kX0_findLongest_15 : lk LX0_findLongest 15 = some (xLdI 17 5) := rfl
theorem kX0_findLongest_17 : lk LX0_findLongest 17 = some (xLdA 18 1) := rfl
theorem kX0_findLongest_18 : lk LX0_findLongest 18 = some (xGf 21 3 3) := rfl
theorem kX0_findLongest_21 : lk LX0_findLongest 21 = some (xC_ge 63 24) := rfl
theorem kX0_findLongest_24 : lk LX0_findLongest 24 = some (xLdA 25 1) := rfl
theorem kX0_findLongest_25 : lk LX0_findLongest 25 = some (xLdA 26 2) := rfl
theorem kX0_findLongest_26 : lk LX0_findLongest 26 = some (xLdI 27 3) := rfl
theorem kX0_findLongest_27 : lk LX0_findLongest 27 = some (xLdI 29 5) := rfl
theorem kX0_findLongest_29 : lk LX0_findLongest 29 = some (xCallS MX0_canFollow 4 32) := rfl
theorem kX0_findLongest_32 : lk LX0_findLongest 32 = some (xZ_eq 57 35) := rfl
theorem kX0_findLongest_35 : lk LX0_findLongest 35 = some (xLdI 37 4) := rfl
theorem kX0_findLongest_37 : lk LX0_findLongest 37 = some (xK 38 (nI 1)) := rfl
theorem kX0_findLongest_38 : lk LX0_findLongest 38 = some (xLdA 39 0) := rfl
theorem kX0_findLongest_39 : lk LX0_findLongest 39 = some (xGf 42 0 0) := rfl
theorem kX0_findLongest_42 : lk LX0_findLongest 42 = some (xLdI 43 3) := rfl
theorem kX0_findLongest_43 : lk LX0_findLongest 43 = some (xK 44 (nI 1)) := rfl
theorem kX0_findLongest_44 : lk LX0_findLongest 44 = some (xLdI 46 5) := rfl
theorem kX0_findLongest_46 : lk LX0_findLongest 46 = some (xBin 47 f_ishl) := rfl
theorem kX0_findLongest_47 : lk LX0_findLongest 47 = some (xBin 48 f_ior) := rfl
theorem kX0_findLongest_48 : lk LX0_findLongest 48 = some (xCallS MX5_at 2 51) := rfl
theorem kX0_findLongest_51 : lk LX0_findLongest 51 = some (xBin 52 f_iadd) := rfl
theorem kX0_findLongest_52 : lk LX0_findLongest 52 = some (xMmax 55) := rfl
theorem kX0_findLongest_55 : lk LX0_findLongest 55 = some (xStI 57 4) := rfl
theorem kX0_findLongest_57 : lk LX0_findLongest 57 = some (xInc 60 5 (nI 1)) := rfl
theorem kX0_findLongest_60 : lk LX0_findLongest 60 = some (xGo 15) := rfl
theorem kX0_findLongest_63 : lk LX0_findLongest 63 = some (xLdA 64 0) := rfl
theorem kX0_findLongest_64 : lk LX0_findLongest 64 = some (xGf 67 0 0) := rfl
theorem kX0_findLongest_67 : lk LX0_findLongest 67 = some (xLdI 68 3) := rfl
theorem kX0_findLongest_68 : lk LX0_findLongest 68 = some (xLdI 70 4) := rfl
theorem kX0_findLongest_70 : lk LX0_findLongest 70 = some (xCallS MX5_store 3 73) := rfl
theorem kX0_findLongest_73 : lk LX0_findLongest 73 = some (xInc 76 3 ((-1))) := rfl
theorem kX0_findLongest_76 : lk LX0_findLongest 76 = some (xGo 5) := rfl
theorem kX0_findLongest_79 : lk LX0_findLongest 79 = some (xRetV) := rfl
def LX0_nextInRow : List (Nat × XI) := [(0, xK 1 (nI 0)),
  (1, xStI 3 4),
  (3, xLdI 5 4),
  (5, xLdA 6 1),
  (6, xGf 9 3 3),
  (9, xC_ge 58 12),
  (12, xLdA 13 1),
  (13, xLdA 14 2),
  (14, xLdI 15 3),
  (15, xLdI 17 4),
  (17, xCallS MX0_canFollow 4 20),
  (20, xZ_eq 52 23),
  (23, xK 24 (nI 1)),
  (24, xLdA 25 0),
  (25, xGf 28 0 0),
  (28, xLdI 29 3),
  (29, xK 30 (nI 1)),
  (30, xLdI 32 4),
  (32, xBin 33 f_ishl),
  (33, xBin 34 f_ior),
  (34, xCallS MX5_at 2 37),
  (37, xBin 38 f_iadd),
  (38, xLdA 39 0),
  (39, xGf 42 0 0),
  (42, xLdI 43 3),
  (43, xCallS MX5_at 2 46),
  (46, xC_ne 52 49),
  (49, xLdI 51 4),
  (51, xRet),
  (52, xInc 55 4 (nI 1)),
  (55, xGo 3),
  (58, xK 60 ((-4))),
  (60, xRet)]
theorem sX0_nextInRow_0 : Snd MX0_nextInRow 0 (xK 1 (nI 0)) := snd_iconst (M := MX0_nextInRow) (pc := 0) dX0_nextInRow_0 (by decide +kernel)
theorem sX0_nextInRow_1 : Snd MX0_nextInRow 1 (xStI 3 4) := snd_istore (M := MX0_nextInRow) (pc := 1) dX0_nextInRow_1 (by decide)
theorem sX0_nextInRow_3 : Snd MX0_nextInRow 3 (xLdI 5 4) := snd_iload (M := MX0_nextInRow) (pc := 3) dX0_nextInRow_3
theorem sX0_nextInRow_5 : Snd MX0_nextInRow 5 (xLdA 6 1) := snd_aload_n (M := MX0_nextInRow) (pc := 5) dX0_nextInRow_5
theorem sX0_nextInRow_6 : Snd MX0_nextInRow 6 (xGf 9 3 3) := snd_gf (M := MX0_nextInRow) (pc := 6) (C0 := RX3) (T0 := TX3) (N := 14) dX0_nextInRow_6 rfl tbX3 (by decide) w132
theorem sX0_nextInRow_9 : Snd MX0_nextInRow 9 (xC_ge 58 12) := snd_icmp_ge (M := MX0_nextInRow) (pc := 9) dX0_nextInRow_9 (by decide)
theorem sX0_nextInRow_12 : Snd MX0_nextInRow 12 (xLdA 13 1) := snd_aload_n (M := MX0_nextInRow) (pc := 12) dX0_nextInRow_12
theorem sX0_nextInRow_13 : Snd MX0_nextInRow 13 (xLdA 14 2) := snd_aload_n (M := MX0_nextInRow) (pc := 13) dX0_nextInRow_13
theorem sX0_nextInRow_14 : Snd MX0_nextInRow 14 (xLdI 15 3) := snd_iload_n (M := MX0_nextInRow) (pc := 14) dX0_nextInRow_14
theorem sX0_nextInRow_15 : Snd MX0_nextInRow 15 (xLdI 17 4) := snd_iload (M := MX0_nextInRow) (pc := 15) dX0_nextInRow_15
theorem sX0_nextInRow_17 : Snd MX0_nextInRow 17 (xCallS MX0_canFollow 4 20) := snd_callS (M := MX0_nextInRow) (pc := 17) (n := 4) dX0_nextInRow_17 w134 w135 ⟨w102, w133, ⟨by decide, by decide, by decide +kernel⟩, by decide⟩ ⟨rfl, rfl⟩
theorem sX0_nextInRow_20 : Snd MX0_nextInRow 20 (xZ_eq 52 23) := snd_if_eq (M := MX0_nextInRow) (pc := 20) dX0_nextInRow_20 (by decide)
theorem sX0_nextInRow_23 : Snd MX0_nextInRow 23 (xK 24 (nI 1)) := snd_iconst (M := MX0_nextInRow) (pc := 23) dX0_nextInRow_23 (by decide +kernel)
theorem sX0_nextInRow_24 : Snd MX0_nextInRow 24 (xLdA 25 0) := snd_aload_n (M := MX0_nextInRow) (pc := 24) dX0_nextInRow_24
theorem sX0_nextInRow_25 : Snd MX0_nextInRow 25 (xGf 28 0 0) := snd_gf (M := MX0_nextInRow) (pc := 25) (C0 := RX0) (T0 := TX0) (N := 2) dX0_nextInRow_25 rfl tbX0 (by decide) w76
theorem sX0_nextInRow_28 : Snd MX0_nextInRow 28 (xLdI 29 3) := snd_iload_n (M := MX0_nextInRow) (pc := 28) dX0_nextInRow_28
theorem sX0_nextInRow_29 : Snd MX0_nextInRow 29 (xK 30 (nI 1)) := snd_iconst (M := MX0_nextInRow) (pc := 29) dX0_nextInRow_29 (by decide +kernel)
theorem sX0_nextInRow_30 : Snd MX0_nextInRow 30 (xLdI 32 4) := snd_iload (M := MX0_nextInRow) (pc := 30) dX0_nextInRow_30
theorem sX0_nextInRow_32 : Snd MX0_nextInRow 32 (xBin 33 f_ishl) := snd_ishl (M := MX0_nextInRow) (pc := 32) dX0_nextInRow_32
theorem sX0_nextInRow_33 : Snd MX0_nextInRow 33 (xBin 34 f_ior) := snd_ior (M := MX0_nextInRow) (pc := 33) dX0_nextInRow_33
theorem sX0_nextInRow_34 : Snd MX0_nextInRow 34 (xCallS MX5_at 2 37) := snd_callSN (M := MX0_nextInRow) (pc := 34) (n := 2) dX0_nextInRow_34 nt12 w123 ⟨w115, w122, ⟨by decide, by decide, by decide +kernel⟩, by decide⟩ ⟨rfl, rfl⟩
theorem sX0_nextInRow_37 : Snd MX0_nextInRow 37 (xBin 38 f_iadd) := snd_iadd (M := MX0_nextInRow) (pc := 37) dX0_nextInRow_37
theorem sX0_nextInRow_38 : Snd MX0_nextInRow 38 (xLdA 39 0) := snd_aload_n (M := MX0_nextInRow) (pc := 38) dX0_nextInRow_38
theorem sX0_nextInRow_39 : Snd MX0_nextInRow 39 (xGf 42 0 0) := snd_gf (M := MX0_nextInRow) (pc := 39) (C0 := RX0) (T0 := TX0) (N := 2) dX0_nextInRow_39 rfl tbX0 (by decide) w76
theorem sX0_nextInRow_42 : Snd MX0_nextInRow 42 (xLdI 43 3) := snd_iload_n (M := MX0_nextInRow) (pc := 42) dX0_nextInRow_42
theorem sX0_nextInRow_43 : Snd MX0_nextInRow 43 (xCallS MX5_at 2 46) := snd_callSN (M := MX0_nextInRow) (pc := 43) (n := 2) dX0_nextInRow_43 nt12 w123 ⟨w115, w122, ⟨by decide, by decide, by decide +kernel⟩, by decide⟩ ⟨rfl, rfl⟩
theorem sX0_nextInRow_46 : Snd MX0_nextInRow 46 (xC_ne 52 49) := snd_icmp_ne (M := MX0_nextInRow) (pc := 46) dX0_nextInRow_46 (by decide)
theorem sX0_nextInRow_49 : Snd MX0_nextInRow 49 (xLdI 51 4) := snd_iload (M := MX0_nextInRow) (pc := 49) dX0_nextInRow_49
theorem sX0_nextInRow_51 : Snd MX0_nextInRow 51 (xRet) := snd_iret (M := MX0_nextInRow) (pc := 51) dX0_nextInRow_51 rfl
theorem sX0_nextInRow_52 : Snd MX0_nextInRow 52 (xInc 55 4 (nI 1)) := snd_iinc (M := MX0_nextInRow) (pc := 52) dX0_nextInRow_52 (by decide +kernel) (by decide)
theorem sX0_nextInRow_55 : Snd MX0_nextInRow 55 (xGo 3) := snd_goto (M := MX0_nextInRow) (pc := 55) dX0_nextInRow_55 (by decide)
theorem sX0_nextInRow_58 : Snd MX0_nextInRow 58 (xK 60 ((-4))) := snd_bipush (M := MX0_nextInRow) (pc := 58) dX0_nextInRow_58 (by decide +kernel)
theorem sX0_nextInRow_60 : Snd MX0_nextInRow 60 (xRet) := snd_iret (M := MX0_nextInRow) (pc := 60) dX0_nextInRow_60 rfl
theorem VX0_nextInRow : Valid MX0_nextInRow LX0_nextInRow := va_lid sX0_nextInRow_0 (va_lid sX0_nextInRow_1 (va_lid sX0_nextInRow_3 (va_lid sX0_nextInRow_5 (va_lid sX0_nextInRow_6 (va_lid sX0_nextInRow_9 (va_lid sX0_nextInRow_12 (va_lid sX0_nextInRow_13 (va_lid sX0_nextInRow_14 (va_lid sX0_nextInRow_15 (va_lid sX0_nextInRow_17 (va_lid sX0_nextInRow_20 (va_lid sX0_nextInRow_23 (va_lid sX0_nextInRow_24 (va_lid sX0_nextInRow_25 (va_lid sX0_nextInRow_28 (va_lid sX0_nextInRow_29 (va_lid sX0_nextInRow_30 (va_lid sX0_nextInRow_32 (va_lid sX0_nextInRow_33 (va_lid sX0_nextInRow_34 (va_lid sX0_nextInRow_37 (va_lid sX0_nextInRow_38 (va_lid sX0_nextInRow_39 (va_lid sX0_nextInRow_42 (va_lid sX0_nextInRow_43 (va_lid sX0_nextInRow_46 (va_lid sX0_nextInRow_49 (va_lid sX0_nextInRow_51 (va_lid sX0_nextInRow_52 (va_lid sX0_nextInRow_55 (va_lid sX0_nextInRow_58 (va_lid sX0_nextInRow_60 (va_lid0)))))))))))))))))))))))))))))))))
theorem kX0_nextInRow_0 : lk LX0_nextInRow 0 = some (xK 1 (nI 0)) := rfl
theorem kX0_nextInRow_1 : lk LX0_nextInRow 1 = some (xStI 3 4) := rfl
theorem kX0_nextInRow_3 : lk LX0_nextInRow 3 = some (xLdI 5 4) := rfl
theorem kX0_nextInRow_5 : lk LX0_nextInRow 5 = some (xLdA 6 1) := rfl
theorem kX0_nextInRow_6 : lk LX0_nextInRow 6 = some (xGf 9 3 3) := rfl
theorem kX0_nextInRow_9 : lk LX0_nextInRow 9 = some (xC_ge 58 12) := rfl
theorem kX0_nextInRow_12 : lk LX0_nextInRow 12 = some (xLdA 13 1) := rfl
theorem kX0_nextInRow_13 : lk LX0_nextInRow 13 = some (xLdA 14 2) := rfl
theorem kX0_nextInRow_14 : lk LX0_nextInRow 14 = some (xLdI 15 3) := rfl
theorem kX0_nextInRow_15 : lk LX0_nextInRow 15 = some (xLdI 17 4) := rfl
theorem kX0_nextInRow_17 : lk LX0_nextInRow 17 = some (xCallS MX0_canFollow 4 20) := rfl
theorem kX0_nextInRow_20 : lk LX0_nextInRow 20 = some (xZ_eq 52 23) := rfl
theorem kX0_nextInRow_23 : lk LX0_nextInRow 23 = some (xK 24 (nI 1)) := rfl
theorem kX0_nextInRow_24 : lk LX0_nextInRow 24 = some (xLdA 25 0) := rfl
theorem kX0_nextInRow_25 : lk LX0_nextInRow 25 = some (xGf 28 0 0) := rfl
theorem kX0_nextInRow_28 : lk LX0_nextInRow 28 = some (xLdI 29 3) := rfl
theorem kX0_nextInRow_29 : lk LX0_nextInRow 29 = some (xK 30 (nI 1)) := rfl
theorem kX0_nextInRow_30 : lk LX0_nextInRow 30 = some (xLdI 32 4) := rfl
theorem kX0_nextInRow_32 : lk LX0_nextInRow 32 = some (xBin 33 f_ishl) := rfl
theorem kX0_nextInRow_33 : lk LX0_nextInRow 33 = some (xBin 34 f_ior) := rfl
theorem kX0_nextInRow_34 : lk LX0_nextInRow 34 = some (xCallS MX5_at 2 37) := rfl
theorem kX0_nextInRow_37 : lk LX0_nextInRow 37 = some (xBin 38 f_iadd) := rfl
theorem kX0_nextInRow_38 : lk LX0_nextInRow 38 = some (xLdA 39 0) := rfl
theorem kX0_nextInRow_39 : lk LX0_nextInRow 39 = some (xGf 42 0 0) := rfl
theorem kX0_nextInRow_42 : lk LX0_nextInRow 42 = some (xLdI 43 3) := rfl
theorem kX0_nextInRow_43 : lk LX0_nextInRow 43 = some (xCallS MX5_at 2 46) := rfl
theorem kX0_nextInRow_46 : lk LX0_nextInRow 46 = some (xC_ne 52 49) := rfl
theorem kX0_nextInRow_49 : lk LX0_nextInRow 49 = some (xLdI 51 4) := rfl
theorem kX0_nextInRow_51 : lk LX0_nextInRow 51 = some (xRet) := rfl
theorem kX0_nextInRow_52 : lk LX0_nextInRow 52 = some (xInc 55 4 (nI 1)) := rfl
theorem kX0_nextInRow_55 : lk LX0_nextInRow 55 = some (xGo 3) := rfl
theorem kX0_nextInRow_58 : lk LX0_nextInRow 58 = some (xK 60 ((-4))) := rfl
theorem kX0_nextInRow_60 : lk LX0_nextInRow 60 = some (xRet) := rfl
def LX0_canFollow : List (Nat × XI) := [(0, xLdI 1 2),
  (1, xLdA 2 1),
  (2, xGf 5 1 1),
  (5, xBin 6 f_ior),
  (6, xLdI 7 3),
  (7, xCallS MX5_has 2 10),
  (10, xZ_ne 37 13),
  (13, xLdA 14 0),
  (14, xLdI 15 3),
  (15, xLdA 16 1),
  (16, xGf 19 1 0),
  (19, xLdA 20 0),
  (20, xLdI 21 2),
  (21, xCallV MX3_linenOf 3 1 24),
  (24, xK 25 ((-1))),
  (25, xBin 26 f_ixor),
  (26, xBin 27 f_iand),
  (27, xCallV MX3_canBe 3 2 30),
  (30, xZ_eq 37 33),
  (33, xK 34 (nI 1)),
  (34, xGo 38),
  (37, xK 38 (nI 0)),
  (38, xRetZ)]
theorem sX0_canFollow_0 : Snd MX0_canFollow 0 (xLdI 1 2) := snd_iload_n (M := MX0_canFollow) (pc := 0) dX0_canFollow_0
theorem sX0_canFollow_1 : Snd MX0_canFollow 1 (xLdA 2 1) := snd_aload_n (M := MX0_canFollow) (pc := 1) dX0_canFollow_1
theorem sX0_canFollow_2 : Snd MX0_canFollow 2 (xGf 5 1 1) := snd_gf (M := MX0_canFollow) (pc := 2) (C0 := RX1) (T0 := TX1) (N := 4) dX0_canFollow_2 rfl tbX1 (by decide) w142
theorem sX0_canFollow_5 : Snd MX0_canFollow 5 (xBin 6 f_ior) := snd_ior (M := MX0_canFollow) (pc := 5) dX0_canFollow_5
theorem sX0_canFollow_6 : Snd MX0_canFollow 6 (xLdI 7 3) := snd_iload_n (M := MX0_canFollow) (pc := 6) dX0_canFollow_6
theorem sX0_canFollow_7 : Snd MX0_canFollow 7 (xCallS MX5_has 2 10) := snd_callSN (M := MX0_canFollow) (pc := 7) (n := 2) dX0_canFollow_7 nt11 w117 ⟨w115, w116, ⟨by decide, by decide, by decide +kernel⟩, by decide⟩ ⟨rfl, rfl⟩
theorem sX0_canFollow_10 : Snd MX0_canFollow 10 (xZ_ne 37 13) := snd_if_ne (M := MX0_canFollow) (pc := 10) dX0_canFollow_10 (by decide)
theorem sX0_canFollow_13 : Snd MX0_canFollow 13 (xLdA 14 0) := snd_aload_n (M := MX0_canFollow) (pc := 13) dX0_canFollow_13
theorem sX0_canFollow_14 : Snd MX0_canFollow 14 (xLdI 15 3) := snd_iload_n (M := MX0_canFollow) (pc := 14) dX0_canFollow_14
theorem sX0_canFollow_15 : Snd MX0_canFollow 15 (xLdA 16 1) := snd_aload_n (M := MX0_canFollow) (pc := 15) dX0_canFollow_15
theorem sX0_canFollow_16 : Snd MX0_canFollow 16 (xGf 19 1 0) := snd_gf (M := MX0_canFollow) (pc := 16) (C0 := RX1) (T0 := TX1) (N := 4) dX0_canFollow_16 rfl tbX1 (by decide) w97
theorem sX0_canFollow_19 : Snd MX0_canFollow 19 (xLdA 20 0) := snd_aload_n (M := MX0_canFollow) (pc := 19) dX0_canFollow_19
theorem sX0_canFollow_20 : Snd MX0_canFollow 20 (xLdI 21 2) := snd_iload_n (M := MX0_canFollow) (pc := 20) dX0_canFollow_20
theorem sX0_canFollow_21 : Snd MX0_canFollow 21 (xCallV MX3_linenOf 3 1 24) := snd_callV (M := MX0_canFollow) (pc := 21) (n := 1) dX0_canFollow_21 rfl w144 w145 w146 ⟨w83, w143, ⟨by decide, by decide, by decide +kernel⟩, by decide⟩ ⟨rfl, rfl⟩
theorem sX0_canFollow_24 : Snd MX0_canFollow 24 (xK 25 ((-1))) := snd_iconst (M := MX0_canFollow) (pc := 24) dX0_canFollow_24 (by decide +kernel)
theorem sX0_canFollow_25 : Snd MX0_canFollow 25 (xBin 26 f_ixor) := snd_ixor (M := MX0_canFollow) (pc := 25) dX0_canFollow_25
theorem sX0_canFollow_26 : Snd MX0_canFollow 26 (xBin 27 f_iand) := snd_iand (M := MX0_canFollow) (pc := 26) dX0_canFollow_26
theorem sX0_canFollow_27 : Snd MX0_canFollow 27 (xCallV MX3_canBe 3 2 30) := snd_callV (M := MX0_canFollow) (pc := 27) (n := 2) dX0_canFollow_27 rfl w148 w149 w150 ⟨w83, w147, ⟨by decide, by decide, by decide +kernel⟩, by decide⟩ ⟨rfl, rfl⟩
theorem sX0_canFollow_30 : Snd MX0_canFollow 30 (xZ_eq 37 33) := snd_if_eq (M := MX0_canFollow) (pc := 30) dX0_canFollow_30 (by decide)
theorem sX0_canFollow_33 : Snd MX0_canFollow 33 (xK 34 (nI 1)) := snd_iconst (M := MX0_canFollow) (pc := 33) dX0_canFollow_33 (by decide +kernel)
theorem sX0_canFollow_34 : Snd MX0_canFollow 34 (xGo 38) := snd_goto (M := MX0_canFollow) (pc := 34) dX0_canFollow_34 (by decide)
theorem sX0_canFollow_37 : Snd MX0_canFollow 37 (xK 38 (nI 0)) := snd_iconst (M := MX0_canFollow) (pc := 37) dX0_canFollow_37 (by decide +kernel)
theorem sX0_canFollow_38 : Snd MX0_canFollow 38 (xRetZ) := snd_zret (M := MX0_canFollow) (pc := 38) dX0_canFollow_38 rfl
theorem VX0_canFollow : Valid MX0_canFollow LX0_canFollow := va_lid sX0_canFollow_0 (va_lid sX0_canFollow_1 (va_lid sX0_canFollow_2 (va_lid sX0_canFollow_5 (va_lid sX0_canFollow_6 (va_lid sX0_canFollow_7 (va_lid sX0_canFollow_10 (va_lid sX0_canFollow_13 (va_lid sX0_canFollow_14 (va_lid sX0_canFollow_15 (va_lid sX0_canFollow_16 (va_lid sX0_canFollow_19 (va_lid sX0_canFollow_20 (va_lid sX0_canFollow_21 (va_lid sX0_canFollow_24 (va_lid sX0_canFollow_25 (va_lid sX0_canFollow_26 (va_lid sX0_canFollow_27 (va_lid sX0_canFollow_30 (va_lid sX0_canFollow_33 (va_lid sX0_canFollow_34 (va_lid sX0_canFollow_37 (va_lid sX0_canFollow_38 (va_lid0)))))))))))))))))))))))
theorem kX0_canFollow_0 : lk LX0_canFollow 0 = some (xLdI 1 2) := rfl
theorem kX0_canFollow_1 : lk LX0_canFollow 1 = some (xLdA 2 1) := rfl
theorem kX0_canFollow_2 : lk LX0_canFollow 2 = some (xGf 5 1 1) := rfl
theorem kX0_canFollow_5 : lk LX0_canFollow 5 = some (xBin 6 f_ior) := rfl
theorem kX0_canFollow_6 : lk LX0_canFollow 6 = some (xLdI 7 3) := rfl
theorem kX0_canFollow_7 : lk LX0_canFollow 7 = some (xCallS MX5_has 2 10) := rfl
theorem kX0_canFollow_10 : lk LX0_canFollow 10 = some (xZ_ne 37 13) := rfl
theorem kX0_canFollow_13 : lk LX0_canFollow 13 = some (xLdA 14 0) := rfl
theorem kX0_canFollow_14 : lk LX0_canFollow 14 = some (xLdI 15 3) := rfl
theorem kX0_canFollow_15 : lk LX0_canFollow 15 = some (xLdA 16 1) := rfl
theorem kX0_canFollow_16 : lk LX0_canFollow 16 = some (xGf 19 1 0) := rfl
theorem kX0_canFollow_19 : lk LX0_canFollow 19 = some (xLdA 20 0) := rfl
theorem kX0_canFollow_20 : lk LX0_canFollow 20 = some (xLdI 21 2) := rfl
theorem kX0_canFollow_21 : lk LX0_canFollow 21 = some (xCallV MX3_linenOf 3 1 24) := rfl
theorem kX0_canFollow_24 : lk LX0_canFollow 24 = some (xK 25 ((-1))) := rfl
theorem kX0_canFollow_25 : lk LX0_canFollow 25 = some (xBin 26 f_ixor) := rfl
theorem kX0_canFollow_26 : lk LX0_canFollow 26 = some (xBin 27 f_iand) := rfl
theorem kX0_canFollow_27 : lk LX0_canFollow 27 = some (xCallV MX3_canBe 3 2 30) := rfl
theorem kX0_canFollow_30 : lk LX0_canFollow 30 = some (xZ_eq 37 33) := rfl
theorem kX0_canFollow_33 : lk LX0_canFollow 33 = some (xK 34 (nI 1)) := rfl
theorem kX0_canFollow_34 : lk LX0_canFollow 34 = some (xGo 38) := rfl
theorem kX0_canFollow_37 : lk LX0_canFollow 37 = some (xK 38 (nI 0)) := rfl
theorem kX0_canFollow_38 : lk LX0_canFollow 38 = some (xRetZ) := rfl
def LX0_bargains : List (Nat × XI) := [(0, xK 1 (nI 0)),
  (1, xStI 2 3),
  (2, xK 3 (nI 0)),
  (3, xStI 5 4),
  (5, xLdI 7 4),
  (7, xLdA 8 1),
  (8, xGf 11 3 3),
  (11, xC_ge 46 14),
  (14, xLdI 15 2),
  (15, xLdI 17 4),
  (17, xCallS MX5_has 2 20),
  (20, xZ_eq 40 23),
  (23, xLdA 24 1),
  (24, xLdI 25 2),
  (25, xLdI 27 4),
  (27, xCallS MX0_isLeftForAnother 3 30),
  (30, xZ_ne 40 33),
  (33, xLdI 34 3),
  (34, xK 35 (nI 1)),
  (35, xLdI 37 4),
  (37, xBin 38 f_ishl),
  (38, xBin 39 f_ior),
  (39, xStI 40 3),
  (40, xInc 43 4 (nI 1)),
  (43, xGo 5),
  (46, xLdI 47 3),
  (47, xRet)]
theorem sX0_bargains_0 : Snd MX0_bargains 0 (xK 1 (nI 0)) := snd_iconst (M := MX0_bargains) (pc := 0) dX0_bargains_0 (by decide +kernel)
theorem sX0_bargains_1 : Snd MX0_bargains 1 (xStI 2 3) := snd_istore_n (M := MX0_bargains) (pc := 1) dX0_bargains_1 (by decide)
theorem sX0_bargains_2 : Snd MX0_bargains 2 (xK 3 (nI 0)) := snd_iconst (M := MX0_bargains) (pc := 2) dX0_bargains_2 (by decide +kernel)
theorem sX0_bargains_3 : Snd MX0_bargains 3 (xStI 5 4) := snd_istore (M := MX0_bargains) (pc := 3) dX0_bargains_3 (by decide)
theorem sX0_bargains_5 : Snd MX0_bargains 5 (xLdI 7 4) := snd_iload (M := MX0_bargains) (pc := 5) dX0_bargains_5
theorem sX0_bargains_7 : Snd MX0_bargains 7 (xLdA 8 1) := snd_aload_n (M := MX0_bargains) (pc := 7) dX0_bargains_7
theorem sX0_bargains_8 : Snd MX0_bargains 8 (xGf 11 3 3) := snd_gf (M := MX0_bargains) (pc := 8) (C0 := RX3) (T0 := TX3) (N := 14) dX0_bargains_8 rfl tbX3 (by decide) w132
theorem sX0_bargains_11 : Snd MX0_bargains 11 (xC_ge 46 14) := snd_icmp_ge (M := MX0_bargains) (pc := 11) dX0_bargains_11 (by decide)
theorem sX0_bargains_14 : Snd MX0_bargains 14 (xLdI 15 2) := snd_iload_n (M := MX0_bargains) (pc := 14) dX0_bargains_14
theorem sX0_bargains_15 : Snd MX0_bargains 15 (xLdI 17 4) := snd_iload (M := MX0_bargains) (pc := 15) dX0_bargains_15
theorem sX0_bargains_17 : Snd MX0_bargains 17 (xCallS MX5_has 2 20) := snd_callSN (M := MX0_bargains) (pc := 17) (n := 2) dX0_bargains_17 nt11 w117 ⟨w115, w116, ⟨by decide, by decide, by decide +kernel⟩, by decide⟩ ⟨rfl, rfl⟩
theorem sX0_bargains_20 : Snd MX0_bargains 20 (xZ_eq 40 23) := snd_if_eq (M := MX0_bargains) (pc := 20) dX0_bargains_20 (by decide)
theorem sX0_bargains_23 : Snd MX0_bargains 23 (xLdA 24 1) := snd_aload_n (M := MX0_bargains) (pc := 23) dX0_bargains_23
theorem sX0_bargains_24 : Snd MX0_bargains 24 (xLdI 25 2) := snd_iload_n (M := MX0_bargains) (pc := 24) dX0_bargains_24
theorem sX0_bargains_25 : Snd MX0_bargains 25 (xLdI 27 4) := snd_iload (M := MX0_bargains) (pc := 25) dX0_bargains_25
theorem sX0_bargains_27 : Snd MX0_bargains 27 (xCallS MX0_isLeftForAnother 3 30) := snd_callS (M := MX0_bargains) (pc := 27) (n := 3) dX0_bargains_27 w152 w153 ⟨w102, w151, ⟨by decide, by decide, by decide +kernel⟩, by decide⟩ ⟨rfl, rfl⟩
theorem sX0_bargains_30 : Snd MX0_bargains 30 (xZ_ne 40 33) := snd_if_ne (M := MX0_bargains) (pc := 30) dX0_bargains_30 (by decide)
theorem sX0_bargains_33 : Snd MX0_bargains 33 (xLdI 34 3) := snd_iload_n (M := MX0_bargains) (pc := 33) dX0_bargains_33
theorem sX0_bargains_34 : Snd MX0_bargains 34 (xK 35 (nI 1)) := snd_iconst (M := MX0_bargains) (pc := 34) dX0_bargains_34 (by decide +kernel)
theorem sX0_bargains_35 : Snd MX0_bargains 35 (xLdI 37 4) := snd_iload (M := MX0_bargains) (pc := 35) dX0_bargains_35
theorem sX0_bargains_37 : Snd MX0_bargains 37 (xBin 38 f_ishl) := snd_ishl (M := MX0_bargains) (pc := 37) dX0_bargains_37
theorem sX0_bargains_38 : Snd MX0_bargains 38 (xBin 39 f_ior) := snd_ior (M := MX0_bargains) (pc := 38) dX0_bargains_38
theorem sX0_bargains_39 : Snd MX0_bargains 39 (xStI 40 3) := snd_istore_n (M := MX0_bargains) (pc := 39) dX0_bargains_39 (by decide)
theorem sX0_bargains_40 : Snd MX0_bargains 40 (xInc 43 4 (nI 1)) := snd_iinc (M := MX0_bargains) (pc := 40) dX0_bargains_40 (by decide +kernel) (by decide)
theorem sX0_bargains_43 : Snd MX0_bargains 43 (xGo 5) := snd_goto (M := MX0_bargains) (pc := 43) dX0_bargains_43 (by decide)
theorem sX0_bargains_46 : Snd MX0_bargains 46 (xLdI 47 3) := snd_iload_n (M := MX0_bargains) (pc := 46) dX0_bargains_46
theorem sX0_bargains_47 : Snd MX0_bargains 47 (xRet) := snd_iret (M := MX0_bargains) (pc := 47) dX0_bargains_47 rfl
theorem VX0_bargains : Valid MX0_bargains LX0_bargains := va_lid sX0_bargains_0 (va_lid sX0_bargains_1 (va_lid sX0_bargains_2 (va_lid sX0_bargains_3 (va_lid sX0_bargains_5 (va_lid sX0_bargains_7 (va_lid sX0_bargains_8 (va_lid sX0_bargains_11 (va_lid sX0_bargains_14 (va_lid sX0_bargains_15 (va_lid sX0_bargains_17 (va_lid sX0_bargains_20 (va_lid sX0_bargains_23 (va_lid sX0_bargains_24 (va_lid sX0_bargains_25 (va_lid sX0_bargains_27 (va_lid sX0_bargains_30 (va_lid sX0_bargains_33 (va_lid sX0_bargains_34 (va_lid sX0_bargains_35 (va_lid sX0_bargains_37 (va_lid sX0_bargains_38 (va_lid sX0_bargains_39 (va_lid sX0_bargains_40 (va_lid sX0_bargains_43 (va_lid sX0_bargains_46 (va_lid sX0_bargains_47 (va_lid0)))))))))))))))))))))))))))
theorem kX0_bargains_0 : lk LX0_bargains 0 = some (xK 1 (nI 0)) := rfl
theorem kX0_bargains_1 : lk LX0_bargains 1 = some (xStI 2 3) := rfl
theorem kX0_bargains_2 : lk LX0_bargains 2 = some (xK 3 (nI 0)) := rfl
theorem kX0_bargains_3 : lk LX0_bargains 3 = some (xStI 5 4) := rfl
theorem kX0_bargains_5 : lk LX0_bargains 5 = some (xLdI 7 4) := rfl
theorem kX0_bargains_7 : lk LX0_bargains 7 = some (xLdA 8 1) := rfl
theorem kX0_bargains_8 : lk LX0_bargains 8 = some (xGf 11 3 3) := rfl
theorem kX0_bargains_11 : lk LX0_bargains 11 = some (xC_ge 46 14) := rfl
theorem kX0_bargains_14 : lk LX0_bargains 14 = some (xLdI 15 2) := rfl
theorem kX0_bargains_15 : lk LX0_bargains 15 = some (xLdI 17 4) := rfl
theorem kX0_bargains_17 : lk LX0_bargains 17 = some (xCallS MX5_has 2 20) := rfl
theorem kX0_bargains_20 : lk LX0_bargains 20 = some (xZ_eq 40 23) := rfl
theorem kX0_bargains_23 : lk LX0_bargains 23 = some (xLdA 24 1) := rfl
theorem kX0_bargains_24 : lk LX0_bargains 24 = some (xLdI 25 2) := rfl
theorem kX0_bargains_25 : lk LX0_bargains 25 = some (xLdI 27 4) := rfl
theorem kX0_bargains_27 : lk LX0_bargains 27 = some (xCallS MX0_isLeftForAnother 3 30) := rfl
theorem kX0_bargains_30 : lk LX0_bargains 30 = some (xZ_ne 40 33) := rfl
theorem kX0_bargains_33 : lk LX0_bargains 33 = some (xLdI 34 3) := rfl
theorem kX0_bargains_34 : lk LX0_bargains 34 = some (xK 35 (nI 1)) := rfl
theorem kX0_bargains_35 : lk LX0_bargains 35 = some (xLdI 37 4) := rfl
theorem kX0_bargains_37 : lk LX0_bargains 37 = some (xBin 38 f_ishl) := rfl
theorem kX0_bargains_38 : lk LX0_bargains 38 = some (xBin 39 f_ior) := rfl
theorem kX0_bargains_39 : lk LX0_bargains 39 = some (xStI 40 3) := rfl
theorem kX0_bargains_40 : lk LX0_bargains 40 = some (xInc 43 4 (nI 1)) := rfl
theorem kX0_bargains_43 : lk LX0_bargains 43 = some (xGo 5) := rfl
theorem kX0_bargains_46 : lk LX0_bargains 46 = some (xLdI 47 3) := rfl
theorem kX0_bargains_47 : lk LX0_bargains 47 = some (xRet) := rfl
def LX0_isLeftForAnother : List (Nat × XI) := [(0, xK 1 (nI 0)),
  (1, xStI 2 3),
  (2, xLdI 3 3),
  (3, xLdA 4 0),
  (4, xGf 7 3 3),
  (7, xC_ge 82 10),
  (10, xLdA 11 0),
  (11, xGf 14 3 11),
  (14, xLdI 15 3),
  (15, xCallS MX5_at 2 18),
  (18, xLdA 19 0),
  (19, xGf 22 3 11),
  (22, xLdI 23 2),
  (23, xCallS MX5_at 2 26),
  (26, xBin 27 f_isub),
  (27, xStI 29 4),
  (29, xLdA 30 0),
  (30, xGf 33 3 12),
  (33, xLdI 34 3),
  (34, xCallS MX5_at 2 37),
  (37, xLdA 38 0),
  (38, xGf 41 3 12),
  (41, xLdI 42 2),
  (42, xCallS MX5_at 2 45),
  (45, xBin 46 f_isub),
  (46, xStI 48 5),
  (48, xLdI 49 1),
  (49, xLdI 50 3),
  (50, xCallS MX5_has 2 53),
  (53, xZ_eq 76 56),
  (56, xLdI 58 4),
  (58, xZ_lt 76 61),
  (61, xLdI 63 5),
  (63, xZ_lt 76 66),
  (66, xLdI 68 4),
  (68, xLdI 70 5),
  (70, xBin 71 f_iadd),
  (71, xZ_le 76 74),
  (74, xK 75 (nI 1)),
  (75, xRetZ),
  (76, xInc 79 3 (nI 1)),
  (79, xGo 2),
  (82, xK 83 (nI 0)),
  (83, xRetZ)]
theorem sX0_isLeftForAnother_0 : Snd MX0_isLeftForAnother 0 (xK 1 (nI 0)) := snd_iconst (M := MX0_isLeftForAnother) (pc := 0) dX0_isLeftForAnother_0 (by decide +kernel)
theorem sX0_isLeftForAnother_1 : Snd MX0_isLeftForAnother 1 (xStI 2 3) := snd_istore_n (M := MX0_isLeftForAnother) (pc := 1) dX0_isLeftForAnother_1 (by decide)
theorem sX0_isLeftForAnother_2 : Snd MX0_isLeftForAnother 2 (xLdI 3 3) := snd_iload_n (M := MX0_isLeftForAnother) (pc := 2) dX0_isLeftForAnother_2
theorem sX0_isLeftForAnother_3 : Snd MX0_isLeftForAnother 3 (xLdA 4 0) := snd_aload_n (M := MX0_isLeftForAnother) (pc := 3) dX0_isLeftForAnother_3
theorem sX0_isLeftForAnother_4 : Snd MX0_isLeftForAnother 4 (xGf 7 3 3) := snd_gf (M := MX0_isLeftForAnother) (pc := 4) (C0 := RX3) (T0 := TX3) (N := 14) dX0_isLeftForAnother_4 rfl tbX3 (by decide) w132
theorem sX0_isLeftForAnother_7 : Snd MX0_isLeftForAnother 7 (xC_ge 82 10) := snd_icmp_ge (M := MX0_isLeftForAnother) (pc := 7) dX0_isLeftForAnother_7 (by decide)
theorem sX0_isLeftForAnother_10 : Snd MX0_isLeftForAnother 10 (xLdA 11 0) := snd_aload_n (M := MX0_isLeftForAnother) (pc := 10) dX0_isLeftForAnother_10
theorem sX0_isLeftForAnother_11 : Snd MX0_isLeftForAnother 11 (xGf 14 3 11) := snd_gf (M := MX0_isLeftForAnother) (pc := 11) (C0 := RX3) (T0 := TX3) (N := 14) dX0_isLeftForAnother_11 rfl tbX3 (by decide) w154
theorem sX0_isLeftForAnother_14 : Snd MX0_isLeftForAnother 14 (xLdI 15 3) := snd_iload_n (M := MX0_isLeftForAnother) (pc := 14) dX0_isLeftForAnother_14
theorem sX0_isLeftForAnother_15 : Snd MX0_isLeftForAnother 15 (xCallS MX5_at 2 18) := snd_callSN (M := MX0_isLeftForAnother) (pc := 15) (n := 2) dX0_isLeftForAnother_15 nt12 w123 ⟨w115, w122, ⟨by decide, by decide, by decide +kernel⟩, by decide⟩ ⟨rfl, rfl⟩
theorem sX0_isLeftForAnother_18 : Snd MX0_isLeftForAnother 18 (xLdA 19 0) := snd_aload_n (M := MX0_isLeftForAnother) (pc := 18) dX0_isLeftForAnother_18
theorem sX0_isLeftForAnother_19 : Snd MX0_isLeftForAnother 19 (xGf 22 3 11) := snd_gf (M := MX0_isLeftForAnother) (pc := 19) (C0 := RX3) (T0 := TX3) (N := 14) dX0_isLeftForAnother_19 rfl tbX3 (by decide) w154
theorem sX0_isLeftForAnother_22 : Snd MX0_isLeftForAnother 22 (xLdI 23 2) := snd_iload_n (M := MX0_isLeftForAnother) (pc := 22) dX0_isLeftForAnother_22
theorem sX0_isLeftForAnother_23 : Snd MX0_isLeftForAnother 23 (xCallS MX5_at 2 26) := snd_callSN (M := MX0_isLeftForAnother) (pc := 23) (n := 2) dX0_isLeftForAnother_23 nt12 w123 ⟨w115, w122, ⟨by decide, by decide, by decide +kernel⟩, by decide⟩ ⟨rfl, rfl⟩
theorem sX0_isLeftForAnother_26 : Snd MX0_isLeftForAnother 26 (xBin 27 f_isub) := snd_isub (M := MX0_isLeftForAnother) (pc := 26) dX0_isLeftForAnother_26
theorem sX0_isLeftForAnother_27 : Snd MX0_isLeftForAnother 27 (xStI 29 4) := snd_istore (M := MX0_isLeftForAnother) (pc := 27) dX0_isLeftForAnother_27 (by decide)
theorem sX0_isLeftForAnother_29 : Snd MX0_isLeftForAnother 29 (xLdA 30 0) := snd_aload_n (M := MX0_isLeftForAnother) (pc := 29) dX0_isLeftForAnother_29
theorem sX0_isLeftForAnother_30 : Snd MX0_isLeftForAnother 30 (xGf 33 3 12) := snd_gf (M := MX0_isLeftForAnother) (pc := 30) (C0 := RX3) (T0 := TX3) (N := 14) dX0_isLeftForAnother_30 rfl tbX3 (by decide) w155
theorem sX0_isLeftForAnother_33 : Snd MX0_isLeftForAnother 33 (xLdI 34 3) := snd_iload_n (M := MX0_isLeftForAnother) (pc := 33) dX0_isLeftForAnother_33
theorem sX0_isLeftForAnother_34 : Snd MX0_isLeftForAnother 34 (xCallS MX5_at 2 37) := snd_callSN (M := MX0_isLeftForAnother) (pc := 34) (n := 2) dX0_isLeftForAnother_34 nt12 w123 ⟨w115, w122, ⟨by decide, by decide, by decide +kernel⟩, by decide⟩ ⟨rfl, rfl⟩
theorem sX0_isLeftForAnother_37 : Snd MX0_isLeftForAnother 37 (xLdA 38 0) := snd_aload_n (M := MX0_isLeftForAnother) (pc := 37) dX0_isLeftForAnother_37
theorem sX0_isLeftForAnother_38 : Snd MX0_isLeftForAnother 38 (xGf 41 3 12) := snd_gf (M := MX0_isLeftForAnother) (pc := 38) (C0 := RX3) (T0 := TX3) (N := 14) dX0_isLeftForAnother_38 rfl tbX3 (by decide) w155
theorem sX0_isLeftForAnother_41 : Snd MX0_isLeftForAnother 41 (xLdI 42 2) := snd_iload_n (M := MX0_isLeftForAnother) (pc := 41) dX0_isLeftForAnother_41
theorem sX0_isLeftForAnother_42 : Snd MX0_isLeftForAnother 42 (xCallS MX5_at 2 45) := snd_callSN (M := MX0_isLeftForAnother) (pc := 42) (n := 2) dX0_isLeftForAnother_42 nt12 w123 ⟨w115, w122, ⟨by decide, by decide, by decide +kernel⟩, by decide⟩ ⟨rfl, rfl⟩
theorem sX0_isLeftForAnother_45 : Snd MX0_isLeftForAnother 45 (xBin 46 f_isub) := snd_isub (M := MX0_isLeftForAnother) (pc := 45) dX0_isLeftForAnother_45
theorem sX0_isLeftForAnother_46 : Snd MX0_isLeftForAnother 46 (xStI 48 5) := snd_istore (M := MX0_isLeftForAnother) (pc := 46) dX0_isLeftForAnother_46 (by decide)
theorem sX0_isLeftForAnother_48 : Snd MX0_isLeftForAnother 48 (xLdI 49 1) := snd_iload_n (M := MX0_isLeftForAnother) (pc := 48) dX0_isLeftForAnother_48
theorem sX0_isLeftForAnother_49 : Snd MX0_isLeftForAnother 49 (xLdI 50 3) := snd_iload_n (M := MX0_isLeftForAnother) (pc := 49) dX0_isLeftForAnother_49
theorem sX0_isLeftForAnother_50 : Snd MX0_isLeftForAnother 50 (xCallS MX5_has 2 53) := snd_callSN (M := MX0_isLeftForAnother) (pc := 50) (n := 2) dX0_isLeftForAnother_50 nt11 w117 ⟨w115, w116, ⟨by decide, by decide, by decide +kernel⟩, by decide⟩ ⟨rfl, rfl⟩
theorem sX0_isLeftForAnother_53 : Snd MX0_isLeftForAnother 53 (xZ_eq 76 56) := snd_if_eq (M := MX0_isLeftForAnother) (pc := 53) dX0_isLeftForAnother_53 (by decide)
theorem sX0_isLeftForAnother_56 : Snd MX0_isLeftForAnother 56 (xLdI 58 4) := snd_iload (M := MX0_isLeftForAnother) (pc := 56) dX0_isLeftForAnother_56
theorem sX0_isLeftForAnother_58 : Snd MX0_isLeftForAnother 58 (xZ_lt 76 61) := snd_if_lt (M := MX0_isLeftForAnother) (pc := 58) dX0_isLeftForAnother_58 (by decide)
theorem sX0_isLeftForAnother_61 : Snd MX0_isLeftForAnother 61 (xLdI 63 5) := snd_iload (M := MX0_isLeftForAnother) (pc := 61) dX0_isLeftForAnother_61
theorem sX0_isLeftForAnother_63 : Snd MX0_isLeftForAnother 63 (xZ_lt 76 66) := snd_if_lt (M := MX0_isLeftForAnother) (pc := 63) dX0_isLeftForAnother_63 (by decide)
theorem sX0_isLeftForAnother_66 : Snd MX0_isLeftForAnother 66 (xLdI 68 4) := snd_iload (M := MX0_isLeftForAnother) (pc := 66) dX0_isLeftForAnother_66
theorem sX0_isLeftForAnother_68 : Snd MX0_isLeftForAnother 68 (xLdI 70 5) := snd_iload (M := MX0_isLeftForAnother) (pc := 68) dX0_isLeftForAnother_68
theorem sX0_isLeftForAnother_70 : Snd MX0_isLeftForAnother 70 (xBin 71 f_iadd) := snd_iadd (M := MX0_isLeftForAnother) (pc := 70) dX0_isLeftForAnother_70
theorem sX0_isLeftForAnother_71 : Snd MX0_isLeftForAnother 71 (xZ_le 76 74) := snd_if_le (M := MX0_isLeftForAnother) (pc := 71) dX0_isLeftForAnother_71 (by decide)
theorem sX0_isLeftForAnother_74 : Snd MX0_isLeftForAnother 74 (xK 75 (nI 1)) := snd_iconst (M := MX0_isLeftForAnother) (pc := 74) dX0_isLeftForAnother_74 (by decide +kernel)
theorem sX0_isLeftForAnother_75 : Snd MX0_isLeftForAnother 75 (xRetZ) := snd_zret (M := MX0_isLeftForAnother) (pc := 75) dX0_isLeftForAnother_75 rfl
theorem sX0_isLeftForAnother_76 : Snd MX0_isLeftForAnother 76 (xInc 79 3 (nI 1)) := snd_iinc (M := MX0_isLeftForAnother) (pc := 76) dX0_isLeftForAnother_76 (by decide +kernel) (by decide)
theorem sX0_isLeftForAnother_79 : Snd MX0_isLeftForAnother 79 (xGo 2) := snd_goto (M := MX0_isLeftForAnother) (pc := 79) dX0_isLeftForAnother_79 (by decide)
theorem sX0_isLeftForAnother_82 : Snd MX0_isLeftForAnother 82 (xK 83 (nI 0)) := snd_iconst (M := MX0_isLeftForAnother) (pc := 82) dX0_isLeftForAnother_82 (by decide +kernel)
theorem sX0_isLeftForAnother_83 : Snd MX0_isLeftForAnother 83 (xRetZ) := snd_zret (M := MX0_isLeftForAnother) (pc := 83) dX0_isLeftForAnother_83 rfl
theorem VX0_isLeftForAnother : Valid MX0_isLeftForAnother LX0_isLeftForAnother := va_lid sX0_isLeftForAnother_0 (va_lid sX0_isLeftForAnother_1 (va_lid sX0_isLeftForAnother_2 (va_lid sX0_isLeftForAnother_3 (va_lid sX0_isLeftForAnother_4 (va_lid sX0_isLeftForAnother_7 (va_lid sX0_isLeftForAnother_10 (va_lid sX0_isLeftForAnother_11 (va_lid sX0_isLeftForAnother_14 (va_lid sX0_isLeftForAnother_15 (va_lid sX0_isLeftForAnother_18 (va_lid sX0_isLeftForAnother_19 (va_lid sX0_isLeftForAnother_22 (va_lid sX0_isLeftForAnother_23 (va_lid sX0_isLeftForAnother_26 (va_lid sX0_isLeftForAnother_27 (va_lid sX0_isLeftForAnother_29 (va_lid sX0_isLeftForAnother_30 (va_lid sX0_isLeftForAnother_33 (va_lid sX0_isLeftForAnother_34 (va_lid sX0_isLeftForAnother_37 (va_lid sX0_isLeftForAnother_38 (va_lid sX0_isLeftForAnother_41 (va_lid sX0_isLeftForAnother_42 (va_lid sX0_isLeftForAnother_45 (va_lid sX0_isLeftForAnother_46 (va_lid sX0_isLeftForAnother_48 (va_lid sX0_isLeftForAnother_49 (va_lid sX0_isLeftForAnother_50 (va_lid sX0_isLeftForAnother_53 (va_lid sX0_isLeftForAnother_56 (va_lid sX0_isLeftForAnother_58 (va_lid sX0_isLeftForAnother_61 (va_lid sX0_isLeftForAnother_63 (va_lid sX0_isLeftForAnother_66 (va_lid sX0_isLeftForAnother_68 (va_lid sX0_isLeftForAnother_70 (va_lid sX0_isLeftForAnother_71 (va_lid sX0_isLeftForAnother_74 (va_lid sX0_isLeftForAnother_75 (va_lid sX0_isLeftForAnother_76 (va_lid sX0_isLeftForAnother_79 (va_lid sX0_isLeftForAnother_82 (va_lid sX0_isLeftForAnother_83 (va_lid0))))))))))))))))))))))))))))))))))))))))))))
theorem kX0_isLeftForAnother_0 : lk LX0_isLeftForAnother 0 = some (xK 1 (nI 0)) := rfl
theorem kX0_isLeftForAnother_1 : lk LX0_isLeftForAnother 1 = some (xStI 2 3) := rfl
theorem kX0_isLeftForAnother_2 : lk LX0_isLeftForAnother 2 = some (xLdI 3 3) := rfl
theorem kX0_isLeftForAnother_3 : lk LX0_isLeftForAnother 3 = some (xLdA 4 0) := rfl
theorem kX0_isLeftForAnother_4 : lk LX0_isLeftForAnother 4 = some (xGf 7 3 3) := rfl
theorem kX0_isLeftForAnother_7 : lk LX0_isLeftForAnother 7 = some (xC_ge 82 10) := rfl
theorem kX0_isLeftForAnother_10 : lk LX0_isLeftForAnother 10 = some (xLdA 11 0) := rfl
theorem kX0_isLeftForAnother_11 : lk LX0_isLeftForAnother 11 = some (xGf 14 3 11) := rfl
theorem kX0_isLeftForAnother_14 : lk LX0_isLeftForAnother 14 = some (xLdI 15 3) := rfl
theorem kX0_isLeftForAnother_15 : lk LX0_isLeftForAnother 15 = some (xCallS MX5_at 2 18) := rfl
theorem kX0_isLeftForAnother_18 : lk LX0_isLeftForAnother 18 = some (xLdA 19 0) := rfl
theorem kX0_isLeftForAnother_19 : lk LX0_isLeftForAnother 19 = some (xGf 22 3 11) := rfl
theorem kX0_isLeftForAnother_22 : lk LX0_isLeftForAnother 22 = some (xLdI 23 2) := rfl
theorem kX0_isLeftForAnother_23 : lk LX0_isLeftForAnother 23 = some (xCallS MX5_at 2 26) := rfl
theorem kX0_isLeftForAnother_26 : lk LX0_isLeftForAnother 26 = some (xBin 27 f_isub) := rfl
theorem kX0_isLeftForAnother_27 : lk LX0_isLeftForAnother 27 = some (xStI 29 4) := rfl
theorem kX0_isLeftForAnother_29 : lk LX0_isLeftForAnother 29 = some (xLdA 30 0) := rfl
theorem kX0_isLeftForAnother_30 : lk LX0_isLeftForAnother 30 = some (xGf 33 3 12) := rfl
theorem kX0_isLeftForAnother_33 : lk LX0_isLeftForAnother 33 = some (xLdI 34 3) := rfl
theorem kX0_isLeftForAnother_34 : lk LX0_isLeftForAnother 34 = some (xCallS MX5_at 2 37) := rfl
theorem kX0_isLeftForAnother_37 : lk LX0_isLeftForAnother 37 = some (xLdA 38 0) := rfl
theorem kX0_isLeftForAnother_38 : lk LX0_isLeftForAnother 38 = some (xGf 41 3 12) := rfl
theorem kX0_isLeftForAnother_41 : lk LX0_isLeftForAnother 41 = some (xLdI 42 2) := rfl
theorem kX0_isLeftForAnother_42 : lk LX0_isLeftForAnother 42 = some (xCallS MX5_at 2 45) := rfl
theorem kX0_isLeftForAnother_45 : lk LX0_isLeftForAnother 45 = some (xBin 46 f_isub) := rfl
theorem kX0_isLeftForAnother_46 : lk LX0_isLeftForAnother 46 = some (xStI 48 5) := rfl
theorem kX0_isLeftForAnother_48 : lk LX0_isLeftForAnother 48 = some (xLdI 49 1) := rfl
theorem kX0_isLeftForAnother_49 : lk LX0_isLeftForAnother 49 = some (xLdI 50 3) := rfl
theorem kX0_isLeftForAnother_50 : lk LX0_isLeftForAnother 50 = some (xCallS MX5_has 2 53) := rfl
theorem kX0_isLeftForAnother_53 : lk LX0_isLeftForAnother 53 = some (xZ_eq 76 56) := rfl
theorem kX0_isLeftForAnother_56 : lk LX0_isLeftForAnother 56 = some (xLdI 58 4) := rfl
theorem kX0_isLeftForAnother_58 : lk LX0_isLeftForAnother 58 = some (xZ_lt 76 61) := rfl
theorem kX0_isLeftForAnother_61 : lk LX0_isLeftForAnother 61 = some (xLdI 63 5) := rfl
theorem kX0_isLeftForAnother_63 : lk LX0_isLeftForAnother 63 = some (xZ_lt 76 66) := rfl
theorem kX0_isLeftForAnother_66 : lk LX0_isLeftForAnother 66 = some (xLdI 68 4) := rfl
theorem kX0_isLeftForAnother_68 : lk LX0_isLeftForAnother 68 = some (xLdI 70 5) := rfl
theorem kX0_isLeftForAnother_70 : lk LX0_isLeftForAnother 70 = some (xBin 71 f_iadd) := rfl
theorem kX0_isLeftForAnother_71 : lk LX0_isLeftForAnother 71 = some (xZ_le 76 74) := rfl
theorem kX0_isLeftForAnother_74 : lk LX0_isLeftForAnother 74 = some (xK 75 (nI 1)) := rfl
theorem kX0_isLeftForAnother_75 : lk LX0_isLeftForAnother 75 = some (xRetZ) := rfl
theorem kX0_isLeftForAnother_76 : lk LX0_isLeftForAnother 76 = some (xInc 79 3 (nI 1)) := rfl
theorem kX0_isLeftForAnother_79 : lk LX0_isLeftForAnother 79 = some (xGo 2) := rfl
theorem kX0_isLeftForAnother_82 : lk LX0_isLeftForAnother 82 = some (xK 83 (nI 0)) := rfl
theorem kX0_isLeftForAnother_83 : lk LX0_isLeftForAnother 83 = some (xRetZ) := rfl
def LX0_leftByTalk : List (Nat × XI) := [(0, xLdI 1 2),
  (1, xZ_ne 7 4),
  (4, xK 6 ((-4))),
  (6, xRet),
  (7, xLdA 8 0),
  (8, xLdA 9 1),
  (9, xLdI 10 2),
  (10, xCallV MX0_findLeft 0 2 13),
  (13, xLdA 14 0),
  (14, xGf 17 0 1),
  (17, xLdI 18 2),
  (18, xCallS MX5_at 2 21),
  (21, xRet)]
theorem sX0_leftByTalk_0 : Snd MX0_leftByTalk 0 (xLdI 1 2) := snd_iload_n (M := MX0_leftByTalk) (pc := 0) dX0_leftByTalk_0
theorem sX0_leftByTalk_1 : Snd MX0_leftByTalk 1 (xZ_ne 7 4) := snd_if_ne (M := MX0_leftByTalk) (pc := 1) dX0_leftByTalk_1 (by decide)
theorem sX0_leftByTalk_4 : Snd MX0_leftByTalk 4 (xK 6 ((-4))) := snd_bipush (M := MX0_leftByTalk) (pc := 4) dX0_leftByTalk_4 (by decide +kernel)
theorem sX0_leftByTalk_6 : Snd MX0_leftByTalk 6 (xRet) := snd_iret (M := MX0_leftByTalk) (pc := 6) dX0_leftByTalk_6 rfl
theorem sX0_leftByTalk_7 : Snd MX0_leftByTalk 7 (xLdA 8 0) := snd_aload_n (M := MX0_leftByTalk) (pc := 7) dX0_leftByTalk_7
theorem sX0_leftByTalk_8 : Snd MX0_leftByTalk 8 (xLdA 9 1) := snd_aload_n (M := MX0_leftByTalk) (pc := 8) dX0_leftByTalk_8
theorem sX0_leftByTalk_9 : Snd MX0_leftByTalk 9 (xLdI 10 2) := snd_iload_n (M := MX0_leftByTalk) (pc := 9) dX0_leftByTalk_9
theorem sX0_leftByTalk_10 : Snd MX0_leftByTalk 10 (xCallV MX0_findLeft 0 2 13) := snd_callV (M := MX0_leftByTalk) (pc := 10) (n := 2) dX0_leftByTalk_10 rfl w157 w158 w159 ⟨w102, w156, ⟨by decide, by decide, by decide +kernel⟩, by decide⟩ ⟨rfl, rfl⟩
theorem sX0_leftByTalk_13 : Snd MX0_leftByTalk 13 (xLdA 14 0) := snd_aload_n (M := MX0_leftByTalk) (pc := 13) dX0_leftByTalk_13
theorem sX0_leftByTalk_14 : Snd MX0_leftByTalk 14 (xGf 17 0 1) := snd_gf (M := MX0_leftByTalk) (pc := 14) (C0 := RX0) (T0 := TX0) (N := 2) dX0_leftByTalk_14 rfl tbX0 (by decide) w77
theorem sX0_leftByTalk_17 : Snd MX0_leftByTalk 17 (xLdI 18 2) := snd_iload_n (M := MX0_leftByTalk) (pc := 17) dX0_leftByTalk_17
theorem sX0_leftByTalk_18 : Snd MX0_leftByTalk 18 (xCallS MX5_at 2 21) := snd_callSN (M := MX0_leftByTalk) (pc := 18) (n := 2) dX0_leftByTalk_18 nt12 w123 ⟨w115, w122, ⟨by decide, by decide, by decide +kernel⟩, by decide⟩ ⟨rfl, rfl⟩
theorem sX0_leftByTalk_21 : Snd MX0_leftByTalk 21 (xRet) := snd_iret (M := MX0_leftByTalk) (pc := 21) dX0_leftByTalk_21 rfl
theorem VX0_leftByTalk : Valid MX0_leftByTalk LX0_leftByTalk := va_lid sX0_leftByTalk_0 (va_lid sX0_leftByTalk_1 (va_lid sX0_leftByTalk_4 (va_lid sX0_leftByTalk_6 (va_lid sX0_leftByTalk_7 (va_lid sX0_leftByTalk_8 (va_lid sX0_leftByTalk_9 (va_lid sX0_leftByTalk_10 (va_lid sX0_leftByTalk_13 (va_lid sX0_leftByTalk_14 (va_lid sX0_leftByTalk_17 (va_lid sX0_leftByTalk_18 (va_lid sX0_leftByTalk_21 (va_lid0)))))))))))))
theorem kX0_leftByTalk_0 : lk LX0_leftByTalk 0 = some (xLdI 1 2) := rfl
theorem kX0_leftByTalk_1 : lk LX0_leftByTalk 1 = some (xZ_ne 7 4) := rfl
theorem kX0_leftByTalk_4 : lk LX0_leftByTalk 4 = some (xK 6 ((-4))) := rfl
theorem kX0_leftByTalk_6 : lk LX0_leftByTalk 6 = some (xRet) := rfl
theorem kX0_leftByTalk_7 : lk LX0_leftByTalk 7 = some (xLdA 8 0) := rfl
theorem kX0_leftByTalk_8 : lk LX0_leftByTalk 8 = some (xLdA 9 1) := rfl
theorem kX0_leftByTalk_9 : lk LX0_leftByTalk 9 = some (xLdI 10 2) := rfl
theorem kX0_leftByTalk_10 : lk LX0_leftByTalk 10 = some (xCallV MX0_findLeft 0 2 13) := rfl
theorem kX0_leftByTalk_13 : lk LX0_leftByTalk 13 = some (xLdA 14 0) := rfl
theorem kX0_leftByTalk_14 : lk LX0_leftByTalk 14 = some (xGf 17 0 1) := rfl
theorem kX0_leftByTalk_17 : lk LX0_leftByTalk 17 = some (xLdI 18 2) := rfl
theorem kX0_leftByTalk_18 : lk LX0_leftByTalk 18 = some (xCallS MX5_at 2 21) := rfl
theorem kX0_leftByTalk_21 : lk LX0_leftByTalk 21 = some (xRet) := rfl
def LX0_struckFirst : List (Nat × XI) := [(0, xLdI 1 2),
  (1, xCallS MJ6_bitCount_0f7a4 1 4),
  (4, xK 5 (nI 2)),
  (5, xC_ge 11 8),
  (8, xK 10 ((-4))),
  (10, xRet),
  (11, xLdA 12 0),
  (12, xLdA 13 1),
  (13, xLdI 14 2),
  (14, xCallV MX0_findLeft 0 2 17),
  (17, xLdA 18 0),
  (18, xLdA 19 1),
  (19, xLdI 20 2),
  (20, xLdA 21 1),
  (21, xGf 24 3 11),
  (24, xCallV MX0_strike 0 3 27),
  (27, xRet)]
theorem sX0_struckFirst_0 : Snd MX0_struckFirst 0 (xLdI 1 2) := snd_iload_n (M := MX0_struckFirst) (pc := 0) dX0_struckFirst_0
theorem sX0_struckFirst_1 : Snd MX0_struckFirst 1 (xCallS MJ6_bitCount_0f7a4 1 4) := snd_callS (M := MX0_struckFirst) (pc := 1) (n := 1) dX0_struckFirst_1 w108 w109 ⟨w106, w107, ⟨by decide, by decide, by decide +kernel⟩, by decide⟩ ⟨rfl, rfl⟩
theorem sX0_struckFirst_4 : Snd MX0_struckFirst 4 (xK 5 (nI 2)) := snd_iconst (M := MX0_struckFirst) (pc := 4) dX0_struckFirst_4 (by decide +kernel)
theorem sX0_struckFirst_5 : Snd MX0_struckFirst 5 (xC_ge 11 8) := snd_icmp_ge (M := MX0_struckFirst) (pc := 5) dX0_struckFirst_5 (by decide)
theorem sX0_struckFirst_8 : Snd MX0_struckFirst 8 (xK 10 ((-4))) := snd_bipush (M := MX0_struckFirst) (pc := 8) dX0_struckFirst_8 (by decide +kernel)
theorem sX0_struckFirst_10 : Snd MX0_struckFirst 10 (xRet) := snd_iret (M := MX0_struckFirst) (pc := 10) dX0_struckFirst_10 rfl
theorem sX0_struckFirst_11 : Snd MX0_struckFirst 11 (xLdA 12 0) := snd_aload_n (M := MX0_struckFirst) (pc := 11) dX0_struckFirst_11
theorem sX0_struckFirst_12 : Snd MX0_struckFirst 12 (xLdA 13 1) := snd_aload_n (M := MX0_struckFirst) (pc := 12) dX0_struckFirst_12
theorem sX0_struckFirst_13 : Snd MX0_struckFirst 13 (xLdI 14 2) := snd_iload_n (M := MX0_struckFirst) (pc := 13) dX0_struckFirst_13
theorem sX0_struckFirst_14 : Snd MX0_struckFirst 14 (xCallV MX0_findLeft 0 2 17) := snd_callV (M := MX0_struckFirst) (pc := 14) (n := 2) dX0_struckFirst_14 rfl w157 w158 w159 ⟨w102, w156, ⟨by decide, by decide, by decide +kernel⟩, by decide⟩ ⟨rfl, rfl⟩
theorem sX0_struckFirst_17 : Snd MX0_struckFirst 17 (xLdA 18 0) := snd_aload_n (M := MX0_struckFirst) (pc := 17) dX0_struckFirst_17
theorem sX0_struckFirst_18 : Snd MX0_struckFirst 18 (xLdA 19 1) := snd_aload_n (M := MX0_struckFirst) (pc := 18) dX0_struckFirst_18
theorem sX0_struckFirst_19 : Snd MX0_struckFirst 19 (xLdI 20 2) := snd_iload_n (M := MX0_struckFirst) (pc := 19) dX0_struckFirst_19
theorem sX0_struckFirst_20 : Snd MX0_struckFirst 20 (xLdA 21 1) := snd_aload_n (M := MX0_struckFirst) (pc := 20) dX0_struckFirst_20
theorem sX0_struckFirst_21 : Snd MX0_struckFirst 21 (xGf 24 3 11) := snd_gf (M := MX0_struckFirst) (pc := 21) (C0 := RX3) (T0 := TX3) (N := 14) dX0_struckFirst_21 rfl tbX3 (by decide) w154
theorem sX0_struckFirst_24 : Snd MX0_struckFirst 24 (xCallV MX0_strike 0 3 27) := snd_callV (M := MX0_struckFirst) (pc := 24) (n := 3) dX0_struckFirst_24 rfl w161 w162 w163 ⟨w102, w160, ⟨by decide, by decide, by decide +kernel⟩, by decide⟩ ⟨rfl, rfl⟩
theorem sX0_struckFirst_27 : Snd MX0_struckFirst 27 (xRet) := snd_iret (M := MX0_struckFirst) (pc := 27) dX0_struckFirst_27 rfl
theorem VX0_struckFirst : Valid MX0_struckFirst LX0_struckFirst := va_lid sX0_struckFirst_0 (va_lid sX0_struckFirst_1 (va_lid sX0_struckFirst_4 (va_lid sX0_struckFirst_5 (va_lid sX0_struckFirst_8 (va_lid sX0_struckFirst_10 (va_lid sX0_struckFirst_11 (va_lid sX0_struckFirst_12 (va_lid sX0_struckFirst_13 (va_lid sX0_struckFirst_14 (va_lid sX0_struckFirst_17 (va_lid sX0_struckFirst_18 (va_lid sX0_struckFirst_19 (va_lid sX0_struckFirst_20 (va_lid sX0_struckFirst_21 (va_lid sX0_struckFirst_24 (va_lid sX0_struckFirst_27 (va_lid0)))))))))))))))))
theorem kX0_struckFirst_0 : lk LX0_struckFirst 0 = some (xLdI 1 2) := rfl
theorem kX0_struckFirst_1 : lk LX0_struckFirst 1 = some (xCallS MJ6_bitCount_0f7a4 1 4) := rfl
theorem kX0_struckFirst_4 : lk LX0_struckFirst 4 = some (xK 5 (nI 2)) := rfl
theorem kX0_struckFirst_5 : lk LX0_struckFirst 5 = some (xC_ge 11 8) := rfl
theorem kX0_struckFirst_8 : lk LX0_struckFirst 8 = some (xK 10 ((-4))) := rfl
theorem kX0_struckFirst_10 : lk LX0_struckFirst 10 = some (xRet) := rfl
theorem kX0_struckFirst_11 : lk LX0_struckFirst 11 = some (xLdA 12 0) := rfl
theorem kX0_struckFirst_12 : lk LX0_struckFirst 12 = some (xLdA 13 1) := rfl
theorem kX0_struckFirst_13 : lk LX0_struckFirst 13 = some (xLdI 14 2) := rfl
theorem kX0_struckFirst_14 : lk LX0_struckFirst 14 = some (xCallV MX0_findLeft 0 2 17) := rfl
theorem kX0_struckFirst_17 : lk LX0_struckFirst 17 = some (xLdA 18 0) := rfl
theorem kX0_struckFirst_18 : lk LX0_struckFirst 18 = some (xLdA 19 1) := rfl
theorem kX0_struckFirst_19 : lk LX0_struckFirst 19 = some (xLdI 20 2) := rfl
theorem kX0_struckFirst_20 : lk LX0_struckFirst 20 = some (xLdA 21 1) := rfl
theorem kX0_struckFirst_21 : lk LX0_struckFirst 21 = some (xGf 24 3 11) := rfl
theorem kX0_struckFirst_24 : lk LX0_struckFirst 24 = some (xCallV MX0_strike 0 3 27) := rfl
theorem kX0_struckFirst_27 : lk LX0_struckFirst 27 = some (xRet) := rfl
def LX0_findLeft : List (Nat × XI) := [(0, xK 1 (nI 0)),
  (1, xStI 2 3),
  (2, xLdI 3 3),
  (3, xLdA 4 1),
  (4, xGf 7 3 3),
  (7, xC_ge 27 10),
  (10, xLdA 11 0),
  (11, xGf 14 0 1),
  (14, xK 15 (nI 1)),
  (15, xLdI 16 3),
  (16, xBin 17 f_ishl),
  (17, xLdI 18 3),
  (18, xCallS MX5_store 3 21),
  (21, xInc 24 3 (nI 1)),
  (24, xGo 2),
  (27, xLdI 28 2),
  (28, xCallS MJ6_bitCount_0f7a4 1 31),
  (31, xStI 32 3),
  (32, xK 33 (nI 1)),
  (33, xStI 35 4),
  (35, xLdI 37 4),
  (37, xLdI 38 2),
  (38, xC_gt 127 41),
  (41, xLdI 43 4),
  (43, xCallS MJ6_bitCount_0f7a4 1 46),
  (46, xStI 48 5),
  (48, xLdI 50 5),
  (50, xK 51 (nI 1)),
  (51, xC_le 121 54),
  (54, xLdI 56 4),
  (56, xLdI 57 2),
  (57, xK 58 ((-1))),
  (58, xBin 59 f_ixor),
  (59, xBin 60 f_iand),
  (60, xZ_ne 121 63),
  (63, xLdI 64 3),
  (64, xLdI 66 5),
  (66, xBin 67 f_isub),
  (67, xK 68 (nI 2)),
  (68, xDiv 69 f_irem),
  (69, xZ_ne 79 72),
  (72, xLdA 73 1),
  (73, xGf 76 3 11),
  (76, xGo 83),
  (79, xLdA 80 1),
  (80, xGf 83 3 12),
  (83, xStA 85 6),
  (85, xLdA 86 0),
  (86, xLdA 87 1),
  (87, xLdI 89 4),
  (89, xLdA 91 6),
  (91, xCallV MX0_strike 0 3 94),
  (94, xStI 96 7),
  (96, xLdA 97 0),
  (97, xGf 100 0 1),
  (100, xLdI 102 4),
  (102, xLdA 103 0),
  (103, xGf 106 0 1),
  (106, xLdI 108 4),
  (108, xK 109 (nI 1)),
  (109, xLdI 111 7),
  (111, xBin 112 f_ishl),
  (112, xK 113 ((-1))),
  (113, xBin 114 f_ixor),
  (114, xBin 115 f_iand),
  (115, xCallS MX5_at 2 118),
  (118, xCallS MX5_store 3 121),
  (121, xInc 124 4 (nI 1)),
  (124, xGo 35),
  (127, xRetV)]
theorem sX0_findLeft_0 : Snd MX0_findLeft 0 (xK 1 (nI 0)) := snd_iconst (M := MX0_findLeft) (pc := 0) dX0_findLeft_0 (by decide +kernel)
theorem sX0_findLeft_1 : Snd MX0_findLeft 1 (xStI 2 3) := snd_istore_n (M := MX0_findLeft) (pc := 1) dX0_findLeft_1 (by decide)
theorem sX0_findLeft_2 : Snd MX0_findLeft 2 (xLdI 3 3) := snd_iload_n (M := MX0_findLeft) (pc := 2) dX0_findLeft_2
theorem sX0_findLeft_3 : Snd MX0_findLeft 3 (xLdA 4 1) := snd_aload_n (M := MX0_findLeft) (pc := 3) dX0_findLeft_3
theorem sX0_findLeft_4 : Snd MX0_findLeft 4 (xGf 7 3 3) := snd_gf (M := MX0_findLeft) (pc := 4) (C0 := RX3) (T0 := TX3) (N := 14) dX0_findLeft_4 rfl tbX3 (by decide) w132
theorem sX0_findLeft_7 : Snd MX0_findLeft 7 (xC_ge 27 10) := snd_icmp_ge (M := MX0_findLeft) (pc := 7) dX0_findLeft_7 (by decide)
theorem sX0_findLeft_10 : Snd MX0_findLeft 10 (xLdA 11 0) := snd_aload_n (M := MX0_findLeft) (pc := 10) dX0_findLeft_10
theorem sX0_findLeft_11 : Snd MX0_findLeft 11 (xGf 14 0 1) := snd_gf (M := MX0_findLeft) (pc := 11) (C0 := RX0) (T0 := TX0) (N := 2) dX0_findLeft_11 rfl tbX0 (by decide) w77
theorem sX0_findLeft_14 : Snd MX0_findLeft 14 (xK 15 (nI 1)) := snd_iconst (M := MX0_findLeft) (pc := 14) dX0_findLeft_14 (by decide +kernel)
theorem sX0_findLeft_15 : Snd MX0_findLeft 15 (xLdI 16 3) := snd_iload_n (M := MX0_findLeft) (pc := 15) dX0_findLeft_15
theorem sX0_findLeft_16 : Snd MX0_findLeft 16 (xBin 17 f_ishl) := snd_ishl (M := MX0_findLeft) (pc := 16) dX0_findLeft_16
theorem sX0_findLeft_17 : Snd MX0_findLeft 17 (xLdI 18 3) := snd_iload_n (M := MX0_findLeft) (pc := 17) dX0_findLeft_17
theorem sX0_findLeft_18 : Snd MX0_findLeft 18 (xCallS MX5_store 3 21) := snd_callSN (M := MX0_findLeft) (pc := 18) (n := 3) dX0_findLeft_18 nt13 w141 ⟨w115, w140, ⟨by decide, by decide, by decide +kernel⟩, by decide⟩ ⟨rfl, rfl⟩
theorem sX0_findLeft_21 : Snd MX0_findLeft 21 (xInc 24 3 (nI 1)) := snd_iinc (M := MX0_findLeft) (pc := 21) dX0_findLeft_21 (by decide +kernel) (by decide)
theorem sX0_findLeft_24 : Snd MX0_findLeft 24 (xGo 2) := snd_goto (M := MX0_findLeft) (pc := 24) dX0_findLeft_24 (by decide)
theorem sX0_findLeft_27 : Snd MX0_findLeft 27 (xLdI 28 2) := snd_iload_n (M := MX0_findLeft) (pc := 27) dX0_findLeft_27
theorem sX0_findLeft_28 : Snd MX0_findLeft 28 (xCallS MJ6_bitCount_0f7a4 1 31) := snd_callS (M := MX0_findLeft) (pc := 28) (n := 1) dX0_findLeft_28 w108 w109 ⟨w106, w107, ⟨by decide, by decide, by decide +kernel⟩, by decide⟩ ⟨rfl, rfl⟩
theorem sX0_findLeft_31 : Snd MX0_findLeft 31 (xStI 32 3) := snd_istore_n (M := MX0_findLeft) (pc := 31) dX0_findLeft_31 (by decide)
theorem sX0_findLeft_32 : Snd MX0_findLeft 32 (xK 33 (nI 1)) := snd_iconst (M := MX0_findLeft) (pc := 32) dX0_findLeft_32 (by decide +kernel)
theorem sX0_findLeft_33 : Snd MX0_findLeft 33 (xStI 35 4) := snd_istore (M := MX0_findLeft) (pc := 33) dX0_findLeft_33 (by decide)
theorem sX0_findLeft_35 : Snd MX0_findLeft 35 (xLdI 37 4) := snd_iload (M := MX0_findLeft) (pc := 35) dX0_findLeft_35
theorem sX0_findLeft_37 : Snd MX0_findLeft 37 (xLdI 38 2) := snd_iload_n (M := MX0_findLeft) (pc := 37) dX0_findLeft_37
theorem sX0_findLeft_38 : Snd MX0_findLeft 38 (xC_gt 127 41) := snd_icmp_gt (M := MX0_findLeft) (pc := 38) dX0_findLeft_38 (by decide)
theorem sX0_findLeft_41 : Snd MX0_findLeft 41 (xLdI 43 4) := snd_iload (M := MX0_findLeft) (pc := 41) dX0_findLeft_41
theorem sX0_findLeft_43 : Snd MX0_findLeft 43 (xCallS MJ6_bitCount_0f7a4 1 46) := snd_callS (M := MX0_findLeft) (pc := 43) (n := 1) dX0_findLeft_43 w108 w109 ⟨w106, w107, ⟨by decide, by decide, by decide +kernel⟩, by decide⟩ ⟨rfl, rfl⟩
theorem sX0_findLeft_46 : Snd MX0_findLeft 46 (xStI 48 5) := snd_istore (M := MX0_findLeft) (pc := 46) dX0_findLeft_46 (by decide)
theorem sX0_findLeft_48 : Snd MX0_findLeft 48 (xLdI 50 5) := snd_iload (M := MX0_findLeft) (pc := 48) dX0_findLeft_48
theorem sX0_findLeft_50 : Snd MX0_findLeft 50 (xK 51 (nI 1)) := snd_iconst (M := MX0_findLeft) (pc := 50) dX0_findLeft_50 (by decide +kernel)
theorem sX0_findLeft_51 : Snd MX0_findLeft 51 (xC_le 121 54) := snd_icmp_le (M := MX0_findLeft) (pc := 51) dX0_findLeft_51 (by decide)
theorem sX0_findLeft_54 : Snd MX0_findLeft 54 (xLdI 56 4) := snd_iload (M := MX0_findLeft) (pc := 54) dX0_findLeft_54
theorem sX0_findLeft_56 : Snd MX0_findLeft 56 (xLdI 57 2) := snd_iload_n (M := MX0_findLeft) (pc := 56) dX0_findLeft_56
theorem sX0_findLeft_57 : Snd MX0_findLeft 57 (xK 58 ((-1))) := snd_iconst (M := MX0_findLeft) (pc := 57) dX0_findLeft_57 (by decide +kernel)
theorem sX0_findLeft_58 : Snd MX0_findLeft 58 (xBin 59 f_ixor) := snd_ixor (M := MX0_findLeft) (pc := 58) dX0_findLeft_58
theorem sX0_findLeft_59 : Snd MX0_findLeft 59 (xBin 60 f_iand) := snd_iand (M := MX0_findLeft) (pc := 59) dX0_findLeft_59
theorem sX0_findLeft_60 : Snd MX0_findLeft 60 (xZ_ne 121 63) := snd_if_ne (M := MX0_findLeft) (pc := 60) dX0_findLeft_60 (by decide)
theorem sX0_findLeft_63 : Snd MX0_findLeft 63 (xLdI 64 3) := snd_iload_n (M := MX0_findLeft) (pc := 63) dX0_findLeft_63
theorem sX0_findLeft_64 : Snd MX0_findLeft 64 (xLdI 66 5) := snd_iload (M := MX0_findLeft) (pc := 64) dX0_findLeft_64
theorem sX0_findLeft_66 : Snd MX0_findLeft 66 (xBin 67 f_isub) := snd_isub (M := MX0_findLeft) (pc := 66) dX0_findLeft_66
theorem sX0_findLeft_67 : Snd MX0_findLeft 67 (xK 68 (nI 2)) := snd_iconst (M := MX0_findLeft) (pc := 67) dX0_findLeft_67 (by decide +kernel)
theorem sX0_findLeft_68 : Snd MX0_findLeft 68 (xDiv 69 f_irem) := snd_irem (M := MX0_findLeft) (pc := 68) dX0_findLeft_68
theorem sX0_findLeft_69 : Snd MX0_findLeft 69 (xZ_ne 79 72) := snd_if_ne (M := MX0_findLeft) (pc := 69) dX0_findLeft_69 (by decide)
theorem sX0_findLeft_72 : Snd MX0_findLeft 72 (xLdA 73 1) := snd_aload_n (M := MX0_findLeft) (pc := 72) dX0_findLeft_72
theorem sX0_findLeft_73 : Snd MX0_findLeft 73 (xGf 76 3 11) := snd_gf (M := MX0_findLeft) (pc := 73) (C0 := RX3) (T0 := TX3) (N := 14) dX0_findLeft_73 rfl tbX3 (by decide) w154
theorem sX0_findLeft_76 : Snd MX0_findLeft 76 (xGo 83) := snd_goto (M := MX0_findLeft) (pc := 76) dX0_findLeft_76 (by decide)
theorem sX0_findLeft_79 : Snd MX0_findLeft 79 (xLdA 80 1) := snd_aload_n (M := MX0_findLeft) (pc := 79) dX0_findLeft_79
theorem sX0_findLeft_80 : Snd MX0_findLeft 80 (xGf 83 3 12) := snd_gf (M := MX0_findLeft) (pc := 80) (C0 := RX3) (T0 := TX3) (N := 14) dX0_findLeft_80 rfl tbX3 (by decide) w155
theorem sX0_findLeft_83 : Snd MX0_findLeft 83 (xStA 85 6) := snd_astore (M := MX0_findLeft) (pc := 83) dX0_findLeft_83 (by decide)
theorem sX0_findLeft_85 : Snd MX0_findLeft 85 (xLdA 86 0) := snd_aload_n (M := MX0_findLeft) (pc := 85) dX0_findLeft_85
theorem sX0_findLeft_86 : Snd MX0_findLeft 86 (xLdA 87 1) := snd_aload_n (M := MX0_findLeft) (pc := 86) dX0_findLeft_86
theorem sX0_findLeft_87 : Snd MX0_findLeft 87 (xLdI 89 4) := snd_iload (M := MX0_findLeft) (pc := 87) dX0_findLeft_87
theorem sX0_findLeft_89 : Snd MX0_findLeft 89 (xLdA 91 6) := snd_aload (M := MX0_findLeft) (pc := 89) dX0_findLeft_89
theorem sX0_findLeft_91 : Snd MX0_findLeft 91 (xCallV MX0_strike 0 3 94) := snd_callV (M := MX0_findLeft) (pc := 91) (n := 3) dX0_findLeft_91 rfl w161 w162 w163 ⟨w102, w160, ⟨by decide, by decide, by decide +kernel⟩, by decide⟩ ⟨rfl, rfl⟩
theorem sX0_findLeft_94 : Snd MX0_findLeft 94 (xStI 96 7) := snd_istore (M := MX0_findLeft) (pc := 94) dX0_findLeft_94 (by decide)
theorem sX0_findLeft_96 : Snd MX0_findLeft 96 (xLdA 97 0) := snd_aload_n (M := MX0_findLeft) (pc := 96) dX0_findLeft_96
theorem sX0_findLeft_97 : Snd MX0_findLeft 97 (xGf 100 0 1) := snd_gf (M := MX0_findLeft) (pc := 97) (C0 := RX0) (T0 := TX0) (N := 2) dX0_findLeft_97 rfl tbX0 (by decide) w77
theorem sX0_findLeft_100 : Snd MX0_findLeft 100 (xLdI 102 4) := snd_iload (M := MX0_findLeft) (pc := 100) dX0_findLeft_100
theorem sX0_findLeft_102 : Snd MX0_findLeft 102 (xLdA 103 0) := snd_aload_n (M := MX0_findLeft) (pc := 102) dX0_findLeft_102
theorem sX0_findLeft_103 : Snd MX0_findLeft 103 (xGf 106 0 1) := snd_gf (M := MX0_findLeft) (pc := 103) (C0 := RX0) (T0 := TX0) (N := 2) dX0_findLeft_103 rfl tbX0 (by decide) w77
theorem sX0_findLeft_106 : Snd MX0_findLeft 106 (xLdI 108 4) := snd_iload (M := MX0_findLeft) (pc := 106) dX0_findLeft_106
theorem sX0_findLeft_108 : Snd MX0_findLeft 108 (xK 109 (nI 1)) := snd_iconst (M := MX0_findLeft) (pc := 108) dX0_findLeft_108 (by decide +kernel)
theorem sX0_findLeft_109 : Snd MX0_findLeft 109 (xLdI 111 7) := snd_iload (M := MX0_findLeft) (pc := 109) dX0_findLeft_109
theorem sX0_findLeft_111 : Snd MX0_findLeft 111 (xBin 112 f_ishl) := snd_ishl (M := MX0_findLeft) (pc := 111) dX0_findLeft_111
theorem sX0_findLeft_112 : Snd MX0_findLeft 112 (xK 113 ((-1))) := snd_iconst (M := MX0_findLeft) (pc := 112) dX0_findLeft_112 (by decide +kernel)
theorem sX0_findLeft_113 : Snd MX0_findLeft 113 (xBin 114 f_ixor) := snd_ixor (M := MX0_findLeft) (pc := 113) dX0_findLeft_113
theorem sX0_findLeft_114 : Snd MX0_findLeft 114 (xBin 115 f_iand) := snd_iand (M := MX0_findLeft) (pc := 114) dX0_findLeft_114
theorem sX0_findLeft_115 : Snd MX0_findLeft 115 (xCallS MX5_at 2 118) := snd_callSN (M := MX0_findLeft) (pc := 115) (n := 2) dX0_findLeft_115 nt12 w123 ⟨w115, w122, ⟨by decide, by decide, by decide +kernel⟩, by decide⟩ ⟨rfl, rfl⟩
theorem sX0_findLeft_118 : Snd MX0_findLeft 118 (xCallS MX5_store 3 121) := snd_callSN (M := MX0_findLeft) (pc := 118) (n := 3) dX0_findLeft_118 nt13 w141 ⟨w115, w140, ⟨by decide, by decide, by decide +kernel⟩, by decide⟩ ⟨rfl, rfl⟩
theorem sX0_findLeft_121 : Snd MX0_findLeft 121 (xInc 124 4 (nI 1)) := snd_iinc (M := MX0_findLeft) (pc := 121) dX0_findLeft_121 (by decide +kernel) (by decide)
theorem sX0_findLeft_124 : Snd MX0_findLeft 124 (xGo 35) := snd_goto (M := MX0_findLeft) (pc := 124) dX0_findLeft_124 (by decide)
theorem sX0_findLeft_127 : Snd MX0_findLeft 127 (xRetV) := snd_vret (M := MX0_findLeft) (pc := 127) dX0_findLeft_127 rfl
theorem VX0_findLeft : Valid MX0_findLeft LX0_findLeft := va_lid sX0_findLeft_0 (va_lid sX0_findLeft_1 (va_lid sX0_findLeft_2 (va_lid sX0_findLeft_3 (va_lid sX0_findLeft_4 (va_lid sX0_findLeft_7 (va_lid sX0_findLeft_10 (va_lid sX0_findLeft_11 (va_lid sX0_findLeft_14 (va_lid sX0_findLeft_15 (va_lid sX0_findLeft_16 (va_lid sX0_findLeft_17 (va_lid sX0_findLeft_18 (va_lid sX0_findLeft_21 (va_lid sX0_findLeft_24 (va_lid sX0_findLeft_27 (va_lid sX0_findLeft_28 (va_lid sX0_findLeft_31 (va_lid sX0_findLeft_32 (va_lid sX0_findLeft_33 (va_lid sX0_findLeft_35 (va_lid sX0_findLeft_37 (va_lid sX0_findLeft_38 (va_lid sX0_findLeft_41 (va_lid sX0_findLeft_43 (va_lid sX0_findLeft_46 (va_lid sX0_findLeft_48 (va_lid sX0_findLeft_50 (va_lid sX0_findLeft_51 (va_lid sX0_findLeft_54 (va_lid sX0_findLeft_56 (va_lid sX0_findLeft_57 (va_lid sX0_findLeft_58 (va_lid sX0_findLeft_59 (va_lid sX0_findLeft_60 (va_lid sX0_findLeft_63 (va_lid sX0_findLeft_64 (va_lid sX0_findLeft_66 (va_lid sX0_findLeft_67 (va_lid sX0_findLeft_68 (va_lid sX0_findLeft_69 (va_lid sX0_findLeft_72 (va_lid sX0_findLeft_73 (va_lid sX0_findLeft_76 (va_lid sX0_findLeft_79 (va_lid sX0_findLeft_80 (va_lid sX0_findLeft_83 (va_lid sX0_findLeft_85 (va_lid sX0_findLeft_86 (va_lid sX0_findLeft_87 (va_lid sX0_findLeft_89 (va_lid sX0_findLeft_91 (va_lid sX0_findLeft_94 (va_lid sX0_findLeft_96 (va_lid sX0_findLeft_97 (va_lid sX0_findLeft_100 (va_lid sX0_findLeft_102 (va_lid sX0_findLeft_103 (va_lid sX0_findLeft_106 (va_lid sX0_findLeft_108 (va_lid sX0_findLeft_109 (va_lid sX0_findLeft_111 (va_lid sX0_findLeft_112 (va_lid sX0_findLeft_113 (va_lid sX0_findLeft_114 (va_lid sX0_findLeft_115 (va_lid sX0_findLeft_118 (va_lid sX0_findLeft_121 (va_lid sX0_findLeft_124 (va_lid sX0_findLeft_127 (va_lid0))))))))))))))))))))))))))))))))))))))))))))))))))))))))))))))))))))))
theorem kX0_findLeft_0 : lk LX0_findLeft 0 = some (xK 1 (nI 0)) := rfl
theorem kX0_findLeft_1 : lk LX0_findLeft 1 = some (xStI 2 3) := rfl
theorem kX0_findLeft_2 : lk LX0_findLeft 2 = some (xLdI 3 3) := rfl
theorem kX0_findLeft_3 : lk LX0_findLeft 3 = some (xLdA 4 1) := rfl
theorem kX0_findLeft_4 : lk LX0_findLeft 4 = some (xGf 7 3 3) := rfl
theorem kX0_findLeft_7 : lk LX0_findLeft 7 = some (xC_ge 27 10) := rfl
theorem kX0_findLeft_10 : lk LX0_findLeft 10 = some (xLdA 11 0) := rfl
theorem kX0_findLeft_11 : lk LX0_findLeft 11 = some (xGf 14 0 1) := rfl
theorem kX0_findLeft_14 : lk LX0_findLeft 14 = some (xK 15 (nI 1)) := rfl
theorem kX0_findLeft_15 : lk LX0_findLeft 15 = some (xLdI 16 3) := rfl
theorem kX0_findLeft_16 : lk LX0_findLeft 16 = some (xBin 17 f_ishl) := rfl
theorem kX0_findLeft_17 : lk LX0_findLeft 17 = some (xLdI 18 3) := rfl
theorem kX0_findLeft_18 : lk LX0_findLeft 18 = some (xCallS MX5_store 3 21) := rfl
theorem kX0_findLeft_21 : lk LX0_findLeft 21 = some (xInc 24 3 (nI 1)) := rfl
theorem kX0_findLeft_24 : lk LX0_findLeft 24 = some (xGo 2) := rfl
theorem kX0_findLeft_27 : lk LX0_findLeft 27 = some (xLdI 28 2) := rfl
theorem kX0_findLeft_28 : lk LX0_findLeft 28 = some (xCallS MJ6_bitCount_0f7a4 1 31) := rfl
theorem kX0_findLeft_31 : lk LX0_findLeft 31 = some (xStI 32 3) := rfl
theorem kX0_findLeft_32 : lk LX0_findLeft 32 = some (xK 33 (nI 1)) := rfl
theorem kX0_findLeft_33 : lk LX0_findLeft 33 = some (xStI 35 4) := rfl
theorem kX0_findLeft_35 : lk LX0_findLeft 35 = some (xLdI 37 4) := rfl
theorem kX0_findLeft_37 : lk LX0_findLeft 37 = some (xLdI 38 2) := rfl
theorem kX0_findLeft_38 : lk LX0_findLeft 38 = some (xC_gt 127 41) := rfl
theorem kX0_findLeft_41 : lk LX0_findLeft 41 = some (xLdI 43 4) := rfl
theorem kX0_findLeft_43 : lk LX0_findLeft 43 = some (xCallS MJ6_bitCount_0f7a4 1 46) := rfl
theorem kX0_findLeft_46 : lk LX0_findLeft 46 = some (xStI 48 5) := rfl
theorem kX0_findLeft_48 : lk LX0_findLeft 48 = some (xLdI 50 5) := rfl
theorem kX0_findLeft_50 : lk LX0_findLeft 50 = some (xK 51 (nI 1)) := rfl
theorem kX0_findLeft_51 : lk LX0_findLeft 51 = some (xC_le 121 54) := rfl
theorem kX0_findLeft_54 : lk LX0_findLeft 54 = some (xLdI 56 4) := rfl
theorem kX0_findLeft_56 : lk LX0_findLeft 56 = some (xLdI 57 2) := rfl
theorem kX0_findLeft_57 : lk LX0_findLeft 57 = some (xK 58 ((-1))) := rfl
theorem kX0_findLeft_58 : lk LX0_findLeft 58 = some (xBin 59 f_ixor) := rfl
theorem kX0_findLeft_59 : lk LX0_findLeft 59 = some (xBin 60 f_iand) := rfl
theorem kX0_findLeft_60 : lk LX0_findLeft 60 = some (xZ_ne 121 63) := rfl
theorem kX0_findLeft_63 : lk LX0_findLeft 63 = some (xLdI 64 3) := rfl
theorem kX0_findLeft_64 : lk LX0_findLeft 64 = some (xLdI 66 5) := rfl
theorem kX0_findLeft_66 : lk LX0_findLeft 66 = some (xBin 67 f_isub) := rfl
theorem kX0_findLeft_67 : lk LX0_findLeft 67 = some (xK 68 (nI 2)) := rfl
theorem kX0_findLeft_68 : lk LX0_findLeft 68 = some (xDiv 69 f_irem) := rfl
theorem kX0_findLeft_69 : lk LX0_findLeft 69 = some (xZ_ne 79 72) := rfl
theorem kX0_findLeft_72 : lk LX0_findLeft 72 = some (xLdA 73 1) := rfl
theorem kX0_findLeft_73 : lk LX0_findLeft 73 = some (xGf 76 3 11) := rfl
theorem kX0_findLeft_76 : lk LX0_findLeft 76 = some (xGo 83) := rfl
theorem kX0_findLeft_79 : lk LX0_findLeft 79 = some (xLdA 80 1) := rfl
theorem kX0_findLeft_80 : lk LX0_findLeft 80 = some (xGf 83 3 12) := rfl
theorem kX0_findLeft_83 : lk LX0_findLeft 83 = some (xStA 85 6) := rfl
theorem kX0_findLeft_85 : lk LX0_findLeft 85 = some (xLdA 86 0) := rfl
theorem kX0_findLeft_86 : lk LX0_findLeft 86 = some (xLdA 87 1) := rfl
theorem kX0_findLeft_87 : lk LX0_findLeft 87 = some (xLdI 89 4) := rfl
theorem kX0_findLeft_89 : lk LX0_findLeft 89 = some (xLdA 91 6) := rfl
theorem kX0_findLeft_91 : lk LX0_findLeft 91 = some (xCallV MX0_strike 0 3 94) := rfl
theorem kX0_findLeft_94 : lk LX0_findLeft 94 = some (xStI 96 7) := rfl
theorem kX0_findLeft_96 : lk LX0_findLeft 96 = some (xLdA 97 0) := rfl
theorem kX0_findLeft_97 : lk LX0_findLeft 97 = some (xGf 100 0 1) := rfl
theorem kX0_findLeft_100 : lk LX0_findLeft 100 = some (xLdI 102 4) := rfl
theorem kX0_findLeft_102 : lk LX0_findLeft 102 = some (xLdA 103 0) := rfl
theorem kX0_findLeft_103 : lk LX0_findLeft 103 = some (xGf 106 0 1) := rfl
theorem kX0_findLeft_106 : lk LX0_findLeft 106 = some (xLdI 108 4) := rfl
theorem kX0_findLeft_108 : lk LX0_findLeft 108 = some (xK 109 (nI 1)) := rfl
theorem kX0_findLeft_109 : lk LX0_findLeft 109 = some (xLdI 111 7) := rfl
theorem kX0_findLeft_111 : lk LX0_findLeft 111 = some (xBin 112 f_ishl) := rfl
theorem kX0_findLeft_112 : lk LX0_findLeft 112 = some (xK 113 ((-1))) := rfl
theorem kX0_findLeft_113 : lk LX0_findLeft 113 = some (xBin 114 f_ixor) := rfl
theorem kX0_findLeft_114 : lk LX0_findLeft 114 = some (xBin 115 f_iand) := rfl
theorem kX0_findLeft_115 : lk LX0_findLeft 115 = some (xCallS MX5_at 2 118) := rfl
theorem kX0_findLeft_118 : lk LX0_findLeft 118 = some (xCallS MX5_store 3 121) := rfl
theorem kX0_findLeft_121 : lk LX0_findLeft 121 = some (xInc 124 4 (nI 1)) := rfl
theorem kX0_findLeft_124 : lk LX0_findLeft 124 = some (xGo 35) := rfl
theorem kX0_findLeft_127 : lk LX0_findLeft 127 = some (xRetV) := rfl
def LX0_strike : List (Nat × XI) := [(0, xK 2 ((-4))),
  (2, xStI 4 4),
  (4, xK 5 (nI 0)),
  (5, xStI 7 5),
  (7, xK 8 (nI 0)),
  (8, xStI 10 6),
  (10, xLdI 12 6),
  (12, xLdA 13 1),
  (13, xGf 16 3 3),
  (16, xC_ge 77 19),
  (19, xLdI 20 2),
  (20, xLdI 22 6),
  (22, xCallS MX5_has 2 25),
  (25, xZ_eq 71 28),
  (28, xLdA 29 3),
  (29, xLdA 30 0),
  (30, xGf 33 0 1),
  (33, xLdI 34 2),
  (34, xK 35 (nI 1)),
  (35, xLdI 37 6),
  (37, xBin 38 f_ishl),
  (38, xK 39 ((-1))),
  (39, xBin 40 f_ixor),
  (40, xBin 41 f_iand),
  (41, xCallS MX5_at 2 44),
  (44, xCallS MX5_at 2 47),
  (47, xStI 49 7),
  (49, xLdI 51 4),
  (51, xK 53 ((-4))),
  (53, xC_eq 63 56),
  (56, xLdI 58 7),
  (58, xLdI 60 5),
  (60, xC_le 71 63),
  (63, xLdI 65 6),
  (65, xStI 67 4),
  (67, xLdI 69 7),
  (69, xStI 71 5),
  (71, xInc 74 6 (nI 1)),
  (74, xGo 10),
  (77, xLdI 79 4),
  (79, xRet)]
theorem sX0_strike_0 : Snd MX0_strike 0 (xK 2 ((-4))) := snd_bipush (M := MX0_strike) (pc := 0) dX0_strike_0 (by decide +kernel)
theorem sX0_strike_2 : Snd MX0_strike 2 (xStI 4 4) := snd_istore (M := MX0_strike) (pc := 2) dX0_strike_2 (by decide)
theorem sX0_strike_4 : Snd MX0_strike 4 (xK 5 (nI 0)) := snd_iconst (M := MX0_strike) (pc := 4) dX0_strike_4 (by decide +kernel)
theorem sX0_strike_5 : Snd MX0_strike 5 (xStI 7 5) := snd_istore (M := MX0_strike) (pc := 5) dX0_strike_5 (by decide)
theorem sX0_strike_7 : Snd MX0_strike 7 (xK 8 (nI 0)) := snd_iconst (M := MX0_strike) (pc := 7) dX0_strike_7 (by decide +kernel)
theorem sX0_strike_8 : Snd MX0_strike 8 (xStI 10 6) := snd_istore (M := MX0_strike) (pc := 8) dX0_strike_8 (by decide)
theorem sX0_strike_10 : Snd MX0_strike 10 (xLdI 12 6) := snd_iload (M := MX0_strike) (pc := 10) dX0_strike_10
theorem sX0_strike_12 : Snd MX0_strike 12 (xLdA 13 1) := snd_aload_n (M := MX0_strike) (pc := 12) dX0_strike_12
theorem sX0_strike_13 : Snd MX0_strike 13 (xGf 16 3 3) := snd_gf (M := MX0_strike) (pc := 13) (C0 := RX3) (T0 := TX3) (N := 14) dX0_strike_13 rfl tbX3 (by decide) w132
theorem sX0_strike_16 : Snd MX0_strike 16 (xC_ge 77 19) := snd_icmp_ge (M := MX0_strike) (pc := 16) dX0_strike_16 (by decide)
theorem sX0_strike_19 : Snd MX0_strike 19 (xLdI 20 2) := snd_iload_n (M := MX0_strike) (pc := 19) dX0_strike_19
theorem sX0_strike_20 : Snd MX0_strike 20 (xLdI 22 6) := snd_iload (M := MX0_strike) (pc := 20) dX0_strike_20
theorem sX0_strike_22 : Snd MX0_strike 22 (xCallS MX5_has 2 25) := snd_callSN (M := MX0_strike) (pc := 22) (n := 2) dX0_strike_22 nt11 w117 ⟨w115, w116, ⟨by decide, by decide, by decide +kernel⟩, by decide⟩ ⟨rfl, rfl⟩
theorem sX0_strike_25 : Snd MX0_strike 25 (xZ_eq 71 28) := snd_if_eq (M := MX0_strike) (pc := 25) dX0_strike_25 (by decide)
theorem sX0_strike_28 : Snd MX0_strike 28 (xLdA 29 3) := snd_aload_n (M := MX0_strike) (pc := 28) dX0_strike_28
theorem sX0_strike_29 : Snd MX0_strike 29 (xLdA 30 0) := snd_aload_n (M := MX0_strike) (pc := 29) dX0_strike_29
theorem sX0_strike_30 : Snd MX0_strike 30 (xGf 33 0 1) := snd_gf (M := MX0_strike) (pc := 30) (C0 := RX0) (T0 := TX0) (N := 2) dX0_strike_30 rfl tbX0 (by decide) w77
theorem sX0_strike_33 : Snd MX0_strike 33 (xLdI 34 2) := snd_iload_n (M := MX0_strike) (pc := 33) dX0_strike_33
theorem sX0_strike_34 : Snd MX0_strike 34 (xK 35 (nI 1)) := snd_iconst (M := MX0_strike) (pc := 34) dX0_strike_34 (by decide +kernel)
theorem sX0_strike_35 : Snd MX0_strike 35 (xLdI 37 6) := snd_iload (M := MX0_strike) (pc := 35) dX0_strike_35
theorem sX0_strike_37 : Snd MX0_strike 37 (xBin 38 f_ishl) := snd_ishl (M := MX0_strike) (pc := 37) dX0_strike_37
theorem sX0_strike_38 : Snd MX0_strike 38 (xK 39 ((-1))) := snd_iconst (M := MX0_strike) (pc := 38) dX0_strike_38 (by decide +kernel)
theorem sX0_strike_39 : Snd MX0_strike 39 (xBin 40 f_ixor) := snd_ixor (M := MX0_strike) (pc := 39) dX0_strike_39
theorem sX0_strike_40 : Snd MX0_strike 40 (xBin 41 f_iand) := snd_iand (M := MX0_strike) (pc := 40) dX0_strike_40
theorem sX0_strike_41 : Snd MX0_strike 41 (xCallS MX5_at 2 44) := snd_callSN (M := MX0_strike) (pc := 41) (n := 2) dX0_strike_41 nt12 w123 ⟨w115, w122, ⟨by decide, by decide, by decide +kernel⟩, by decide⟩ ⟨rfl, rfl⟩
theorem sX0_strike_44 : Snd MX0_strike 44 (xCallS MX5_at 2 47) := snd_callSN (M := MX0_strike) (pc := 44) (n := 2) dX0_strike_44 nt12 w123 ⟨w115, w122, ⟨by decide, by decide, by decide +kernel⟩, by decide⟩ ⟨rfl, rfl⟩
theorem sX0_strike_47 : Snd MX0_strike 47 (xStI 49 7) := snd_istore (M := MX0_strike) (pc := 47) dX0_strike_47 (by decide)
theorem sX0_strike_49 : Snd MX0_strike 49 (xLdI 51 4) := snd_iload (M := MX0_strike) (pc := 49) dX0_strike_49
theorem sX0_strike_51 : Snd MX0_strike 51 (xK 53 ((-4))) := snd_bipush (M := MX0_strike) (pc := 51) dX0_strike_51 (by decide +kernel)
theorem sX0_strike_53 : Snd MX0_strike 53 (xC_eq 63 56) := snd_icmp_eq (M := MX0_strike) (pc := 53) dX0_strike_53 (by decide)
theorem sX0_strike_56 : Snd MX0_strike 56 (xLdI 58 7) := snd_iload (M := MX0_strike) (pc := 56) dX0_strike_56
theorem sX0_strike_58 : Snd MX0_strike 58 (xLdI 60 5) := snd_iload (M := MX0_strike) (pc := 58) dX0_strike_58
theorem sX0_strike_60 : Snd MX0_strike 60 (xC_le 71 63) := snd_icmp_le (M := MX0_strike) (pc := 60) dX0_strike_60 (by decide)
theorem sX0_strike_63 : Snd MX0_strike 63 (xLdI 65 6) := snd_iload (M := MX0_strike) (pc := 63) dX0_strike_63
theorem sX0_strike_65 : Snd MX0_strike 65 (xStI 67 4) := snd_istore (M := MX0_strike) (pc := 65) dX0_strike_65 (by decide)
theorem sX0_strike_67 : Snd MX0_strike 67 (xLdI 69 7) := snd_iload (M := MX0_strike) (pc := 67) dX0_strike_67
theorem sX0_strike_69 : Snd MX0_strike 69 (xStI 71 5) := snd_istore (M := MX0_strike) (pc := 69) dX0_strike_69 (by decide)
theorem sX0_strike_71 : Snd MX0_strike 71 (xInc 74 6 (nI 1)) := snd_iinc (M := MX0_strike) (pc := 71) dX0_strike_71 (by decide +kernel) (by decide)
theorem sX0_strike_74 : Snd MX0_strike 74 (xGo 10) := snd_goto (M := MX0_strike) (pc := 74) dX0_strike_74 (by decide)
theorem sX0_strike_77 : Snd MX0_strike 77 (xLdI 79 4) := snd_iload (M := MX0_strike) (pc := 77) dX0_strike_77
theorem sX0_strike_79 : Snd MX0_strike 79 (xRet) := snd_iret (M := MX0_strike) (pc := 79) dX0_strike_79 rfl
theorem VX0_strike : Valid MX0_strike LX0_strike := va_lid sX0_strike_0 (va_lid sX0_strike_2 (va_lid sX0_strike_4 (va_lid sX0_strike_5 (va_lid sX0_strike_7 (va_lid sX0_strike_8 (va_lid sX0_strike_10 (va_lid sX0_strike_12 (va_lid sX0_strike_13 (va_lid sX0_strike_16 (va_lid sX0_strike_19 (va_lid sX0_strike_20 (va_lid sX0_strike_22 (va_lid sX0_strike_25 (va_lid sX0_strike_28 (va_lid sX0_strike_29 (va_lid sX0_strike_30 (va_lid sX0_strike_33 (va_lid sX0_strike_34 (va_lid sX0_strike_35 (va_lid sX0_strike_37 (va_lid sX0_strike_38 (va_lid sX0_strike_39 (va_lid sX0_strike_40 (va_lid sX0_strike_41 (va_lid sX0_strike_44 (va_lid sX0_strike_47 (va_lid sX0_strike_49 (va_lid sX0_strike_51 (va_lid sX0_strike_53 (va_lid sX0_strike_56 (va_lid sX0_strike_58 (va_lid sX0_strike_60 (va_lid sX0_strike_63 (va_lid sX0_strike_65 (va_lid sX0_strike_67 (va_lid sX0_strike_69 (va_lid sX0_strike_71 (va_lid sX0_strike_74 (va_lid sX0_strike_77 (va_lid sX0_strike_79 (va_lid0)))))))))))))))))))))))))))))))))))))))))
theorem kX0_strike_0 : lk LX0_strike 0 = some (xK 2 ((-4))) := rfl
theorem kX0_strike_2 : lk LX0_strike 2 = some (xStI 4 4) := rfl
theorem kX0_strike_4 : lk LX0_strike 4 = some (xK 5 (nI 0)) := rfl
theorem kX0_strike_5 : lk LX0_strike 5 = some (xStI 7 5) := rfl
theorem kX0_strike_7 : lk LX0_strike 7 = some (xK 8 (nI 0)) := rfl
theorem kX0_strike_8 : lk LX0_strike 8 = some (xStI 10 6) := rfl
theorem kX0_strike_10 : lk LX0_strike 10 = some (xLdI 12 6) := rfl
theorem kX0_strike_12 : lk LX0_strike 12 = some (xLdA 13 1) := rfl
theorem kX0_strike_13 : lk LX0_strike 13 = some (xGf 16 3 3) := rfl
theorem kX0_strike_16 : lk LX0_strike 16 = some (xC_ge 77 19) := rfl
theorem kX0_strike_19 : lk LX0_strike 19 = some (xLdI 20 2) := rfl
theorem kX0_strike_20 : lk LX0_strike 20 = some (xLdI 22 6) := rfl
theorem kX0_strike_22 : lk LX0_strike 22 = some (xCallS MX5_has 2 25) := rfl
theorem kX0_strike_25 : lk LX0_strike 25 = some (xZ_eq 71 28) := rfl
theorem kX0_strike_28 : lk LX0_strike 28 = some (xLdA 29 3) := rfl
theorem kX0_strike_29 : lk LX0_strike 29 = some (xLdA 30 0) := rfl
theorem kX0_strike_30 : lk LX0_strike 30 = some (xGf 33 0 1) := rfl
theorem kX0_strike_33 : lk LX0_strike 33 = some (xLdI 34 2) := rfl
theorem kX0_strike_34 : lk LX0_strike 34 = some (xK 35 (nI 1)) := rfl
theorem kX0_strike_35 : lk LX0_strike 35 = some (xLdI 37 6) := rfl
theorem kX0_strike_37 : lk LX0_strike 37 = some (xBin 38 f_ishl) := rfl
theorem kX0_strike_38 : lk LX0_strike 38 = some (xK 39 ((-1))) := rfl
theorem kX0_strike_39 : lk LX0_strike 39 = some (xBin 40 f_ixor) := rfl
theorem kX0_strike_40 : lk LX0_strike 40 = some (xBin 41 f_iand) := rfl
theorem kX0_strike_41 : lk LX0_strike 41 = some (xCallS MX5_at 2 44) := rfl
theorem kX0_strike_44 : lk LX0_strike 44 = some (xCallS MX5_at 2 47) := rfl
theorem kX0_strike_47 : lk LX0_strike 47 = some (xStI 49 7) := rfl
theorem kX0_strike_49 : lk LX0_strike 49 = some (xLdI 51 4) := rfl
theorem kX0_strike_51 : lk LX0_strike 51 = some (xK 53 ((-4))) := rfl
theorem kX0_strike_53 : lk LX0_strike 53 = some (xC_eq 63 56) := rfl
theorem kX0_strike_56 : lk LX0_strike 56 = some (xLdI 58 7) := rfl
theorem kX0_strike_58 : lk LX0_strike 58 = some (xLdI 60 5) := rfl
theorem kX0_strike_60 : lk LX0_strike 60 = some (xC_le 71 63) := rfl
theorem kX0_strike_63 : lk LX0_strike 63 = some (xLdI 65 6) := rfl
theorem kX0_strike_65 : lk LX0_strike 65 = some (xStI 67 4) := rfl
theorem kX0_strike_67 : lk LX0_strike 67 = some (xLdI 69 7) := rfl
theorem kX0_strike_69 : lk LX0_strike 69 = some (xStI 71 5) := rfl
theorem kX0_strike_71 : lk LX0_strike 71 = some (xInc 74 6 (nI 1)) := rfl
theorem kX0_strike_74 : lk LX0_strike 74 = some (xGo 10) := rfl
theorem kX0_strike_77 : lk LX0_strike 77 = some (xLdI 79 4) := rfl
theorem kX0_strike_79 : lk LX0_strike 79 = some (xRet) := rfl
def LX1_init : List (Nat × XI) := [(0, xLdA 1 0),
  (1, xObj 4),
  (4, xRetV)]
theorem sX1_init_0 : Snd MX1_init 0 (xLdA 1 0) := snd_aload_n (M := MX1_init) (pc := 0) dX1_init_0
theorem sX1_init_1 : Snd MX1_init 1 (xObj 4) := snd_obj (M := MX1_init) (pc := 1) dX1_init_1 w164 w74 w75 (by decide)
theorem sX1_init_4 : Snd MX1_init 4 (xRetV) := snd_vret (M := MX1_init) (pc := 4) dX1_init_4 rfl
theorem VX1_init : Valid MX1_init LX1_init := va_lid sX1_init_0 (va_lid sX1_init_1 (va_lid sX1_init_4 (va_lid0)))
theorem kX1_init_0 : lk LX1_init 0 = some (xLdA 1 0) := rfl
theorem kX1_init_1 : lk LX1_init 1 = some (xObj 4) := rfl
theorem kX1_init_4 : lk LX1_init 4 = some (xRetV) := rfl
def LX1_begin : List (Nat × XI) := [(0, xLdA 1 0),
  (1, xK 2 (nI 0)),
  (2, xPfI 5 1 0),
  (5, xLdA 6 0),
  (6, xK 7 (nI 0)),
  (7, xPfI 10 1 1),
  (10, xLdA 11 0),
  (11, xLdA 12 1),
  (12, xGf 15 3 1),
  (15, xPfI 18 1 2),
  (18, xLdA 19 0),
  (19, xK 20 (nI 0)),
  (20, xPfI 23 1 3),
  (23, xRetV)]
theorem sX1_begin_0 : Snd MX1_begin 0 (xLdA 1 0) := snd_aload_n (M := MX1_begin) (pc := 0) dX1_begin_0
theorem sX1_begin_1 : Snd MX1_begin 1 (xK 2 (nI 0)) := snd_iconst (M := MX1_begin) (pc := 1) dX1_begin_1 (by decide +kernel)
theorem sX1_begin_2 : Snd MX1_begin 2 (xPfI 5 1 0) := snd_pfI (M := MX1_begin) (pc := 2) (C0 := RX1) (T0 := TX1) (N := 4) dX1_begin_2 rfl tbX1 tyX1 tyX1_ok nmX1 (by decide) w165 rfl (by decide +kernel)
theorem sX1_begin_5 : Snd MX1_begin 5 (xLdA 6 0) := snd_aload_n (M := MX1_begin) (pc := 5) dX1_begin_5
theorem sX1_begin_6 : Snd MX1_begin 6 (xK 7 (nI 0)) := snd_iconst (M := MX1_begin) (pc := 6) dX1_begin_6 (by decide +kernel)
theorem sX1_begin_7 : Snd MX1_begin 7 (xPfI 10 1 1) := snd_pfI (M := MX1_begin) (pc := 7) (C0 := RX1) (T0 := TX1) (N := 4) dX1_begin_7 rfl tbX1 tyX1 tyX1_ok nmX1 (by decide) w166 rfl (by decide +kernel)
theorem sX1_begin_10 : Snd MX1_begin 10 (xLdA 11 0) := snd_aload_n (M := MX1_begin) (pc := 10) dX1_begin_10
theorem sX1_begin_11 : Snd MX1_begin 11 (xLdA 12 1) := snd_aload_n (M := MX1_begin) (pc := 11) dX1_begin_11
theorem sX1_begin_12 : Snd MX1_begin 12 (xGf 15 3 1) := snd_gf (M := MX1_begin) (pc := 12) (C0 := RX3) (T0 := TX3) (N := 14) dX1_begin_12 rfl tbX3 (by decide) w167
theorem sX1_begin_15 : Snd MX1_begin 15 (xPfI 18 1 2) := snd_pfI (M := MX1_begin) (pc := 15) (C0 := RX1) (T0 := TX1) (N := 4) dX1_begin_15 rfl tbX1 tyX1 tyX1_ok nmX1 (by decide) w168 rfl (by decide +kernel)
theorem sX1_begin_18 : Snd MX1_begin 18 (xLdA 19 0) := snd_aload_n (M := MX1_begin) (pc := 18) dX1_begin_18
theorem sX1_begin_19 : Snd MX1_begin 19 (xK 20 (nI 0)) := snd_iconst (M := MX1_begin) (pc := 19) dX1_begin_19 (by decide +kernel)
theorem sX1_begin_20 : Snd MX1_begin 20 (xPfI 23 1 3) := snd_pfI (M := MX1_begin) (pc := 20) (C0 := RX1) (T0 := TX1) (N := 4) dX1_begin_20 rfl tbX1 tyX1 tyX1_ok nmX1 (by decide) w169 rfl (by decide +kernel)
theorem sX1_begin_23 : Snd MX1_begin 23 (xRetV) := snd_vret (M := MX1_begin) (pc := 23) dX1_begin_23 rfl
theorem VX1_begin : Valid MX1_begin LX1_begin := va_lid sX1_begin_0 (va_lid sX1_begin_1 (va_lid sX1_begin_2 (va_lid sX1_begin_5 (va_lid sX1_begin_6 (va_lid sX1_begin_7 (va_lid sX1_begin_10 (va_lid sX1_begin_11 (va_lid sX1_begin_12 (va_lid sX1_begin_15 (va_lid sX1_begin_18 (va_lid sX1_begin_19 (va_lid sX1_begin_20 (va_lid sX1_begin_23 (va_lid0))))))))))))))
theorem kX1_begin_0 : lk LX1_begin 0 = some (xLdA 1 0) := rfl
theorem kX1_begin_1 : lk LX1_begin 1 = some (xK 2 (nI 0)) := rfl
theorem kX1_begin_2 : lk LX1_begin 2 = some (xPfI 5 1 0) := rfl
theorem kX1_begin_5 : lk LX1_begin 5 = some (xLdA 6 0) := rfl
theorem kX1_begin_6 : lk LX1_begin 6 = some (xK 7 (nI 0)) := rfl
theorem kX1_begin_7 : lk LX1_begin 7 = some (xPfI 10 1 1) := rfl
theorem kX1_begin_10 : lk LX1_begin 10 = some (xLdA 11 0) := rfl
theorem kX1_begin_11 : lk LX1_begin 11 = some (xLdA 12 1) := rfl
theorem kX1_begin_12 : lk LX1_begin 12 = some (xGf 15 3 1) := rfl
theorem kX1_begin_15 : lk LX1_begin 15 = some (xPfI 18 1 2) := rfl
theorem kX1_begin_18 : lk LX1_begin 18 = some (xLdA 19 0) := rfl
theorem kX1_begin_19 : lk LX1_begin 19 = some (xK 20 (nI 0)) := rfl
theorem kX1_begin_20 : lk LX1_begin 20 = some (xPfI 23 1 3) := rfl
theorem kX1_begin_23 : lk LX1_begin 23 = some (xRetV) := rfl
def LX1_copy : List (Nat × XI) := [(0, xLdA 1 0),
  (1, xLdA 2 1),
  (2, xGf 5 1 0),
  (5, xPfI 8 1 0),
  (8, xLdA 9 0),
  (9, xLdA 10 1),
  (10, xGf 13 1 1),
  (13, xPfI 16 1 1),
  (16, xLdA 17 0),
  (17, xLdA 18 1),
  (18, xGf 21 1 2),
  (21, xPfI 24 1 2),
  (24, xLdA 25 0),
  (25, xLdA 26 1),
  (26, xGf 29 1 3),
  (29, xPfI 32 1 3),
  (32, xRetV)]
theorem sX1_copy_0 : Snd MX1_copy 0 (xLdA 1 0) := snd_aload_n (M := MX1_copy) (pc := 0) dX1_copy_0
theorem sX1_copy_1 : Snd MX1_copy 1 (xLdA 2 1) := snd_aload_n (M := MX1_copy) (pc := 1) dX1_copy_1
theorem sX1_copy_2 : Snd MX1_copy 2 (xGf 5 1 0) := snd_gf (M := MX1_copy) (pc := 2) (C0 := RX1) (T0 := TX1) (N := 4) dX1_copy_2 rfl tbX1 (by decide) w165
theorem sX1_copy_5 : Snd MX1_copy 5 (xPfI 8 1 0) := snd_pfI (M := MX1_copy) (pc := 5) (C0 := RX1) (T0 := TX1) (N := 4) dX1_copy_5 rfl tbX1 tyX1 tyX1_ok nmX1 (by decide) w165 rfl (by decide +kernel)
theorem sX1_copy_8 : Snd MX1_copy 8 (xLdA 9 0) := snd_aload_n (M := MX1_copy) (pc := 8) dX1_copy_8
theorem sX1_copy_9 : Snd MX1_copy 9 (xLdA 10 1) := snd_aload_n (M := MX1_copy) (pc := 9) dX1_copy_9
theorem sX1_copy_10 : Snd MX1_copy 10 (xGf 13 1 1) := snd_gf (M := MX1_copy) (pc := 10) (C0 := RX1) (T0 := TX1) (N := 4) dX1_copy_10 rfl tbX1 (by decide) w166
theorem sX1_copy_13 : Snd MX1_copy 13 (xPfI 16 1 1) := snd_pfI (M := MX1_copy) (pc := 13) (C0 := RX1) (T0 := TX1) (N := 4) dX1_copy_13 rfl tbX1 tyX1 tyX1_ok nmX1 (by decide) w166 rfl (by decide +kernel)
theorem sX1_copy_16 : Snd MX1_copy 16 (xLdA 17 0) := snd_aload_n (M := MX1_copy) (pc := 16) dX1_copy_16
theorem sX1_copy_17 : Snd MX1_copy 17 (xLdA 18 1) := snd_aload_n (M := MX1_copy) (pc := 17) dX1_copy_17
theorem sX1_copy_18 : Snd MX1_copy 18 (xGf 21 1 2) := snd_gf (M := MX1_copy) (pc := 18) (C0 := RX1) (T0 := TX1) (N := 4) dX1_copy_18 rfl tbX1 (by decide) w168
theorem sX1_copy_21 : Snd MX1_copy 21 (xPfI 24 1 2) := snd_pfI (M := MX1_copy) (pc := 21) (C0 := RX1) (T0 := TX1) (N := 4) dX1_copy_21 rfl tbX1 tyX1 tyX1_ok nmX1 (by decide) w168 rfl (by decide +kernel)
theorem sX1_copy_24 : Snd MX1_copy 24 (xLdA 25 0) := snd_aload_n (M := MX1_copy) (pc := 24) dX1_copy_24
theorem sX1_copy_25 : Snd MX1_copy 25 (xLdA 26 1) := snd_aload_n (M := MX1_copy) (pc := 25) dX1_copy_25
theorem sX1_copy_26 : Snd MX1_copy 26 (xGf 29 1 3) := snd_gf (M := MX1_copy) (pc := 26) (C0 := RX1) (T0 := TX1) (N := 4) dX1_copy_26 rfl tbX1 (by decide) w169
theorem sX1_copy_29 : Snd MX1_copy 29 (xPfI 32 1 3) := snd_pfI (M := MX1_copy) (pc := 29) (C0 := RX1) (T0 := TX1) (N := 4) dX1_copy_29 rfl tbX1 tyX1 tyX1_ok nmX1 (by decide) w169 rfl (by decide +kernel)
theorem sX1_copy_32 : Snd MX1_copy 32 (xRetV) := snd_vret (M := MX1_copy) (pc := 32) dX1_copy_32 rfl
theorem VX1_copy : Valid MX1_copy LX1_copy := va_lid sX1_copy_0 (va_lid sX1_copy_1 (va_lid sX1_copy_2 (va_lid sX1_copy_5 (va_lid sX1_copy_8 (va_lid sX1_copy_9 (va_lid sX1_copy_10 (va_lid sX1_copy_13 (va_lid sX1_copy_16 (va_lid sX1_copy_17 (va_lid sX1_copy_18 (va_lid sX1_copy_21 (va_lid sX1_copy_24 (va_lid sX1_copy_25 (va_lid sX1_copy_26 (va_lid sX1_copy_29 (va_lid sX1_copy_32 (va_lid0)))))))))))))))))
theorem kX1_copy_0 : lk LX1_copy 0 = some (xLdA 1 0) := rfl
theorem kX1_copy_1 : lk LX1_copy 1 = some (xLdA 2 1) := rfl
theorem kX1_copy_2 : lk LX1_copy 2 = some (xGf 5 1 0) := rfl
theorem kX1_copy_5 : lk LX1_copy 5 = some (xPfI 8 1 0) := rfl
theorem kX1_copy_8 : lk LX1_copy 8 = some (xLdA 9 0) := rfl
theorem kX1_copy_9 : lk LX1_copy 9 = some (xLdA 10 1) := rfl
theorem kX1_copy_10 : lk LX1_copy 10 = some (xGf 13 1 1) := rfl
theorem kX1_copy_13 : lk LX1_copy 13 = some (xPfI 16 1 1) := rfl
theorem kX1_copy_16 : lk LX1_copy 16 = some (xLdA 17 0) := rfl
theorem kX1_copy_17 : lk LX1_copy 17 = some (xLdA 18 1) := rfl
theorem kX1_copy_18 : lk LX1_copy 18 = some (xGf 21 1 2) := rfl
theorem kX1_copy_21 : lk LX1_copy 21 = some (xPfI 24 1 2) := rfl
theorem kX1_copy_24 : lk LX1_copy 24 = some (xLdA 25 0) := rfl
theorem kX1_copy_25 : lk LX1_copy 25 = some (xLdA 26 1) := rfl
theorem kX1_copy_26 : lk LX1_copy 26 = some (xGf 29 1 3) := rfl
theorem kX1_copy_29 : lk LX1_copy 29 = some (xPfI 32 1 3) := rfl
theorem kX1_copy_32 : lk LX1_copy 32 = some (xRetV) := rfl
def LX1_canPutBy : List (Nat × XI) := [(0, xLdA 1 0),
  (1, xGf 4 1 0),
  (4, xLdI 5 2),
  (5, xCallS MX5_has 2 8),
  (8, xZ_ne 49 11),
  (11, xLdA 12 1),
  (12, xGf 15 3 9),
  (15, xLdI 16 2),
  (16, xCallS MX5_at 2 19),
  (19, xLdA 20 0),
  (20, xGf 23 1 2),
  (23, xC_gt 49 26),
  (26, xLdA 27 1),
  (27, xLdA 28 0),
  (28, xGf 31 1 0),
  (31, xK 32 (nI 1)),
  (32, xLdI 33 2),
  (33, xBin 34 f_ishl),
  (34, xBin 35 f_ior),
  (35, xCallV MX3_roomTaken 3 1 38),
  (38, xLdA 39 1),
  (39, xGf 42 3 0),
  (42, xC_gt 49 45),
  (45, xK 46 (nI 1)),
  (46, xGo 50),
  (49, xK 50 (nI 0)),
  (50, xRetZ)]
theorem sX1_canPutBy_0 : Snd MX1_canPutBy 0 (xLdA 1 0) := snd_aload_n (M := MX1_canPutBy) (pc := 0) dX1_canPutBy_0
theorem sX1_canPutBy_1 : Snd MX1_canPutBy 1 (xGf 4 1 0) := snd_gf (M := MX1_canPutBy) (pc := 1) (C0 := RX1) (T0 := TX1) (N := 4) dX1_canPutBy_1 rfl tbX1 (by decide) w165
theorem sX1_canPutBy_4 : Snd MX1_canPutBy 4 (xLdI 5 2) := snd_iload_n (M := MX1_canPutBy) (pc := 4) dX1_canPutBy_4
theorem sX1_canPutBy_5 : Snd MX1_canPutBy 5 (xCallS MX5_has 2 8) := snd_callSN (M := MX1_canPutBy) (pc := 5) (n := 2) dX1_canPutBy_5 nt6 w117 ⟨w115, w116, ⟨by decide, by decide, by decide +kernel⟩, by decide⟩ ⟨rfl, rfl⟩
theorem sX1_canPutBy_8 : Snd MX1_canPutBy 8 (xZ_ne 49 11) := snd_if_ne (M := MX1_canPutBy) (pc := 8) dX1_canPutBy_8 (by decide)
theorem sX1_canPutBy_11 : Snd MX1_canPutBy 11 (xLdA 12 1) := snd_aload_n (M := MX1_canPutBy) (pc := 11) dX1_canPutBy_11
theorem sX1_canPutBy_12 : Snd MX1_canPutBy 12 (xGf 15 3 9) := snd_gf (M := MX1_canPutBy) (pc := 12) (C0 := RX3) (T0 := TX3) (N := 14) dX1_canPutBy_12 rfl tbX3 (by decide) w170
theorem sX1_canPutBy_15 : Snd MX1_canPutBy 15 (xLdI 16 2) := snd_iload_n (M := MX1_canPutBy) (pc := 15) dX1_canPutBy_15
theorem sX1_canPutBy_16 : Snd MX1_canPutBy 16 (xCallS MX5_at 2 19) := snd_callSN (M := MX1_canPutBy) (pc := 16) (n := 2) dX1_canPutBy_16 nt7 w123 ⟨w115, w122, ⟨by decide, by decide, by decide +kernel⟩, by decide⟩ ⟨rfl, rfl⟩
theorem sX1_canPutBy_19 : Snd MX1_canPutBy 19 (xLdA 20 0) := snd_aload_n (M := MX1_canPutBy) (pc := 19) dX1_canPutBy_19
theorem sX1_canPutBy_20 : Snd MX1_canPutBy 20 (xGf 23 1 2) := snd_gf (M := MX1_canPutBy) (pc := 20) (C0 := RX1) (T0 := TX1) (N := 4) dX1_canPutBy_20 rfl tbX1 (by decide) w168
theorem sX1_canPutBy_23 : Snd MX1_canPutBy 23 (xC_gt 49 26) := snd_icmp_gt (M := MX1_canPutBy) (pc := 23) dX1_canPutBy_23 (by decide)
theorem sX1_canPutBy_26 : Snd MX1_canPutBy 26 (xLdA 27 1) := snd_aload_n (M := MX1_canPutBy) (pc := 26) dX1_canPutBy_26
theorem sX1_canPutBy_27 : Snd MX1_canPutBy 27 (xLdA 28 0) := snd_aload_n (M := MX1_canPutBy) (pc := 27) dX1_canPutBy_27
theorem sX1_canPutBy_28 : Snd MX1_canPutBy 28 (xGf 31 1 0) := snd_gf (M := MX1_canPutBy) (pc := 28) (C0 := RX1) (T0 := TX1) (N := 4) dX1_canPutBy_28 rfl tbX1 (by decide) w165
theorem sX1_canPutBy_31 : Snd MX1_canPutBy 31 (xK 32 (nI 1)) := snd_iconst (M := MX1_canPutBy) (pc := 31) dX1_canPutBy_31 (by decide +kernel)
theorem sX1_canPutBy_32 : Snd MX1_canPutBy 32 (xLdI 33 2) := snd_iload_n (M := MX1_canPutBy) (pc := 32) dX1_canPutBy_32
theorem sX1_canPutBy_33 : Snd MX1_canPutBy 33 (xBin 34 f_ishl) := snd_ishl (M := MX1_canPutBy) (pc := 33) dX1_canPutBy_33
theorem sX1_canPutBy_34 : Snd MX1_canPutBy 34 (xBin 35 f_ior) := snd_ior (M := MX1_canPutBy) (pc := 34) dX1_canPutBy_34
theorem sX1_canPutBy_35 : Snd MX1_canPutBy 35 (xCallV MX3_roomTaken 3 1 38) := snd_callV (M := MX1_canPutBy) (pc := 35) (n := 1) dX1_canPutBy_35 rfl w171 w94 w95 ⟨w83, w92, ⟨by decide, by decide, by decide +kernel⟩, by decide⟩ ⟨rfl, rfl⟩
theorem sX1_canPutBy_38 : Snd MX1_canPutBy 38 (xLdA 39 1) := snd_aload_n (M := MX1_canPutBy) (pc := 38) dX1_canPutBy_38
theorem sX1_canPutBy_39 : Snd MX1_canPutBy 39 (xGf 42 3 0) := snd_gf (M := MX1_canPutBy) (pc := 39) (C0 := RX3) (T0 := TX3) (N := 14) dX1_canPutBy_39 rfl tbX3 (by decide) w172
theorem sX1_canPutBy_42 : Snd MX1_canPutBy 42 (xC_gt 49 45) := snd_icmp_gt (M := MX1_canPutBy) (pc := 42) dX1_canPutBy_42 (by decide)
theorem sX1_canPutBy_45 : Snd MX1_canPutBy 45 (xK 46 (nI 1)) := snd_iconst (M := MX1_canPutBy) (pc := 45) dX1_canPutBy_45 (by decide +kernel)
theorem sX1_canPutBy_46 : Snd MX1_canPutBy 46 (xGo 50) := snd_goto (M := MX1_canPutBy) (pc := 46) dX1_canPutBy_46 (by decide)
theorem sX1_canPutBy_49 : Snd MX1_canPutBy 49 (xK 50 (nI 0)) := snd_iconst (M := MX1_canPutBy) (pc := 49) dX1_canPutBy_49 (by decide +kernel)
theorem sX1_canPutBy_50 : Snd MX1_canPutBy 50 (xRetZ) := snd_zret (M := MX1_canPutBy) (pc := 50) dX1_canPutBy_50 rfl
theorem VX1_canPutBy : Valid MX1_canPutBy LX1_canPutBy := va_lid sX1_canPutBy_0 (va_lid sX1_canPutBy_1 (va_lid sX1_canPutBy_4 (va_lid sX1_canPutBy_5 (va_lid sX1_canPutBy_8 (va_lid sX1_canPutBy_11 (va_lid sX1_canPutBy_12 (va_lid sX1_canPutBy_15 (va_lid sX1_canPutBy_16 (va_lid sX1_canPutBy_19 (va_lid sX1_canPutBy_20 (va_lid sX1_canPutBy_23 (va_lid sX1_canPutBy_26 (va_lid sX1_canPutBy_27 (va_lid sX1_canPutBy_28 (va_lid sX1_canPutBy_31 (va_lid sX1_canPutBy_32 (va_lid sX1_canPutBy_33 (va_lid sX1_canPutBy_34 (va_lid sX1_canPutBy_35 (va_lid sX1_canPutBy_38 (va_lid sX1_canPutBy_39 (va_lid sX1_canPutBy_42 (va_lid sX1_canPutBy_45 (va_lid sX1_canPutBy_46 (va_lid sX1_canPutBy_49 (va_lid sX1_canPutBy_50 (va_lid0)))))))))))))))))))))))))))
theorem kX1_canPutBy_0 : lk LX1_canPutBy 0 = some (xLdA 1 0) := rfl
theorem kX1_canPutBy_1 : lk LX1_canPutBy 1 = some (xGf 4 1 0) := rfl
theorem kX1_canPutBy_4 : lk LX1_canPutBy 4 = some (xLdI 5 2) := rfl
theorem kX1_canPutBy_5 : lk LX1_canPutBy 5 = some (xCallS MX5_has 2 8) := rfl
theorem kX1_canPutBy_8 : lk LX1_canPutBy 8 = some (xZ_ne 49 11) := rfl
theorem kX1_canPutBy_11 : lk LX1_canPutBy 11 = some (xLdA 12 1) := rfl
theorem kX1_canPutBy_12 : lk LX1_canPutBy 12 = some (xGf 15 3 9) := rfl
theorem kX1_canPutBy_15 : lk LX1_canPutBy 15 = some (xLdI 16 2) := rfl
theorem kX1_canPutBy_16 : lk LX1_canPutBy 16 = some (xCallS MX5_at 2 19) := rfl
theorem kX1_canPutBy_19 : lk LX1_canPutBy 19 = some (xLdA 20 0) := rfl
theorem kX1_canPutBy_20 : lk LX1_canPutBy 20 = some (xGf 23 1 2) := rfl
theorem kX1_canPutBy_23 : lk LX1_canPutBy 23 = some (xC_gt 49 26) := rfl
theorem kX1_canPutBy_26 : lk LX1_canPutBy 26 = some (xLdA 27 1) := rfl
theorem kX1_canPutBy_27 : lk LX1_canPutBy 27 = some (xLdA 28 0) := rfl
theorem kX1_canPutBy_28 : lk LX1_canPutBy 28 = some (xGf 31 1 0) := rfl
theorem kX1_canPutBy_31 : lk LX1_canPutBy 31 = some (xK 32 (nI 1)) := rfl
theorem kX1_canPutBy_32 : lk LX1_canPutBy 32 = some (xLdI 33 2) := rfl
theorem kX1_canPutBy_33 : lk LX1_canPutBy 33 = some (xBin 34 f_ishl) := rfl
theorem kX1_canPutBy_34 : lk LX1_canPutBy 34 = some (xBin 35 f_ior) := rfl
theorem kX1_canPutBy_35 : lk LX1_canPutBy 35 = some (xCallV MX3_roomTaken 3 1 38) := rfl
theorem kX1_canPutBy_38 : lk LX1_canPutBy 38 = some (xLdA 39 1) := rfl
theorem kX1_canPutBy_39 : lk LX1_canPutBy 39 = some (xGf 42 3 0) := rfl
theorem kX1_canPutBy_42 : lk LX1_canPutBy 42 = some (xC_gt 49 45) := rfl
theorem kX1_canPutBy_45 : lk LX1_canPutBy 45 = some (xK 46 (nI 1)) := rfl
theorem kX1_canPutBy_46 : lk LX1_canPutBy 46 = some (xGo 50) := rfl
theorem kX1_canPutBy_49 : lk LX1_canPutBy 49 = some (xK 50 (nI 0)) := rfl
theorem kX1_canPutBy_50 : lk LX1_canPutBy 50 = some (xRetZ) := rfl
def LX1_putBy : List (Nat × XI) := [(0, xLdA 1 0),
  (1, xDup 2),
  (2, xGf 5 1 0),
  (5, xK 6 (nI 1)),
  (6, xLdI 7 2),
  (7, xBin 8 f_ishl),
  (8, xBin 9 f_ior),
  (9, xPfI 12 1 0),
  (12, xLdA 13 0),
  (13, xDup 14),
  (14, xGf 17 1 2),
  (17, xLdA 18 1),
  (18, xGf 21 3 9),
  (21, xLdI 22 2),
  (22, xCallS MX5_at 2 25),
  (25, xBin 26 f_isub),
  (26, xPfI 29 1 2),
  (29, xRetV)]
theorem sX1_putBy_0 : Snd MX1_putBy 0 (xLdA 1 0) := snd_aload_n (M := MX1_putBy) (pc := 0) dX1_putBy_0
theorem sX1_putBy_1 : Snd MX1_putBy 1 (xDup 2) := snd_dup (M := MX1_putBy) (pc := 1) dX1_putBy_1
theorem sX1_putBy_2 : Snd MX1_putBy 2 (xGf 5 1 0) := snd_gf (M := MX1_putBy) (pc := 2) (C0 := RX1) (T0 := TX1) (N := 4) dX1_putBy_2 rfl tbX1 (by decide) w165
theorem sX1_putBy_5 : Snd MX1_putBy 5 (xK 6 (nI 1)) := snd_iconst (M := MX1_putBy) (pc := 5) dX1_putBy_5 (by decide +kernel)
theorem sX1_putBy_6 : Snd MX1_putBy 6 (xLdI 7 2) := snd_iload_n (M := MX1_putBy) (pc := 6) dX1_putBy_6
theorem sX1_putBy_7 : Snd MX1_putBy 7 (xBin 8 f_ishl) := snd_ishl (M := MX1_putBy) (pc := 7) dX1_putBy_7
theorem sX1_putBy_8 : Snd MX1_putBy 8 (xBin 9 f_ior) := snd_ior (M := MX1_putBy) (pc := 8) dX1_putBy_8
theorem sX1_putBy_9 : Snd MX1_putBy 9 (xPfI 12 1 0) := snd_pfI (M := MX1_putBy) (pc := 9) (C0 := RX1) (T0 := TX1) (N := 4) dX1_putBy_9 rfl tbX1 tyX1 tyX1_ok nmX1 (by decide) w165 rfl (by decide +kernel)
theorem sX1_putBy_12 : Snd MX1_putBy 12 (xLdA 13 0) := snd_aload_n (M := MX1_putBy) (pc := 12) dX1_putBy_12
theorem sX1_putBy_13 : Snd MX1_putBy 13 (xDup 14) := snd_dup (M := MX1_putBy) (pc := 13) dX1_putBy_13
theorem sX1_putBy_14 : Snd MX1_putBy 14 (xGf 17 1 2) := snd_gf (M := MX1_putBy) (pc := 14) (C0 := RX1) (T0 := TX1) (N := 4) dX1_putBy_14 rfl tbX1 (by decide) w168
theorem sX1_putBy_17 : Snd MX1_putBy 17 (xLdA 18 1) := snd_aload_n (M := MX1_putBy) (pc := 17) dX1_putBy_17
theorem sX1_putBy_18 : Snd MX1_putBy 18 (xGf 21 3 9) := snd_gf (M := MX1_putBy) (pc := 18) (C0 := RX3) (T0 := TX3) (N := 14) dX1_putBy_18 rfl tbX3 (by decide) w170
theorem sX1_putBy_21 : Snd MX1_putBy 21 (xLdI 22 2) := snd_iload_n (M := MX1_putBy) (pc := 21) dX1_putBy_21
theorem sX1_putBy_22 : Snd MX1_putBy 22 (xCallS MX5_at 2 25) := snd_callSN (M := MX1_putBy) (pc := 22) (n := 2) dX1_putBy_22 nt7 w123 ⟨w115, w122, ⟨by decide, by decide, by decide +kernel⟩, by decide⟩ ⟨rfl, rfl⟩
theorem sX1_putBy_25 : Snd MX1_putBy 25 (xBin 26 f_isub) := snd_isub (M := MX1_putBy) (pc := 25) dX1_putBy_25
theorem sX1_putBy_26 : Snd MX1_putBy 26 (xPfI 29 1 2) := snd_pfI (M := MX1_putBy) (pc := 26) (C0 := RX1) (T0 := TX1) (N := 4) dX1_putBy_26 rfl tbX1 tyX1 tyX1_ok nmX1 (by decide) w168 rfl (by decide +kernel)
theorem sX1_putBy_29 : Snd MX1_putBy 29 (xRetV) := snd_vret (M := MX1_putBy) (pc := 29) dX1_putBy_29 rfl
theorem VX1_putBy : Valid MX1_putBy LX1_putBy := va_lid sX1_putBy_0 (va_lid sX1_putBy_1 (va_lid sX1_putBy_2 (va_lid sX1_putBy_5 (va_lid sX1_putBy_6 (va_lid sX1_putBy_7 (va_lid sX1_putBy_8 (va_lid sX1_putBy_9 (va_lid sX1_putBy_12 (va_lid sX1_putBy_13 (va_lid sX1_putBy_14 (va_lid sX1_putBy_17 (va_lid sX1_putBy_18 (va_lid sX1_putBy_21 (va_lid sX1_putBy_22 (va_lid sX1_putBy_25 (va_lid sX1_putBy_26 (va_lid sX1_putBy_29 (va_lid0))))))))))))))))))
theorem kX1_putBy_0 : lk LX1_putBy 0 = some (xLdA 1 0) := rfl
theorem kX1_putBy_1 : lk LX1_putBy 1 = some (xDup 2) := rfl
theorem kX1_putBy_2 : lk LX1_putBy 2 = some (xGf 5 1 0) := rfl
theorem kX1_putBy_5 : lk LX1_putBy 5 = some (xK 6 (nI 1)) := rfl
theorem kX1_putBy_6 : lk LX1_putBy 6 = some (xLdI 7 2) := rfl
theorem kX1_putBy_7 : lk LX1_putBy 7 = some (xBin 8 f_ishl) := rfl
theorem kX1_putBy_8 : lk LX1_putBy 8 = some (xBin 9 f_ior) := rfl
theorem kX1_putBy_9 : lk LX1_putBy 9 = some (xPfI 12 1 0) := rfl
theorem kX1_putBy_12 : lk LX1_putBy 12 = some (xLdA 13 0) := rfl
theorem kX1_putBy_13 : lk LX1_putBy 13 = some (xDup 14) := rfl
theorem kX1_putBy_14 : lk LX1_putBy 14 = some (xGf 17 1 2) := rfl
theorem kX1_putBy_17 : lk LX1_putBy 17 = some (xLdA 18 1) := rfl
theorem kX1_putBy_18 : lk LX1_putBy 18 = some (xGf 21 3 9) := rfl
theorem kX1_putBy_21 : lk LX1_putBy 21 = some (xLdI 22 2) := rfl
theorem kX1_putBy_22 : lk LX1_putBy 22 = some (xCallS MX5_at 2 25) := rfl
theorem kX1_putBy_25 : lk LX1_putBy 25 = some (xBin 26 f_isub) := rfl
theorem kX1_putBy_26 : lk LX1_putBy 26 = some (xPfI 29 1 2) := rfl
theorem kX1_putBy_29 : lk LX1_putBy 29 = some (xRetV) := rfl
def LX1_takeOut : List (Nat × XI) := [(0, xLdA 1 0),
  (1, xDup 2),
  (2, xGf 5 1 0),
  (5, xK 6 (nI 1)),
  (6, xLdI 7 1),
  (7, xBin 8 f_ishl),
  (8, xK 9 ((-1))),
  (9, xBin 10 f_ixor),
  (10, xBin 11 f_iand),
  (11, xPfI 14 1 0),
  (14, xRetV)]
theorem sX1_takeOut_0 : Snd MX1_takeOut 0 (xLdA 1 0) := snd_aload_n (M := MX1_takeOut) (pc := 0) dX1_takeOut_0
theorem sX1_takeOut_1 : Snd MX1_takeOut 1 (xDup 2) := snd_dup (M := MX1_takeOut) (pc := 1) dX1_takeOut_1
theorem sX1_takeOut_2 : Snd MX1_takeOut 2 (xGf 5 1 0) := snd_gf (M := MX1_takeOut) (pc := 2) (C0 := RX1) (T0 := TX1) (N := 4) dX1_takeOut_2 rfl tbX1 (by decide) w165
theorem sX1_takeOut_5 : Snd MX1_takeOut 5 (xK 6 (nI 1)) := snd_iconst (M := MX1_takeOut) (pc := 5) dX1_takeOut_5 (by decide +kernel)
theorem sX1_takeOut_6 : Snd MX1_takeOut 6 (xLdI 7 1) := snd_iload_n (M := MX1_takeOut) (pc := 6) dX1_takeOut_6
theorem sX1_takeOut_7 : Snd MX1_takeOut 7 (xBin 8 f_ishl) := snd_ishl (M := MX1_takeOut) (pc := 7) dX1_takeOut_7
theorem sX1_takeOut_8 : Snd MX1_takeOut 8 (xK 9 ((-1))) := snd_iconst (M := MX1_takeOut) (pc := 8) dX1_takeOut_8 (by decide +kernel)
theorem sX1_takeOut_9 : Snd MX1_takeOut 9 (xBin 10 f_ixor) := snd_ixor (M := MX1_takeOut) (pc := 9) dX1_takeOut_9
theorem sX1_takeOut_10 : Snd MX1_takeOut 10 (xBin 11 f_iand) := snd_iand (M := MX1_takeOut) (pc := 10) dX1_takeOut_10
theorem sX1_takeOut_11 : Snd MX1_takeOut 11 (xPfI 14 1 0) := snd_pfI (M := MX1_takeOut) (pc := 11) (C0 := RX1) (T0 := TX1) (N := 4) dX1_takeOut_11 rfl tbX1 tyX1 tyX1_ok nmX1 (by decide) w165 rfl (by decide +kernel)
theorem sX1_takeOut_14 : Snd MX1_takeOut 14 (xRetV) := snd_vret (M := MX1_takeOut) (pc := 14) dX1_takeOut_14 rfl
theorem VX1_takeOut : Valid MX1_takeOut LX1_takeOut := va_lid sX1_takeOut_0 (va_lid sX1_takeOut_1 (va_lid sX1_takeOut_2 (va_lid sX1_takeOut_5 (va_lid sX1_takeOut_6 (va_lid sX1_takeOut_7 (va_lid sX1_takeOut_8 (va_lid sX1_takeOut_9 (va_lid sX1_takeOut_10 (va_lid sX1_takeOut_11 (va_lid sX1_takeOut_14 (va_lid0)))))))))))
theorem kX1_takeOut_0 : lk LX1_takeOut 0 = some (xLdA 1 0) := rfl
theorem kX1_takeOut_1 : lk LX1_takeOut 1 = some (xDup 2) := rfl
theorem kX1_takeOut_2 : lk LX1_takeOut 2 = some (xGf 5 1 0) := rfl
theorem kX1_takeOut_5 : lk LX1_takeOut 5 = some (xK 6 (nI 1)) := rfl
theorem kX1_takeOut_6 : lk LX1_takeOut 6 = some (xLdI 7 1) := rfl
theorem kX1_takeOut_7 : lk LX1_takeOut 7 = some (xBin 8 f_ishl) := rfl
theorem kX1_takeOut_8 : lk LX1_takeOut 8 = some (xK 9 ((-1))) := rfl
theorem kX1_takeOut_9 : lk LX1_takeOut 9 = some (xBin 10 f_ixor) := rfl
theorem kX1_takeOut_10 : lk LX1_takeOut 10 = some (xBin 11 f_iand) := rfl
theorem kX1_takeOut_11 : lk LX1_takeOut 11 = some (xPfI 14 1 0) := rfl
theorem kX1_takeOut_14 : lk LX1_takeOut 14 = some (xRetV) := rfl
def LX1_canBeLived : List (Nat × XI) := [(0, xLdA 1 0),
  (1, xGf 4 1 1),
  (4, xLdI 5 2),
  (5, xCallS MX5_has 2 8),
  (8, xZ_ne 27 11),
  (11, xLdA 12 1),
  (12, xLdI 13 2),
  (13, xLdA 14 0),
  (14, xGf 17 1 0),
  (17, xCallV MX3_canBe 3 2 20),
  (20, xZ_eq 27 23),
  (23, xK 24 (nI 1)),
  (24, xGo 28),
  (27, xK 28 (nI 0)),
  (28, xRetZ)]
theorem sX1_canBeLived_0 : Snd MX1_canBeLived 0 (xLdA 1 0) := snd_aload_n (M := MX1_canBeLived) (pc := 0) dX1_canBeLived_0
theorem sX1_canBeLived_1 : Snd MX1_canBeLived 1 (xGf 4 1 1) := snd_gf (M := MX1_canBeLived) (pc := 1) (C0 := RX1) (T0 := TX1) (N := 4) dX1_canBeLived_1 rfl tbX1 (by decide) w166
theorem sX1_canBeLived_4 : Snd MX1_canBeLived 4 (xLdI 5 2) := snd_iload_n (M := MX1_canBeLived) (pc := 4) dX1_canBeLived_4
theorem sX1_canBeLived_5 : Snd MX1_canBeLived 5 (xCallS MX5_has 2 8) := snd_callSN (M := MX1_canBeLived) (pc := 5) (n := 2) dX1_canBeLived_5 nt6 w117 ⟨w115, w116, ⟨by decide, by decide, by decide +kernel⟩, by decide⟩ ⟨rfl, rfl⟩
theorem sX1_canBeLived_8 : Snd MX1_canBeLived 8 (xZ_ne 27 11) := snd_if_ne (M := MX1_canBeLived) (pc := 8) dX1_canBeLived_8 (by decide)
theorem sX1_canBeLived_11 : Snd MX1_canBeLived 11 (xLdA 12 1) := snd_aload_n (M := MX1_canBeLived) (pc := 11) dX1_canBeLived_11
theorem sX1_canBeLived_12 : Snd MX1_canBeLived 12 (xLdI 13 2) := snd_iload_n (M := MX1_canBeLived) (pc := 12) dX1_canBeLived_12
theorem sX1_canBeLived_13 : Snd MX1_canBeLived 13 (xLdA 14 0) := snd_aload_n (M := MX1_canBeLived) (pc := 13) dX1_canBeLived_13
theorem sX1_canBeLived_14 : Snd MX1_canBeLived 14 (xGf 17 1 0) := snd_gf (M := MX1_canBeLived) (pc := 14) (C0 := RX1) (T0 := TX1) (N := 4) dX1_canBeLived_14 rfl tbX1 (by decide) w165
theorem sX1_canBeLived_17 : Snd MX1_canBeLived 17 (xCallV MX3_canBe 3 2 20) := snd_callV (M := MX1_canBeLived) (pc := 17) (n := 2) dX1_canBeLived_17 rfl w173 w149 w150 ⟨w83, w147, ⟨by decide, by decide, by decide +kernel⟩, by decide⟩ ⟨rfl, rfl⟩
theorem sX1_canBeLived_20 : Snd MX1_canBeLived 20 (xZ_eq 27 23) := snd_if_eq (M := MX1_canBeLived) (pc := 20) dX1_canBeLived_20 (by decide)
theorem sX1_canBeLived_23 : Snd MX1_canBeLived 23 (xK 24 (nI 1)) := snd_iconst (M := MX1_canBeLived) (pc := 23) dX1_canBeLived_23 (by decide +kernel)
theorem sX1_canBeLived_24 : Snd MX1_canBeLived 24 (xGo 28) := snd_goto (M := MX1_canBeLived) (pc := 24) dX1_canBeLived_24 (by decide)
theorem sX1_canBeLived_27 : Snd MX1_canBeLived 27 (xK 28 (nI 0)) := snd_iconst (M := MX1_canBeLived) (pc := 27) dX1_canBeLived_27 (by decide +kernel)
theorem sX1_canBeLived_28 : Snd MX1_canBeLived 28 (xRetZ) := snd_zret (M := MX1_canBeLived) (pc := 28) dX1_canBeLived_28 rfl
theorem VX1_canBeLived : Valid MX1_canBeLived LX1_canBeLived := va_lid sX1_canBeLived_0 (va_lid sX1_canBeLived_1 (va_lid sX1_canBeLived_4 (va_lid sX1_canBeLived_5 (va_lid sX1_canBeLived_8 (va_lid sX1_canBeLived_11 (va_lid sX1_canBeLived_12 (va_lid sX1_canBeLived_13 (va_lid sX1_canBeLived_14 (va_lid sX1_canBeLived_17 (va_lid sX1_canBeLived_20 (va_lid sX1_canBeLived_23 (va_lid sX1_canBeLived_24 (va_lid sX1_canBeLived_27 (va_lid sX1_canBeLived_28 (va_lid0)))))))))))))))
theorem kX1_canBeLived_0 : lk LX1_canBeLived 0 = some (xLdA 1 0) := rfl
theorem kX1_canBeLived_1 : lk LX1_canBeLived 1 = some (xGf 4 1 1) := rfl
theorem kX1_canBeLived_4 : lk LX1_canBeLived 4 = some (xLdI 5 2) := rfl
theorem kX1_canBeLived_5 : lk LX1_canBeLived 5 = some (xCallS MX5_has 2 8) := rfl
theorem kX1_canBeLived_8 : lk LX1_canBeLived 8 = some (xZ_ne 27 11) := rfl
theorem kX1_canBeLived_11 : lk LX1_canBeLived 11 = some (xLdA 12 1) := rfl
theorem kX1_canBeLived_12 : lk LX1_canBeLived 12 = some (xLdI 13 2) := rfl
theorem kX1_canBeLived_13 : lk LX1_canBeLived 13 = some (xLdA 14 0) := rfl
theorem kX1_canBeLived_14 : lk LX1_canBeLived 14 = some (xGf 17 1 0) := rfl
theorem kX1_canBeLived_17 : lk LX1_canBeLived 17 = some (xCallV MX3_canBe 3 2 20) := rfl
theorem kX1_canBeLived_20 : lk LX1_canBeLived 20 = some (xZ_eq 27 23) := rfl
theorem kX1_canBeLived_23 : lk LX1_canBeLived 23 = some (xK 24 (nI 1)) := rfl
theorem kX1_canBeLived_24 : lk LX1_canBeLived 24 = some (xGo 28) := rfl
theorem kX1_canBeLived_27 : lk LX1_canBeLived 27 = some (xK 28 (nI 0)) := rfl
theorem kX1_canBeLived_28 : lk LX1_canBeLived 28 = some (xRetZ) := rfl
def LX1_liveLife : List (Nat × XI) := [(0, xLdA 1 0),
  (1, xGf 4 1 0),
  (4, xLdA 5 1),
  (5, xK 6 (nI 1)),
  (6, xLdI 7 2),
  (7, xBin 8 f_ishl),
  (8, xCallV MX3_linenOf 3 1 11),
  (11, xBin 12 f_iand),
  (12, xStI 13 3),
  (13, xLdA 14 0),
  (14, xDup 15),
  (15, xGf 18 1 0),
  (18, xLdI 19 3),
  (19, xK 20 ((-1))),
  (20, xBin 21 f_ixor),
  (21, xBin 22 f_iand),
  (22, xPfI 25 1 0),
  (25, xLdA 26 0),
  (26, xDup 27),
  (27, xGf 30 1 1),
  (30, xK 31 (nI 1)),
  (31, xLdI 32 2),
  (32, xBin 33 f_ishl),
  (33, xBin 34 f_ior),
  (34, xPfI 37 1 1),
  (37, xLdI 38 3),
  (38, xRet)]
theorem sX1_liveLife_0 : Snd MX1_liveLife 0 (xLdA 1 0) := snd_aload_n (M := MX1_liveLife) (pc := 0) dX1_liveLife_0
theorem sX1_liveLife_1 : Snd MX1_liveLife 1 (xGf 4 1 0) := snd_gf (M := MX1_liveLife) (pc := 1) (C0 := RX1) (T0 := TX1) (N := 4) dX1_liveLife_1 rfl tbX1 (by decide) w165
theorem sX1_liveLife_4 : Snd MX1_liveLife 4 (xLdA 5 1) := snd_aload_n (M := MX1_liveLife) (pc := 4) dX1_liveLife_4
theorem sX1_liveLife_5 : Snd MX1_liveLife 5 (xK 6 (nI 1)) := snd_iconst (M := MX1_liveLife) (pc := 5) dX1_liveLife_5 (by decide +kernel)
theorem sX1_liveLife_6 : Snd MX1_liveLife 6 (xLdI 7 2) := snd_iload_n (M := MX1_liveLife) (pc := 6) dX1_liveLife_6
theorem sX1_liveLife_7 : Snd MX1_liveLife 7 (xBin 8 f_ishl) := snd_ishl (M := MX1_liveLife) (pc := 7) dX1_liveLife_7
theorem sX1_liveLife_8 : Snd MX1_liveLife 8 (xCallV MX3_linenOf 3 1 11) := snd_callV (M := MX1_liveLife) (pc := 8) (n := 1) dX1_liveLife_8 rfl w174 w145 w146 ⟨w83, w143, ⟨by decide, by decide, by decide +kernel⟩, by decide⟩ ⟨rfl, rfl⟩
theorem sX1_liveLife_11 : Snd MX1_liveLife 11 (xBin 12 f_iand) := snd_iand (M := MX1_liveLife) (pc := 11) dX1_liveLife_11
theorem sX1_liveLife_12 : Snd MX1_liveLife 12 (xStI 13 3) := snd_istore_n (M := MX1_liveLife) (pc := 12) dX1_liveLife_12 (by decide)
theorem sX1_liveLife_13 : Snd MX1_liveLife 13 (xLdA 14 0) := snd_aload_n (M := MX1_liveLife) (pc := 13) dX1_liveLife_13
theorem sX1_liveLife_14 : Snd MX1_liveLife 14 (xDup 15) := snd_dup (M := MX1_liveLife) (pc := 14) dX1_liveLife_14
theorem sX1_liveLife_15 : Snd MX1_liveLife 15 (xGf 18 1 0) := snd_gf (M := MX1_liveLife) (pc := 15) (C0 := RX1) (T0 := TX1) (N := 4) dX1_liveLife_15 rfl tbX1 (by decide) w165
theorem sX1_liveLife_18 : Snd MX1_liveLife 18 (xLdI 19 3) := snd_iload_n (M := MX1_liveLife) (pc := 18) dX1_liveLife_18
theorem sX1_liveLife_19 : Snd MX1_liveLife 19 (xK 20 ((-1))) := snd_iconst (M := MX1_liveLife) (pc := 19) dX1_liveLife_19 (by decide +kernel)
theorem sX1_liveLife_20 : Snd MX1_liveLife 20 (xBin 21 f_ixor) := snd_ixor (M := MX1_liveLife) (pc := 20) dX1_liveLife_20
theorem sX1_liveLife_21 : Snd MX1_liveLife 21 (xBin 22 f_iand) := snd_iand (M := MX1_liveLife) (pc := 21) dX1_liveLife_21
theorem sX1_liveLife_22 : Snd MX1_liveLife 22 (xPfI 25 1 0) := snd_pfI (M := MX1_liveLife) (pc := 22) (C0 := RX1) (T0 := TX1) (N := 4) dX1_liveLife_22 rfl tbX1 tyX1 tyX1_ok nmX1 (by decide) w165 rfl (by decide +kernel)
theorem sX1_liveLife_25 : Snd MX1_liveLife 25 (xLdA 26 0) := snd_aload_n (M := MX1_liveLife) (pc := 25) dX1_liveLife_25
theorem sX1_liveLife_26 : Snd MX1_liveLife 26 (xDup 27) := snd_dup (M := MX1_liveLife) (pc := 26) dX1_liveLife_26
theorem sX1_liveLife_27 : Snd MX1_liveLife 27 (xGf 30 1 1) := snd_gf (M := MX1_liveLife) (pc := 27) (C0 := RX1) (T0 := TX1) (N := 4) dX1_liveLife_27 rfl tbX1 (by decide) w166
theorem sX1_liveLife_30 : Snd MX1_liveLife 30 (xK 31 (nI 1)) := snd_iconst (M := MX1_liveLife) (pc := 30) dX1_liveLife_30 (by decide +kernel)
theorem sX1_liveLife_31 : Snd MX1_liveLife 31 (xLdI 32 2) := snd_iload_n (M := MX1_liveLife) (pc := 31) dX1_liveLife_31
theorem sX1_liveLife_32 : Snd MX1_liveLife 32 (xBin 33 f_ishl) := snd_ishl (M := MX1_liveLife) (pc := 32) dX1_liveLife_32
theorem sX1_liveLife_33 : Snd MX1_liveLife 33 (xBin 34 f_ior) := snd_ior (M := MX1_liveLife) (pc := 33) dX1_liveLife_33
theorem sX1_liveLife_34 : Snd MX1_liveLife 34 (xPfI 37 1 1) := snd_pfI (M := MX1_liveLife) (pc := 34) (C0 := RX1) (T0 := TX1) (N := 4) dX1_liveLife_34 rfl tbX1 tyX1 tyX1_ok nmX1 (by decide) w166 rfl (by decide +kernel)
theorem sX1_liveLife_37 : Snd MX1_liveLife 37 (xLdI 38 3) := snd_iload_n (M := MX1_liveLife) (pc := 37) dX1_liveLife_37
theorem sX1_liveLife_38 : Snd MX1_liveLife 38 (xRet) := snd_iret (M := MX1_liveLife) (pc := 38) dX1_liveLife_38 rfl
theorem VX1_liveLife : Valid MX1_liveLife LX1_liveLife := va_lid sX1_liveLife_0 (va_lid sX1_liveLife_1 (va_lid sX1_liveLife_4 (va_lid sX1_liveLife_5 (va_lid sX1_liveLife_6 (va_lid sX1_liveLife_7 (va_lid sX1_liveLife_8 (va_lid sX1_liveLife_11 (va_lid sX1_liveLife_12 (va_lid sX1_liveLife_13 (va_lid sX1_liveLife_14 (va_lid sX1_liveLife_15 (va_lid sX1_liveLife_18 (va_lid sX1_liveLife_19 (va_lid sX1_liveLife_20 (va_lid sX1_liveLife_21 (va_lid sX1_liveLife_22 (va_lid sX1_liveLife_25 (va_lid sX1_liveLife_26 (va_lid sX1_liveLife_27 (va_lid sX1_liveLife_30 (va_lid sX1_liveLife_31 (va_lid sX1_liveLife_32 (va_lid sX1_liveLife_33 (va_lid sX1_liveLife_34 (va_lid sX1_liveLife_37 (va_lid sX1_liveLife_38 (va_lid0)))))))))))))))))))))))))))
theorem kX1_liveLife_0 : lk LX1_liveLife 0 = some (xLdA 1 0) := rfl
theorem kX1_liveLife_1 : lk LX1_liveLife 1 = some (xGf 4 1 0) := rfl
theorem kX1_liveLife_4 : lk LX1_liveLife 4 = some (xLdA 5 1) := rfl
theorem kX1_liveLife_5 : lk LX1_liveLife 5 = some (xK 6 (nI 1)) := rfl
theorem kX1_liveLife_6 : lk LX1_liveLife 6 = some (xLdI 7 2) := rfl
theorem kX1_liveLife_7 : lk LX1_liveLife 7 = some (xBin 8 f_ishl) := rfl
theorem kX1_liveLife_8 : lk LX1_liveLife 8 = some (xCallV MX3_linenOf 3 1 11) := rfl
theorem kX1_liveLife_11 : lk LX1_liveLife 11 = some (xBin 12 f_iand) := rfl
theorem kX1_liveLife_12 : lk LX1_liveLife 12 = some (xStI 13 3) := rfl
theorem kX1_liveLife_13 : lk LX1_liveLife 13 = some (xLdA 14 0) := rfl
theorem kX1_liveLife_14 : lk LX1_liveLife 14 = some (xDup 15) := rfl
theorem kX1_liveLife_15 : lk LX1_liveLife 15 = some (xGf 18 1 0) := rfl
theorem kX1_liveLife_18 : lk LX1_liveLife 18 = some (xLdI 19 3) := rfl
theorem kX1_liveLife_19 : lk LX1_liveLife 19 = some (xK 20 ((-1))) := rfl
theorem kX1_liveLife_20 : lk LX1_liveLife 20 = some (xBin 21 f_ixor) := rfl
theorem kX1_liveLife_21 : lk LX1_liveLife 21 = some (xBin 22 f_iand) := rfl
theorem kX1_liveLife_22 : lk LX1_liveLife 22 = some (xPfI 25 1 0) := rfl
theorem kX1_liveLife_25 : lk LX1_liveLife 25 = some (xLdA 26 0) := rfl
theorem kX1_liveLife_26 : lk LX1_liveLife 26 = some (xDup 27) := rfl
theorem kX1_liveLife_27 : lk LX1_liveLife 27 = some (xGf 30 1 1) := rfl
theorem kX1_liveLife_30 : lk LX1_liveLife 30 = some (xK 31 (nI 1)) := rfl
theorem kX1_liveLife_31 : lk LX1_liveLife 31 = some (xLdI 32 2) := rfl
theorem kX1_liveLife_32 : lk LX1_liveLife 32 = some (xBin 33 f_ishl) := rfl
theorem kX1_liveLife_33 : lk LX1_liveLife 33 = some (xBin 34 f_ior) := rfl
theorem kX1_liveLife_34 : lk LX1_liveLife 34 = some (xPfI 37 1 1) := rfl
theorem kX1_liveLife_37 : lk LX1_liveLife 37 = some (xLdI 38 3) := rfl
theorem kX1_liveLife_38 : lk LX1_liveLife 38 = some (xRet) := rfl
def LX1_goBy : List (Nat × XI) := [(0, xLdA 1 0),
  (1, xLdA 2 0),
  (2, xLdA 3 1),
  (3, xLdI 4 2),
  (4, xCallV MX1_coinsBehind 1 2 7),
  (7, xPfI 10 1 2),
  (10, xLdA 11 0),
  (11, xDup 12),
  (12, xGf 15 1 3),
  (15, xLdI 16 2),
  (16, xBin 17 f_iadd),
  (17, xPfI 20 1 3),
  (20, xRetV)]
theorem sX1_goBy_0 : Snd MX1_goBy 0 (xLdA 1 0) := snd_aload_n (M := MX1_goBy) (pc := 0) dX1_goBy_0
theorem sX1_goBy_1 : Snd MX1_goBy 1 (xLdA 2 0) := snd_aload_n (M := MX1_goBy) (pc := 1) dX1_goBy_1
theorem sX1_goBy_2 : Snd MX1_goBy 2 (xLdA 3 1) := snd_aload_n (M := MX1_goBy) (pc := 2) dX1_goBy_2
theorem sX1_goBy_3 : Snd MX1_goBy 3 (xLdI 4 2) := snd_iload_n (M := MX1_goBy) (pc := 3) dX1_goBy_3
theorem sX1_goBy_4 : Snd MX1_goBy 4 (xCallV MX1_coinsBehind 1 2 7) := snd_callV (M := MX1_goBy) (pc := 4) (n := 2) dX1_goBy_4 rfl w175 w81 w82 ⟨w78, w79, ⟨by decide, by decide, by decide +kernel⟩, by decide⟩ ⟨rfl, rfl⟩
theorem sX1_goBy_7 : Snd MX1_goBy 7 (xPfI 10 1 2) := snd_pfI (M := MX1_goBy) (pc := 7) (C0 := RX1) (T0 := TX1) (N := 4) dX1_goBy_7 rfl tbX1 tyX1 tyX1_ok nmX1 (by decide) w168 rfl (by decide +kernel)
theorem sX1_goBy_10 : Snd MX1_goBy 10 (xLdA 11 0) := snd_aload_n (M := MX1_goBy) (pc := 10) dX1_goBy_10
theorem sX1_goBy_11 : Snd MX1_goBy 11 (xDup 12) := snd_dup (M := MX1_goBy) (pc := 11) dX1_goBy_11
theorem sX1_goBy_12 : Snd MX1_goBy 12 (xGf 15 1 3) := snd_gf (M := MX1_goBy) (pc := 12) (C0 := RX1) (T0 := TX1) (N := 4) dX1_goBy_12 rfl tbX1 (by decide) w169
theorem sX1_goBy_15 : Snd MX1_goBy 15 (xLdI 16 2) := snd_iload_n (M := MX1_goBy) (pc := 15) dX1_goBy_15
theorem sX1_goBy_16 : Snd MX1_goBy 16 (xBin 17 f_iadd) := snd_iadd (M := MX1_goBy) (pc := 16) dX1_goBy_16
theorem sX1_goBy_17 : Snd MX1_goBy 17 (xPfI 20 1 3) := snd_pfI (M := MX1_goBy) (pc := 17) (C0 := RX1) (T0 := TX1) (N := 4) dX1_goBy_17 rfl tbX1 tyX1 tyX1_ok nmX1 (by decide) w169 rfl (by decide +kernel)
theorem sX1_goBy_20 : Snd MX1_goBy 20 (xRetV) := snd_vret (M := MX1_goBy) (pc := 20) dX1_goBy_20 rfl
theorem VX1_goBy : Valid MX1_goBy LX1_goBy := va_lid sX1_goBy_0 (va_lid sX1_goBy_1 (va_lid sX1_goBy_2 (va_lid sX1_goBy_3 (va_lid sX1_goBy_4 (va_lid sX1_goBy_7 (va_lid sX1_goBy_10 (va_lid sX1_goBy_11 (va_lid sX1_goBy_12 (va_lid sX1_goBy_15 (va_lid sX1_goBy_16 (va_lid sX1_goBy_17 (va_lid sX1_goBy_20 (va_lid0)))))))))))))
theorem kX1_goBy_0 : lk LX1_goBy 0 = some (xLdA 1 0) := rfl
theorem kX1_goBy_1 : lk LX1_goBy 1 = some (xLdA 2 0) := rfl
theorem kX1_goBy_2 : lk LX1_goBy 2 = some (xLdA 3 1) := rfl
theorem kX1_goBy_3 : lk LX1_goBy 3 = some (xLdI 4 2) := rfl
theorem kX1_goBy_4 : lk LX1_goBy 4 = some (xCallV MX1_coinsBehind 1 2 7) := rfl
theorem kX1_goBy_7 : lk LX1_goBy 7 = some (xPfI 10 1 2) := rfl
theorem kX1_goBy_10 : lk LX1_goBy 10 = some (xLdA 11 0) := rfl
theorem kX1_goBy_11 : lk LX1_goBy 11 = some (xDup 12) := rfl
theorem kX1_goBy_12 : lk LX1_goBy 12 = some (xGf 15 1 3) := rfl
theorem kX1_goBy_15 : lk LX1_goBy 15 = some (xLdI 16 2) := rfl
theorem kX1_goBy_16 : lk LX1_goBy 16 = some (xBin 17 f_iadd) := rfl
theorem kX1_goBy_17 : lk LX1_goBy 17 = some (xPfI 20 1 3) := rfl
theorem kX1_goBy_20 : lk LX1_goBy 20 = some (xRetV) := rfl
def LX1_coinsBehind : List (Nat × XI) := [(0, xK 3 (nI 999)),
  (3, xLdA 4 0),
  (4, xGf 7 1 2),
  (7, xLdI 8 2),
  (8, xLdA 9 1),
  (9, xGf 12 3 1),
  (12, xBin 13 f_imul),
  (13, xBin 14 f_iadd),
  (14, xMmin 17),
  (17, xRet)]
theorem sX1_coinsBehind_0 : Snd MX1_coinsBehind 0 (xK 3 (nI 999)) := snd_sipush (M := MX1_coinsBehind) (pc := 0) dX1_coinsBehind_0 (by decide +kernel)
theorem sX1_coinsBehind_3 : Snd MX1_coinsBehind 3 (xLdA 4 0) := snd_aload_n (M := MX1_coinsBehind) (pc := 3) dX1_coinsBehind_3
theorem sX1_coinsBehind_4 : Snd MX1_coinsBehind 4 (xGf 7 1 2) := snd_gf (M := MX1_coinsBehind) (pc := 4) (C0 := RX1) (T0 := TX1) (N := 4) dX1_coinsBehind_4 rfl tbX1 (by decide) w168
theorem sX1_coinsBehind_7 : Snd MX1_coinsBehind 7 (xLdI 8 2) := snd_iload_n (M := MX1_coinsBehind) (pc := 7) dX1_coinsBehind_7
theorem sX1_coinsBehind_8 : Snd MX1_coinsBehind 8 (xLdA 9 1) := snd_aload_n (M := MX1_coinsBehind) (pc := 8) dX1_coinsBehind_8
theorem sX1_coinsBehind_9 : Snd MX1_coinsBehind 9 (xGf 12 3 1) := snd_gf (M := MX1_coinsBehind) (pc := 9) (C0 := RX3) (T0 := TX3) (N := 14) dX1_coinsBehind_9 rfl tbX3 (by decide) w167
theorem sX1_coinsBehind_12 : Snd MX1_coinsBehind 12 (xBin 13 f_imul) := snd_imul (M := MX1_coinsBehind) (pc := 12) dX1_coinsBehind_12
theorem sX1_coinsBehind_13 : Snd MX1_coinsBehind 13 (xBin 14 f_iadd) := snd_iadd (M := MX1_coinsBehind) (pc := 13) dX1_coinsBehind_13
theorem sX1_coinsBehind_14 : Snd MX1_coinsBehind 14 (xMmin 17) := snd_mmin (M := MX1_coinsBehind) (pc := 14) dX1_coinsBehind_14 w176 w177 w138 w178 (by decide)
theorem sX1_coinsBehind_17 : Snd MX1_coinsBehind 17 (xRet) := snd_iret (M := MX1_coinsBehind) (pc := 17) dX1_coinsBehind_17 rfl
theorem VX1_coinsBehind : Valid MX1_coinsBehind LX1_coinsBehind := va_lid sX1_coinsBehind_0 (va_lid sX1_coinsBehind_3 (va_lid sX1_coinsBehind_4 (va_lid sX1_coinsBehind_7 (va_lid sX1_coinsBehind_8 (va_lid sX1_coinsBehind_9 (va_lid sX1_coinsBehind_12 (va_lid sX1_coinsBehind_13 (va_lid sX1_coinsBehind_14 (va_lid sX1_coinsBehind_17 (va_lid0))))))))))
theorem kX1_coinsBehind_0 : lk LX1_coinsBehind 0 = some (xK 3 (nI 999)) := rfl
theorem kX1_coinsBehind_3 : lk LX1_coinsBehind 3 = some (xLdA 4 0) := rfl
theorem kX1_coinsBehind_4 : lk LX1_coinsBehind 4 = some (xGf 7 1 2) := rfl
theorem kX1_coinsBehind_7 : lk LX1_coinsBehind 7 = some (xLdI 8 2) := rfl
theorem kX1_coinsBehind_8 : lk LX1_coinsBehind 8 = some (xLdA 9 1) := rfl
theorem kX1_coinsBehind_9 : lk LX1_coinsBehind 9 = some (xGf 12 3 1) := rfl
theorem kX1_coinsBehind_12 : lk LX1_coinsBehind 12 = some (xBin 13 f_imul) := rfl
theorem kX1_coinsBehind_13 : lk LX1_coinsBehind 13 = some (xBin 14 f_iadd) := rfl
theorem kX1_coinsBehind_14 : lk LX1_coinsBehind 14 = some (xMmin 17) := rfl
theorem kX1_coinsBehind_17 : lk LX1_coinsBehind 17 = some (xRet) := rfl
def LX1_goByDraw : List (Nat × XI) := [(0, xLdA 1 1),
  (1, xGf 4 3 2),
  (4, xZ_le 32 7),
  (7, xLdA 8 0),
  (8, xLdA 9 1),
  (9, xLdI 10 2),
  (10, xLdA 11 1),
  (11, xGf 14 3 2),
  (14, xDiv 15 f_irem),
  (15, xLdI 16 2),
  (16, xK 18 (nI 8)),
  (18, xDiv 19 f_idiv),
  (19, xK 20 (nI 3)),
  (20, xDiv 21 f_irem),
  (21, xZ_ne 28 24),
  (24, xK 25 (nI 1)),
  (25, xGo 29),
  (28, xK 29 (nI 0)),
  (29, xCallV MX1_putOrTakeOut 1 3 32),
  (32, xLdA 33 1),
  (33, xGf 36 3 3),
  (36, xZ_le 75 39),
  (39, xLdI 40 2),
  (40, xK 42 (nI 32)),
  (42, xDiv 43 f_idiv),
  (43, xLdA 44 1),
  (44, xGf 47 3 3),
  (47, xDiv 48 f_irem),
  (48, xStI 49 3),
  (49, xLdI 50 2),
  (50, xK 53 (nI 256)),
  (53, xDiv 54 f_idiv),
  (54, xK 55 (nI 2)),
  (55, xDiv 56 f_irem),
  (56, xZ_ne 75 59),
  (59, xLdA 60 0),
  (60, xLdA 61 1),
  (61, xLdI 62 3),
  (62, xCallV MX1_canBeLived 1 2 65),
  (65, xZ_eq 75 68),
  (68, xLdA 69 0),
  (69, xLdA 70 1),
  (70, xLdI 71 3),
  (71, xCallV MX1_liveLife 1 2 74),
  (74, xPop 75),
  (75, xLdA 76 0),
  (76, xLdA 77 1),
  (77, xK 78 (nI 1)),
  (78, xCallV MX1_goBy 1 2 81),
  (81, xRetV)]
theorem sX1_goByDraw_0 : Snd MX1_goByDraw 0 (xLdA 1 1) := snd_aload_n (M := MX1_goByDraw) (pc := 0) dX1_goByDraw_0
theorem sX1_goByDraw_1 : Snd MX1_goByDraw 1 (xGf 4 3 2) := snd_gf (M := MX1_goByDraw) (pc := 1) (C0 := RX3) (T0 := TX3) (N := 14) dX1_goByDraw_1 rfl tbX3 (by decide) w179
theorem sX1_goByDraw_4 : Snd MX1_goByDraw 4 (xZ_le 32 7) := snd_if_le (M := MX1_goByDraw) (pc := 4) dX1_goByDraw_4 (by decide)
theorem sX1_goByDraw_7 : Snd MX1_goByDraw 7 (xLdA 8 0) := snd_aload_n (M := MX1_goByDraw) (pc := 7) dX1_goByDraw_7
theorem sX1_goByDraw_8 : Snd MX1_goByDraw 8 (xLdA 9 1) := snd_aload_n (M := MX1_goByDraw) (pc := 8) dX1_goByDraw_8
theorem sX1_goByDraw_9 : Snd MX1_goByDraw 9 (xLdI 10 2) := snd_iload_n (M := MX1_goByDraw) (pc := 9) dX1_goByDraw_9
theorem sX1_goByDraw_10 : Snd MX1_goByDraw 10 (xLdA 11 1) := snd_aload_n (M := MX1_goByDraw) (pc := 10) dX1_goByDraw_10
theorem sX1_goByDraw_11 : Snd MX1_goByDraw 11 (xGf 14 3 2) := snd_gf (M := MX1_goByDraw) (pc := 11) (C0 := RX3) (T0 := TX3) (N := 14) dX1_goByDraw_11 rfl tbX3 (by decide) w179
theorem sX1_goByDraw_14 : Snd MX1_goByDraw 14 (xDiv 15 f_irem) := snd_irem (M := MX1_goByDraw) (pc := 14) dX1_goByDraw_14
theorem sX1_goByDraw_15 : Snd MX1_goByDraw 15 (xLdI 16 2) := snd_iload_n (M := MX1_goByDraw) (pc := 15) dX1_goByDraw_15
theorem sX1_goByDraw_16 : Snd MX1_goByDraw 16 (xK 18 (nI 8)) := snd_bipush (M := MX1_goByDraw) (pc := 16) dX1_goByDraw_16 (by decide +kernel)
theorem sX1_goByDraw_18 : Snd MX1_goByDraw 18 (xDiv 19 f_idiv) := snd_idiv (M := MX1_goByDraw) (pc := 18) dX1_goByDraw_18
theorem sX1_goByDraw_19 : Snd MX1_goByDraw 19 (xK 20 (nI 3)) := snd_iconst (M := MX1_goByDraw) (pc := 19) dX1_goByDraw_19 (by decide +kernel)
theorem sX1_goByDraw_20 : Snd MX1_goByDraw 20 (xDiv 21 f_irem) := snd_irem (M := MX1_goByDraw) (pc := 20) dX1_goByDraw_20
theorem sX1_goByDraw_21 : Snd MX1_goByDraw 21 (xZ_ne 28 24) := snd_if_ne (M := MX1_goByDraw) (pc := 21) dX1_goByDraw_21 (by decide)
theorem sX1_goByDraw_24 : Snd MX1_goByDraw 24 (xK 25 (nI 1)) := snd_iconst (M := MX1_goByDraw) (pc := 24) dX1_goByDraw_24 (by decide +kernel)
theorem sX1_goByDraw_25 : Snd MX1_goByDraw 25 (xGo 29) := snd_goto (M := MX1_goByDraw) (pc := 25) dX1_goByDraw_25 (by decide)
theorem sX1_goByDraw_28 : Snd MX1_goByDraw 28 (xK 29 (nI 0)) := snd_iconst (M := MX1_goByDraw) (pc := 28) dX1_goByDraw_28 (by decide +kernel)
theorem sX1_goByDraw_29 : Snd MX1_goByDraw 29 (xCallV MX1_putOrTakeOut 1 3 32) := snd_callV (M := MX1_goByDraw) (pc := 29) (n := 3) dX1_goByDraw_29 rfl w181 w182 w183 ⟨w78, w180, ⟨by decide, by decide, by decide +kernel⟩, by decide⟩ ⟨rfl, rfl⟩
theorem sX1_goByDraw_32 : Snd MX1_goByDraw 32 (xLdA 33 1) := snd_aload_n (M := MX1_goByDraw) (pc := 32) dX1_goByDraw_32
theorem sX1_goByDraw_33 : Snd MX1_goByDraw 33 (xGf 36 3 3) := snd_gf (M := MX1_goByDraw) (pc := 33) (C0 := RX3) (T0 := TX3) (N := 14) dX1_goByDraw_33 rfl tbX3 (by decide) w184
theorem sX1_goByDraw_36 : Snd MX1_goByDraw 36 (xZ_le 75 39) := snd_if_le (M := MX1_goByDraw) (pc := 36) dX1_goByDraw_36 (by decide)
theorem sX1_goByDraw_39 : Snd MX1_goByDraw 39 (xLdI 40 2) := snd_iload_n (M := MX1_goByDraw) (pc := 39) dX1_goByDraw_39
theorem sX1_goByDraw_40 : Snd MX1_goByDraw 40 (xK 42 (nI 32)) := snd_bipush (M := MX1_goByDraw) (pc := 40) dX1_goByDraw_40 (by decide +kernel)
theorem sX1_goByDraw_42 : Snd MX1_goByDraw 42 (xDiv 43 f_idiv) := snd_idiv (M := MX1_goByDraw) (pc := 42) dX1_goByDraw_42
theorem sX1_goByDraw_43 : Snd MX1_goByDraw 43 (xLdA 44 1) := snd_aload_n (M := MX1_goByDraw) (pc := 43) dX1_goByDraw_43
theorem sX1_goByDraw_44 : Snd MX1_goByDraw 44 (xGf 47 3 3) := snd_gf (M := MX1_goByDraw) (pc := 44) (C0 := RX3) (T0 := TX3) (N := 14) dX1_goByDraw_44 rfl tbX3 (by decide) w184
theorem sX1_goByDraw_47 : Snd MX1_goByDraw 47 (xDiv 48 f_irem) := snd_irem (M := MX1_goByDraw) (pc := 47) dX1_goByDraw_47
theorem sX1_goByDraw_48 : Snd MX1_goByDraw 48 (xStI 49 3) := snd_istore_n (M := MX1_goByDraw) (pc := 48) dX1_goByDraw_48 (by decide)
theorem sX1_goByDraw_49 : Snd MX1_goByDraw 49 (xLdI 50 2) := snd_iload_n (M := MX1_goByDraw) (pc := 49) dX1_goByDraw_49
theorem sX1_goByDraw_50 : Snd MX1_goByDraw 50 (xK 53 (nI 256)) := snd_sipush (M := MX1_goByDraw) (pc := 50) dX1_goByDraw_50 (by decide +kernel)
theorem sX1_goByDraw_53 : Snd MX1_goByDraw 53 (xDiv 54 f_idiv) := snd_idiv (M := MX1_goByDraw) (pc := 53) dX1_goByDraw_53
theorem sX1_goByDraw_54 : Snd MX1_goByDraw 54 (xK 55 (nI 2)) := snd_iconst (M := MX1_goByDraw) (pc := 54) dX1_goByDraw_54 (by decide +kernel)
theorem sX1_goByDraw_55 : Snd MX1_goByDraw 55 (xDiv 56 f_irem) := snd_irem (M := MX1_goByDraw) (pc := 55) dX1_goByDraw_55
theorem sX1_goByDraw_56 : Snd MX1_goByDraw 56 (xZ_ne 75 59) := snd_if_ne (M := MX1_goByDraw) (pc := 56) dX1_goByDraw_56 (by decide)
theorem sX1_goByDraw_59 : Snd MX1_goByDraw 59 (xLdA 60 0) := snd_aload_n (M := MX1_goByDraw) (pc := 59) dX1_goByDraw_59
theorem sX1_goByDraw_60 : Snd MX1_goByDraw 60 (xLdA 61 1) := snd_aload_n (M := MX1_goByDraw) (pc := 60) dX1_goByDraw_60
theorem sX1_goByDraw_61 : Snd MX1_goByDraw 61 (xLdI 62 3) := snd_iload_n (M := MX1_goByDraw) (pc := 61) dX1_goByDraw_61
theorem sX1_goByDraw_62 : Snd MX1_goByDraw 62 (xCallV MX1_canBeLived 1 2 65) := snd_callV (M := MX1_goByDraw) (pc := 62) (n := 2) dX1_goByDraw_62 rfl w186 w187 w188 ⟨w78, w185, ⟨by decide, by decide, by decide +kernel⟩, by decide⟩ ⟨rfl, rfl⟩
theorem sX1_goByDraw_65 : Snd MX1_goByDraw 65 (xZ_eq 75 68) := snd_if_eq (M := MX1_goByDraw) (pc := 65) dX1_goByDraw_65 (by decide)
theorem sX1_goByDraw_68 : Snd MX1_goByDraw 68 (xLdA 69 0) := snd_aload_n (M := MX1_goByDraw) (pc := 68) dX1_goByDraw_68
theorem sX1_goByDraw_69 : Snd MX1_goByDraw 69 (xLdA 70 1) := snd_aload_n (M := MX1_goByDraw) (pc := 69) dX1_goByDraw_69
theorem sX1_goByDraw_70 : Snd MX1_goByDraw 70 (xLdI 71 3) := snd_iload_n (M := MX1_goByDraw) (pc := 70) dX1_goByDraw_70
theorem sX1_goByDraw_71 : Snd MX1_goByDraw 71 (xCallV MX1_liveLife 1 2 74) := snd_callV (M := MX1_goByDraw) (pc := 71) (n := 2) dX1_goByDraw_71 rfl w190 w191 w192 ⟨w78, w189, ⟨by decide, by decide, by decide +kernel⟩, by decide⟩ ⟨rfl, rfl⟩
theorem sX1_goByDraw_74 : Snd MX1_goByDraw 74 (xPop 75) := snd_pop (M := MX1_goByDraw) (pc := 74) dX1_goByDraw_74
theorem sX1_goByDraw_75 : Snd MX1_goByDraw 75 (xLdA 76 0) := snd_aload_n (M := MX1_goByDraw) (pc := 75) dX1_goByDraw_75
theorem sX1_goByDraw_76 : Snd MX1_goByDraw 76 (xLdA 77 1) := snd_aload_n (M := MX1_goByDraw) (pc := 76) dX1_goByDraw_76
theorem sX1_goByDraw_77 : Snd MX1_goByDraw 77 (xK 78 (nI 1)) := snd_iconst (M := MX1_goByDraw) (pc := 77) dX1_goByDraw_77 (by decide +kernel)
theorem sX1_goByDraw_78 : Snd MX1_goByDraw 78 (xCallV MX1_goBy 1 2 81) := snd_callV (M := MX1_goByDraw) (pc := 78) (n := 2) dX1_goByDraw_78 rfl w194 w195 w196 ⟨w78, w193, ⟨by decide, by decide, by decide +kernel⟩, by decide⟩ ⟨rfl, rfl⟩
theorem sX1_goByDraw_81 : Snd MX1_goByDraw 81 (xRetV) := snd_vret (M := MX1_goByDraw) (pc := 81) dX1_goByDraw_81 rfl
theorem VX1_goByDraw : Valid MX1_goByDraw LX1_goByDraw := va_lid sX1_goByDraw_0 (va_lid sX1_goByDraw_1 (va_lid sX1_goByDraw_4 (va_lid sX1_goByDraw_7 (va_lid sX1_goByDraw_8 (va_lid sX1_goByDraw_9 (va_lid sX1_goByDraw_10 (va_lid sX1_goByDraw_11 (va_lid sX1_goByDraw_14 (va_lid sX1_goByDraw_15 (va_lid sX1_goByDraw_16 (va_lid sX1_goByDraw_18 (va_lid sX1_goByDraw_19 (va_lid sX1_goByDraw_20 (va_lid sX1_goByDraw_21 (va_lid sX1_goByDraw_24 (va_lid sX1_goByDraw_25 (va_lid sX1_goByDraw_28 (va_lid sX1_goByDraw_29 (va_lid sX1_goByDraw_32 (va_lid sX1_goByDraw_33 (va_lid sX1_goByDraw_36 (va_lid sX1_goByDraw_39 (va_lid sX1_goByDraw_40 (va_lid sX1_goByDraw_42 (va_lid sX1_goByDraw_43 (va_lid sX1_goByDraw_44 (va_lid sX1_goByDraw_47 (va_lid sX1_goByDraw_48 (va_lid sX1_goByDraw_49 (va_lid sX1_goByDraw_50 (va_lid sX1_goByDraw_53 (va_lid sX1_goByDraw_54 (va_lid sX1_goByDraw_55 (va_lid sX1_goByDraw_56 (va_lid sX1_goByDraw_59 (va_lid sX1_goByDraw_60 (va_lid sX1_goByDraw_61 (va_lid sX1_goByDraw_62 (va_lid sX1_goByDraw_65 (va_lid sX1_goByDraw_68 (va_lid sX1_goByDraw_69 (va_lid sX1_goByDraw_70 (va_lid sX1_goByDraw_71 (va_lid sX1_goByDraw_74 (va_lid sX1_goByDraw_75 (va_lid sX1_goByDraw_76 (va_lid sX1_goByDraw_77 (va_lid sX1_goByDraw_78 (va_lid sX1_goByDraw_81 (va_lid0))))))))))))))))))))))))))))))))))))))))))))))))))
theorem kX1_goByDraw_0 : lk LX1_goByDraw 0 = some (xLdA 1 1) := rfl
theorem kX1_goByDraw_1 : lk LX1_goByDraw 1 = some (xGf 4 3 2) := rfl
theorem kX1_goByDraw_4 : lk LX1_goByDraw 4 = some (xZ_le 32 7) := rfl
theorem kX1_goByDraw_7 : lk LX1_goByDraw 7 = some (xLdA 8 0) := rfl
theorem kX1_goByDraw_8 : lk LX1_goByDraw 8 = some (xLdA 9 1) := rfl
theorem kX1_goByDraw_9 : lk LX1_goByDraw 9 = some (xLdI 10 2) := rfl
theorem kX1_goByDraw_10 : lk LX1_goByDraw 10 = some (xLdA 11 1) := rfl
theorem kX1_goByDraw_11 : lk LX1_goByDraw 11 = some (xGf 14 3 2) := rfl
theorem kX1_goByDraw_14 : lk LX1_goByDraw 14 = some (xDiv 15 f_irem) := rfl
theorem kX1_goByDraw_15 : lk LX1_goByDraw 15 = some (xLdI 16 2) := rfl
theorem kX1_goByDraw_16 : lk LX1_goByDraw 16 = some (xK 18 (nI 8)) := rfl
theorem kX1_goByDraw_18 : lk LX1_goByDraw 18 = some (xDiv 19 f_idiv) := rfl
theorem kX1_goByDraw_19 : lk LX1_goByDraw 19 = some (xK 20 (nI 3)) := rfl
theorem kX1_goByDraw_20 : lk LX1_goByDraw 20 = some (xDiv 21 f_irem) := rfl
theorem kX1_goByDraw_21 : lk LX1_goByDraw 21 = some (xZ_ne 28 24) := rfl
theorem kX1_goByDraw_24 : lk LX1_goByDraw 24 = some (xK 25 (nI 1)) := rfl
theorem kX1_goByDraw_25 : lk LX1_goByDraw 25 = some (xGo 29) := rfl
theorem kX1_goByDraw_28 : lk LX1_goByDraw 28 = some (xK 29 (nI 0)) := rfl
theorem kX1_goByDraw_29 : lk LX1_goByDraw 29 = some (xCallV MX1_putOrTakeOut 1 3 32) := rfl
theorem kX1_goByDraw_32 : lk LX1_goByDraw 32 = some (xLdA 33 1) := rfl
theorem kX1_goByDraw_33 : lk LX1_goByDraw 33 = some (xGf 36 3 3) := rfl
theorem kX1_goByDraw_36 : lk LX1_goByDraw 36 = some (xZ_le 75 39) := rfl
theorem kX1_goByDraw_39 : lk LX1_goByDraw 39 = some (xLdI 40 2) := rfl
theorem kX1_goByDraw_40 : lk LX1_goByDraw 40 = some (xK 42 (nI 32)) := rfl
theorem kX1_goByDraw_42 : lk LX1_goByDraw 42 = some (xDiv 43 f_idiv) := rfl
theorem kX1_goByDraw_43 : lk LX1_goByDraw 43 = some (xLdA 44 1) := rfl
theorem kX1_goByDraw_44 : lk LX1_goByDraw 44 = some (xGf 47 3 3) := rfl
theorem kX1_goByDraw_47 : lk LX1_goByDraw 47 = some (xDiv 48 f_irem) := rfl
theorem kX1_goByDraw_48 : lk LX1_goByDraw 48 = some (xStI 49 3) := rfl
theorem kX1_goByDraw_49 : lk LX1_goByDraw 49 = some (xLdI 50 2) := rfl
theorem kX1_goByDraw_50 : lk LX1_goByDraw 50 = some (xK 53 (nI 256)) := rfl
theorem kX1_goByDraw_53 : lk LX1_goByDraw 53 = some (xDiv 54 f_idiv) := rfl
theorem kX1_goByDraw_54 : lk LX1_goByDraw 54 = some (xK 55 (nI 2)) := rfl
theorem kX1_goByDraw_55 : lk LX1_goByDraw 55 = some (xDiv 56 f_irem) := rfl
theorem kX1_goByDraw_56 : lk LX1_goByDraw 56 = some (xZ_ne 75 59) := rfl
theorem kX1_goByDraw_59 : lk LX1_goByDraw 59 = some (xLdA 60 0) := rfl
theorem kX1_goByDraw_60 : lk LX1_goByDraw 60 = some (xLdA 61 1) := rfl
theorem kX1_goByDraw_61 : lk LX1_goByDraw 61 = some (xLdI 62 3) := rfl
theorem kX1_goByDraw_62 : lk LX1_goByDraw 62 = some (xCallV MX1_canBeLived 1 2 65) := rfl
theorem kX1_goByDraw_65 : lk LX1_goByDraw 65 = some (xZ_eq 75 68) := rfl
theorem kX1_goByDraw_68 : lk LX1_goByDraw 68 = some (xLdA 69 0) := rfl
theorem kX1_goByDraw_69 : lk LX1_goByDraw 69 = some (xLdA 70 1) := rfl
theorem kX1_goByDraw_70 : lk LX1_goByDraw 70 = some (xLdI 71 3) := rfl
theorem kX1_goByDraw_71 : lk LX1_goByDraw 71 = some (xCallV MX1_liveLife 1 2 74) := rfl
theorem kX1_goByDraw_74 : lk LX1_goByDraw 74 = some (xPop 75) := rfl
theorem kX1_goByDraw_75 : lk LX1_goByDraw 75 = some (xLdA 76 0) := rfl
theorem kX1_goByDraw_76 : lk LX1_goByDraw 76 = some (xLdA 77 1) := rfl
theorem kX1_goByDraw_77 : lk LX1_goByDraw 77 = some (xK 78 (nI 1)) := rfl
theorem kX1_goByDraw_78 : lk LX1_goByDraw 78 = some (xCallV MX1_goBy 1 2 81) := rfl
theorem kX1_goByDraw_81 : lk LX1_goByDraw 81 = some (xRetV) := rfl
def LX1_putOrTakeOut : List (Nat × XI) := [(0, xLdA 1 0),
  (1, xLdA 2 1),
  (2, xLdI 3 2),
  (3, xCallV MX1_canPutBy 1 2 6),
  (6, xZ_eq 18 9),
  (9, xLdA 10 0),
  (10, xLdA 11 1),
  (11, xLdI 12 2),
  (12, xCallV MX1_putBy 1 2 15),
  (15, xGo 27),
  (18, xLdI 19 3),
  (19, xZ_eq 27 22),
  (22, xLdA 23 0),
  (23, xLdI 24 2),
  (24, xCallV MX1_takeOut 1 1 27),
  (27, xRetV)]
theorem sX1_putOrTakeOut_0 : Snd MX1_putOrTakeOut 0 (xLdA 1 0) := snd_aload_n (M := MX1_putOrTakeOut) (pc := 0) dX1_putOrTakeOut_0
theorem sX1_putOrTakeOut_1 : Snd MX1_putOrTakeOut 1 (xLdA 2 1) := snd_aload_n (M := MX1_putOrTakeOut) (pc := 1) dX1_putOrTakeOut_1
theorem sX1_putOrTakeOut_2 : Snd MX1_putOrTakeOut 2 (xLdI 3 2) := snd_iload_n (M := MX1_putOrTakeOut) (pc := 2) dX1_putOrTakeOut_2
theorem sX1_putOrTakeOut_3 : Snd MX1_putOrTakeOut 3 (xCallV MX1_canPutBy 1 2 6) := snd_callV (M := MX1_putOrTakeOut) (pc := 3) (n := 2) dX1_putOrTakeOut_3 rfl w198 w199 w200 ⟨w78, w197, ⟨by decide, by decide, by decide +kernel⟩, by decide⟩ ⟨rfl, rfl⟩
theorem sX1_putOrTakeOut_6 : Snd MX1_putOrTakeOut 6 (xZ_eq 18 9) := snd_if_eq (M := MX1_putOrTakeOut) (pc := 6) dX1_putOrTakeOut_6 (by decide)
theorem sX1_putOrTakeOut_9 : Snd MX1_putOrTakeOut 9 (xLdA 10 0) := snd_aload_n (M := MX1_putOrTakeOut) (pc := 9) dX1_putOrTakeOut_9
theorem sX1_putOrTakeOut_10 : Snd MX1_putOrTakeOut 10 (xLdA 11 1) := snd_aload_n (M := MX1_putOrTakeOut) (pc := 10) dX1_putOrTakeOut_10
theorem sX1_putOrTakeOut_11 : Snd MX1_putOrTakeOut 11 (xLdI 12 2) := snd_iload_n (M := MX1_putOrTakeOut) (pc := 11) dX1_putOrTakeOut_11
theorem sX1_putOrTakeOut_12 : Snd MX1_putOrTakeOut 12 (xCallV MX1_putBy 1 2 15) := snd_callV (M := MX1_putOrTakeOut) (pc := 12) (n := 2) dX1_putOrTakeOut_12 rfl w202 w203 w204 ⟨w78, w201, ⟨by decide, by decide, by decide +kernel⟩, by decide⟩ ⟨rfl, rfl⟩
theorem sX1_putOrTakeOut_15 : Snd MX1_putOrTakeOut 15 (xGo 27) := snd_goto (M := MX1_putOrTakeOut) (pc := 15) dX1_putOrTakeOut_15 (by decide)
theorem sX1_putOrTakeOut_18 : Snd MX1_putOrTakeOut 18 (xLdI 19 3) := snd_iload_n (M := MX1_putOrTakeOut) (pc := 18) dX1_putOrTakeOut_18
theorem sX1_putOrTakeOut_19 : Snd MX1_putOrTakeOut 19 (xZ_eq 27 22) := snd_if_eq (M := MX1_putOrTakeOut) (pc := 19) dX1_putOrTakeOut_19 (by decide)
theorem sX1_putOrTakeOut_22 : Snd MX1_putOrTakeOut 22 (xLdA 23 0) := snd_aload_n (M := MX1_putOrTakeOut) (pc := 22) dX1_putOrTakeOut_22
theorem sX1_putOrTakeOut_23 : Snd MX1_putOrTakeOut 23 (xLdI 24 2) := snd_iload_n (M := MX1_putOrTakeOut) (pc := 23) dX1_putOrTakeOut_23
theorem sX1_putOrTakeOut_24 : Snd MX1_putOrTakeOut 24 (xCallV MX1_takeOut 1 1 27) := snd_callV (M := MX1_putOrTakeOut) (pc := 24) (n := 1) dX1_putOrTakeOut_24 rfl w206 w207 w208 ⟨w78, w205, ⟨by decide, by decide, by decide +kernel⟩, by decide⟩ ⟨rfl, rfl⟩
theorem sX1_putOrTakeOut_27 : Snd MX1_putOrTakeOut 27 (xRetV) := snd_vret (M := MX1_putOrTakeOut) (pc := 27) dX1_putOrTakeOut_27 rfl
theorem VX1_putOrTakeOut : Valid MX1_putOrTakeOut LX1_putOrTakeOut := va_lid sX1_putOrTakeOut_0 (va_lid sX1_putOrTakeOut_1 (va_lid sX1_putOrTakeOut_2 (va_lid sX1_putOrTakeOut_3 (va_lid sX1_putOrTakeOut_6 (va_lid sX1_putOrTakeOut_9 (va_lid sX1_putOrTakeOut_10 (va_lid sX1_putOrTakeOut_11 (va_lid sX1_putOrTakeOut_12 (va_lid sX1_putOrTakeOut_15 (va_lid sX1_putOrTakeOut_18 (va_lid sX1_putOrTakeOut_19 (va_lid sX1_putOrTakeOut_22 (va_lid sX1_putOrTakeOut_23 (va_lid sX1_putOrTakeOut_24 (va_lid sX1_putOrTakeOut_27 (va_lid0))))))))))))))))
theorem kX1_putOrTakeOut_0 : lk LX1_putOrTakeOut 0 = some (xLdA 1 0) := rfl
theorem kX1_putOrTakeOut_1 : lk LX1_putOrTakeOut 1 = some (xLdA 2 1) := rfl
theorem kX1_putOrTakeOut_2 : lk LX1_putOrTakeOut 2 = some (xLdI 3 2) := rfl
theorem kX1_putOrTakeOut_3 : lk LX1_putOrTakeOut 3 = some (xCallV MX1_canPutBy 1 2 6) := rfl
theorem kX1_putOrTakeOut_6 : lk LX1_putOrTakeOut 6 = some (xZ_eq 18 9) := rfl
theorem kX1_putOrTakeOut_9 : lk LX1_putOrTakeOut 9 = some (xLdA 10 0) := rfl
theorem kX1_putOrTakeOut_10 : lk LX1_putOrTakeOut 10 = some (xLdA 11 1) := rfl
theorem kX1_putOrTakeOut_11 : lk LX1_putOrTakeOut 11 = some (xLdI 12 2) := rfl
theorem kX1_putOrTakeOut_12 : lk LX1_putOrTakeOut 12 = some (xCallV MX1_putBy 1 2 15) := rfl
theorem kX1_putOrTakeOut_15 : lk LX1_putOrTakeOut 15 = some (xGo 27) := rfl
theorem kX1_putOrTakeOut_18 : lk LX1_putOrTakeOut 18 = some (xLdI 19 3) := rfl
theorem kX1_putOrTakeOut_19 : lk LX1_putOrTakeOut 19 = some (xZ_eq 27 22) := rfl
theorem kX1_putOrTakeOut_22 : lk LX1_putOrTakeOut 22 = some (xLdA 23 0) := rfl
theorem kX1_putOrTakeOut_23 : lk LX1_putOrTakeOut 23 = some (xLdI 24 2) := rfl
theorem kX1_putOrTakeOut_24 : lk LX1_putOrTakeOut 24 = some (xCallV MX1_takeOut 1 1 27) := rfl
theorem kX1_putOrTakeOut_27 : lk LX1_putOrTakeOut 27 = some (xRetV) := rfl
def LX2_init : List (Nat × XI) := [(0, xLdA 1 0),
  (1, xObj 4),
  (4, xLdI 5 1),
  (5, xK 6 (nI 1)),
  (6, xC_ge 13 9),
  (9, xK 10 (nI 1)),
  (10, xGo 14),
  (13, xLdI 14 1),
  (14, xStI 15 2),
  (15, xLdA 16 0),
  (16, xLdI 17 2),
  (17, xPfI 20 2 1),
  (20, xLdA 21 0),
  (21, xLdI 22 2),
  (24, xPfR 27 2 2),
  (27, xLdA 28 0),
  (28, xLdI 29 2),
  (31, xPfR 34 2 3),
  (34, xLdA 35 0),
  (35, xLdI 36 2),
  (38, xPfR 41 2 4),
  (41, xLdA 42 0),
  (42, xLdI 43 2),
  (45, xPfR 48 2 5),
  (48, xRetV)]
theorem sX2_init_0 : Snd MX2_init 0 (xLdA 1 0) := snd_aload_n (M := MX2_init) (pc := 0) dX2_init_0
theorem sX2_init_1 : Snd MX2_init 1 (xObj 4) := snd_obj (M := MX2_init) (pc := 1) dX2_init_1 w209 w74 w75 (by decide)
theorem sX2_init_4 : Snd MX2_init 4 (xLdI 5 1) := snd_iload_n (M := MX2_init) (pc := 4) dX2_init_4
theorem sX2_init_5 : Snd MX2_init 5 (xK 6 (nI 1)) := snd_iconst (M := MX2_init) (pc := 5) dX2_init_5 (by decide +kernel)
theorem sX2_init_6 : Snd MX2_init 6 (xC_ge 13 9) := snd_icmp_ge (M := MX2_init) (pc := 6) dX2_init_6 (by decide)
theorem sX2_init_9 : Snd MX2_init 9 (xK 10 (nI 1)) := snd_iconst (M := MX2_init) (pc := 9) dX2_init_9 (by decide +kernel)
theorem sX2_init_10 : Snd MX2_init 10 (xGo 14) := snd_goto (M := MX2_init) (pc := 10) dX2_init_10 (by decide)
theorem sX2_init_13 : Snd MX2_init 13 (xLdI 14 1) := snd_iload_n (M := MX2_init) (pc := 13) dX2_init_13
theorem sX2_init_14 : Snd MX2_init 14 (xStI 15 2) := snd_istore_n (M := MX2_init) (pc := 14) dX2_init_14 (by decide)
theorem sX2_init_15 : Snd MX2_init 15 (xLdA 16 0) := snd_aload_n (M := MX2_init) (pc := 15) dX2_init_15
theorem sX2_init_16 : Snd MX2_init 16 (xLdI 17 2) := snd_iload_n (M := MX2_init) (pc := 16) dX2_init_16
theorem sX2_init_17 : Snd MX2_init 17 (xPfI 20 2 1) := snd_pfIF (M := MX2_init) (pc := 17) (C0 := RX2) (T0 := TX2) (N := 6) dX2_init_17 rfl tbX2 tyX2 tyX2_ok nmX2 (by decide) w210 rfl rfl rfl (by decide +kernel)
theorem sX2_init_20 : Snd MX2_init 20 (xLdA 21 0) := snd_aload_n (M := MX2_init) (pc := 20) dX2_init_20
theorem sX2_init_21 : Snd MX2_init 21 (xLdI 22 2) := snd_iload_n (M := MX2_init) (pc := 21) dX2_init_21
theorem sX2_init_24 : Snd MX2_init 24 (xPfR 27 2 2) := snd_pfRF (M := MX2_init) (pc := 24) (C0 := RX2) (T0 := TX2) (N := 6) dX2_init_24 rfl tbX2 tyX2 tyX2_ok nmX2 (by decide) w211 rfl rfl rfl (tyX2_ok 2 (by decide)) (fun _ => rfl) (fun _ => rfl)
theorem sX2_init_27 : Snd MX2_init 27 (xLdA 28 0) := snd_aload_n (M := MX2_init) (pc := 27) dX2_init_27
theorem sX2_init_28 : Snd MX2_init 28 (xLdI 29 2) := snd_iload_n (M := MX2_init) (pc := 28) dX2_init_28
theorem sX2_init_31 : Snd MX2_init 31 (xPfR 34 2 3) := snd_pfRF (M := MX2_init) (pc := 31) (C0 := RX2) (T0 := TX2) (N := 6) dX2_init_31 rfl tbX2 tyX2 tyX2_ok nmX2 (by decide) w212 rfl rfl rfl (tyX2_ok 3 (by decide)) (fun _ => rfl) (fun _ => rfl)
theorem sX2_init_34 : Snd MX2_init 34 (xLdA 35 0) := snd_aload_n (M := MX2_init) (pc := 34) dX2_init_34
theorem sX2_init_35 : Snd MX2_init 35 (xLdI 36 2) := snd_iload_n (M := MX2_init) (pc := 35) dX2_init_35
theorem sX2_init_38 : Snd MX2_init 38 (xPfR 41 2 4) := snd_pfRF (M := MX2_init) (pc := 38) (C0 := RX2) (T0 := TX2) (N := 6) dX2_init_38 rfl tbX2 tyX2 tyX2_ok nmX2 (by decide) w213 rfl rfl rfl (tyX2_ok 4 (by decide)) (fun _ => rfl) (fun _ => rfl)
theorem sX2_init_41 : Snd MX2_init 41 (xLdA 42 0) := snd_aload_n (M := MX2_init) (pc := 41) dX2_init_41
theorem sX2_init_42 : Snd MX2_init 42 (xLdI 43 2) := snd_iload_n (M := MX2_init) (pc := 42) dX2_init_42
theorem sX2_init_45 : Snd MX2_init 45 (xPfR 48 2 5) := snd_pfRF (M := MX2_init) (pc := 45) (C0 := RX2) (T0 := TX2) (N := 6) dX2_init_45 rfl tbX2 tyX2 tyX2_ok nmX2 (by decide) w214 rfl rfl rfl (tyX2_ok 5 (by decide)) (fun _ => rfl) (fun _ => rfl)
theorem sX2_init_48 : Snd MX2_init 48 (xRetV) := snd_vret (M := MX2_init) (pc := 48) dX2_init_48 rfl
theorem VX2_init : Valid MX2_init LX2_init := va_lid sX2_init_0 (va_lid sX2_init_1 (va_lid sX2_init_4 (va_lid sX2_init_5 (va_lid sX2_init_6 (va_lid sX2_init_9 (va_lid sX2_init_10 (va_lid sX2_init_13 (va_lid sX2_init_14 (va_lid sX2_init_15 (va_lid sX2_init_16 (va_lid sX2_init_17 (va_lid sX2_init_20 (va_lid sX2_init_21 (va_lid sX2_init_24 (va_lid sX2_init_27 (va_lid sX2_init_28 (va_lid sX2_init_31 (va_lid sX2_init_34 (va_lid sX2_init_35 (va_lid sX2_init_38 (va_lid sX2_init_41 (va_lid sX2_init_42 (va_lid sX2_init_45 (va_lid sX2_init_48 (va_lid0)))))))))))))))))))))))))
theorem kX2_init_0 : lk LX2_init 0 = some (xLdA 1 0) := rfl
theorem kX2_init_1 : lk LX2_init 1 = some (xObj 4) := rfl
theorem kX2_init_4 : lk LX2_init 4 = some (xLdI 5 1) := rfl
theorem kX2_init_5 : lk LX2_init 5 = some (xK 6 (nI 1)) := rfl
theorem kX2_init_6 : lk LX2_init 6 = some (xC_ge 13 9) := rfl
theorem kX2_init_9 : lk LX2_init 9 = some (xK 10 (nI 1)) := rfl
theorem kX2_init_10 : lk LX2_init 10 = some (xGo 14) := rfl
theorem kX2_init_13 : lk LX2_init 13 = some (xLdI 14 1) := rfl
theorem kX2_init_14 : lk LX2_init 14 = some (xStI 15 2) := rfl
theorem kX2_init_15 : lk LX2_init 15 = some (xLdA 16 0) := rfl
theorem kX2_init_16 : lk LX2_init 16 = some (xLdI 17 2) := rfl
theorem kX2_init_17 : lk LX2_init 17 = some (xPfI 20 2 1) := rfl
theorem kX2_init_20 : lk LX2_init 20 = some (xLdA 21 0) := rfl
theorem kX2_init_21 : lk LX2_init 21 = some (xLdI 22 2) := rfl
theorem kX2_init_24 : lk LX2_init 24 = some (xPfR 27 2 2) := rfl
theorem kX2_init_27 : lk LX2_init 27 = some (xLdA 28 0) := rfl
theorem kX2_init_28 : lk LX2_init 28 = some (xLdI 29 2) := rfl
theorem kX2_init_31 : lk LX2_init 31 = some (xPfR 34 2 3) := rfl
theorem kX2_init_34 : lk LX2_init 34 = some (xLdA 35 0) := rfl
theorem kX2_init_35 : lk LX2_init 35 = some (xLdI 36 2) := rfl
theorem kX2_init_38 : lk LX2_init 38 = some (xPfR 41 2 4) := rfl
theorem kX2_init_41 : lk LX2_init 41 = some (xLdA 42 0) := rfl
theorem kX2_init_42 : lk LX2_init 42 = some (xLdI 43 2) := rfl
theorem kX2_init_45 : lk LX2_init 45 = some (xPfR 48 2 5) := rfl
theorem kX2_init_48 : lk LX2_init 48 = some (xRetV) := rfl
def LX2_empty : List (Nat × XI) := [(0, xLdA 1 0),
  (1, xK 2 (nI 0)),
  (2, xPfI 5 2 0),
  (5, xRetV)]
theorem sX2_empty_0 : Snd MX2_empty 0 (xLdA 1 0) := snd_aload_n (M := MX2_empty) (pc := 0) dX2_empty_0
theorem sX2_empty_1 : Snd MX2_empty 1 (xK 2 (nI 0)) := snd_iconst (M := MX2_empty) (pc := 1) dX2_empty_1 (by decide +kernel)
theorem sX2_empty_2 : Snd MX2_empty 2 (xPfI 5 2 0) := snd_pfI (M := MX2_empty) (pc := 2) (C0 := RX2) (T0 := TX2) (N := 6) dX2_empty_2 rfl tbX2 tyX2 tyX2_ok nmX2 (by decide) w215 rfl (by decide +kernel)
theorem sX2_empty_5 : Snd MX2_empty 5 (xRetV) := snd_vret (M := MX2_empty) (pc := 5) dX2_empty_5 rfl
theorem VX2_empty : Valid MX2_empty LX2_empty := va_lid sX2_empty_0 (va_lid sX2_empty_1 (va_lid sX2_empty_2 (va_lid sX2_empty_5 (va_lid0))))
theorem kX2_empty_0 : lk LX2_empty 0 = some (xLdA 1 0) := rfl
theorem kX2_empty_1 : lk LX2_empty 1 = some (xK 2 (nI 0)) := rfl
theorem kX2_empty_2 : lk LX2_empty 2 = some (xPfI 5 2 0) := rfl
theorem kX2_empty_5 : lk LX2_empty 5 = some (xRetV) := rfl
def LX2_add : List (Nat × XI) := [(0, xLdA 1 0),
  (1, xGf 4 2 0),
  (4, xLdA 5 0),
  (5, xGf 8 2 1),
  (8, xC_lt 15 11),
  (11, xLdA 12 0),
  (12, xCallV MX2_dropLowest 2 0 15),
  (15, xLdA 16 0),
  (16, xGf 19 2 2),
  (19, xLdA 20 0),
  (20, xGf 23 2 0),
  (23, xLdA 24 1),
  (24, xGf 27 1 0),
  (27, xCallS MX5_store 3 30),
  (30, xLdA 31 0),
  (31, xGf 34 2 3),
  (34, xLdA 35 0),
  (35, xGf 38 2 0),
  (38, xLdA 39 1),
  (39, xGf 42 1 1),
  (42, xCallS MX5_store 3 45),
  (45, xLdA 46 0),
  (46, xGf 49 2 4),
  (49, xLdA 50 0),
  (50, xGf 53 2 0),
  (53, xLdA 54 1),
  (54, xGf 57 1 2),
  (57, xCallS MX5_store 3 60),
  (60, xLdA 61 0),
  (61, xGf 64 2 5),
  (64, xLdA 65 0),
  (65, xGf 68 2 0),
  (68, xLdA 69 1),
  (69, xGf 72 1 3),
  (72, xCallS MX5_store 3 75),
  (75, xLdA 76 0),
  (76, xDup 77),
  (77, xGf 80 2 0),
  (80, xK 81 (nI 1)),
  (81, xBin 82 f_iadd),
  (82, xPfI 85 2 0),
  (85, xRetV)]
theorem sX2_add_0 : Snd MX2_add 0 (xLdA 1 0) := snd_aload_n (M := MX2_add) (pc := 0) dX2_add_0
theorem sX2_add_1 : Snd MX2_add 1 (xGf 4 2 0) := snd_gf (M := MX2_add) (pc := 1) (C0 := RX2) (T0 := TX2) (N := 6) dX2_add_1 rfl tbX2 (by decide) w215
theorem sX2_add_4 : Snd MX2_add 4 (xLdA 5 0) := snd_aload_n (M := MX2_add) (pc := 4) dX2_add_4
theorem sX2_add_5 : Snd MX2_add 5 (xGf 8 2 1) := snd_gf (M := MX2_add) (pc := 5) (C0 := RX2) (T0 := TX2) (N := 6) dX2_add_5 rfl tbX2 (by decide) w210
theorem sX2_add_8 : Snd MX2_add 8 (xC_lt 15 11) := snd_icmp_lt (M := MX2_add) (pc := 8) dX2_add_8 (by decide)
theorem sX2_add_11 : Snd MX2_add 11 (xLdA 12 0) := snd_aload_n (M := MX2_add) (pc := 11) dX2_add_11
theorem sX2_add_12 : Snd MX2_add 12 (xCallV MX2_dropLowest 2 0 15) := snd_callV (M := MX2_add) (pc := 12) (n := 0) dX2_add_12 rfl w218 w219 w220 ⟨w216, w217, ⟨by decide, by decide, by decide +kernel⟩, by decide⟩ ⟨rfl, rfl⟩
theorem sX2_add_15 : Snd MX2_add 15 (xLdA 16 0) := snd_aload_n (M := MX2_add) (pc := 15) dX2_add_15
theorem sX2_add_16 : Snd MX2_add 16 (xGf 19 2 2) := snd_gf (M := MX2_add) (pc := 16) (C0 := RX2) (T0 := TX2) (N := 6) dX2_add_16 rfl tbX2 (by decide) w211
theorem sX2_add_19 : Snd MX2_add 19 (xLdA 20 0) := snd_aload_n (M := MX2_add) (pc := 19) dX2_add_19
theorem sX2_add_20 : Snd MX2_add 20 (xGf 23 2 0) := snd_gf (M := MX2_add) (pc := 20) (C0 := RX2) (T0 := TX2) (N := 6) dX2_add_20 rfl tbX2 (by decide) w215
theorem sX2_add_23 : Snd MX2_add 23 (xLdA 24 1) := snd_aload_n (M := MX2_add) (pc := 23) dX2_add_23
theorem sX2_add_24 : Snd MX2_add 24 (xGf 27 1 0) := snd_gf (M := MX2_add) (pc := 24) (C0 := RX1) (T0 := TX1) (N := 4) dX2_add_24 rfl tbX1 (by decide) w221
theorem sX2_add_27 : Snd MX2_add 27 (xCallS MX5_store 3 30) := snd_callSN (M := MX2_add) (pc := 27) (n := 3) dX2_add_27 nt10 w141 ⟨w115, w140, ⟨by decide, by decide, by decide +kernel⟩, by decide⟩ ⟨rfl, rfl⟩
theorem sX2_add_30 : Snd MX2_add 30 (xLdA 31 0) := snd_aload_n (M := MX2_add) (pc := 30) dX2_add_30
theorem sX2_add_31 : Snd MX2_add 31 (xGf 34 2 3) := snd_gf (M := MX2_add) (pc := 31) (C0 := RX2) (T0 := TX2) (N := 6) dX2_add_31 rfl tbX2 (by decide) w212
theorem sX2_add_34 : Snd MX2_add 34 (xLdA 35 0) := snd_aload_n (M := MX2_add) (pc := 34) dX2_add_34
theorem sX2_add_35 : Snd MX2_add 35 (xGf 38 2 0) := snd_gf (M := MX2_add) (pc := 35) (C0 := RX2) (T0 := TX2) (N := 6) dX2_add_35 rfl tbX2 (by decide) w215
theorem sX2_add_38 : Snd MX2_add 38 (xLdA 39 1) := snd_aload_n (M := MX2_add) (pc := 38) dX2_add_38
theorem sX2_add_39 : Snd MX2_add 39 (xGf 42 1 1) := snd_gf (M := MX2_add) (pc := 39) (C0 := RX1) (T0 := TX1) (N := 4) dX2_add_39 rfl tbX1 (by decide) w222
theorem sX2_add_42 : Snd MX2_add 42 (xCallS MX5_store 3 45) := snd_callSN (M := MX2_add) (pc := 42) (n := 3) dX2_add_42 nt10 w141 ⟨w115, w140, ⟨by decide, by decide, by decide +kernel⟩, by decide⟩ ⟨rfl, rfl⟩
theorem sX2_add_45 : Snd MX2_add 45 (xLdA 46 0) := snd_aload_n (M := MX2_add) (pc := 45) dX2_add_45
theorem sX2_add_46 : Snd MX2_add 46 (xGf 49 2 4) := snd_gf (M := MX2_add) (pc := 46) (C0 := RX2) (T0 := TX2) (N := 6) dX2_add_46 rfl tbX2 (by decide) w213
theorem sX2_add_49 : Snd MX2_add 49 (xLdA 50 0) := snd_aload_n (M := MX2_add) (pc := 49) dX2_add_49
theorem sX2_add_50 : Snd MX2_add 50 (xGf 53 2 0) := snd_gf (M := MX2_add) (pc := 50) (C0 := RX2) (T0 := TX2) (N := 6) dX2_add_50 rfl tbX2 (by decide) w215
theorem sX2_add_53 : Snd MX2_add 53 (xLdA 54 1) := snd_aload_n (M := MX2_add) (pc := 53) dX2_add_53
theorem sX2_add_54 : Snd MX2_add 54 (xGf 57 1 2) := snd_gf (M := MX2_add) (pc := 54) (C0 := RX1) (T0 := TX1) (N := 4) dX2_add_54 rfl tbX1 (by decide) w223
theorem sX2_add_57 : Snd MX2_add 57 (xCallS MX5_store 3 60) := snd_callSN (M := MX2_add) (pc := 57) (n := 3) dX2_add_57 nt10 w141 ⟨w115, w140, ⟨by decide, by decide, by decide +kernel⟩, by decide⟩ ⟨rfl, rfl⟩
theorem sX2_add_60 : Snd MX2_add 60 (xLdA 61 0) := snd_aload_n (M := MX2_add) (pc := 60) dX2_add_60
theorem sX2_add_61 : Snd MX2_add 61 (xGf 64 2 5) := snd_gf (M := MX2_add) (pc := 61) (C0 := RX2) (T0 := TX2) (N := 6) dX2_add_61 rfl tbX2 (by decide) w214
theorem sX2_add_64 : Snd MX2_add 64 (xLdA 65 0) := snd_aload_n (M := MX2_add) (pc := 64) dX2_add_64
theorem sX2_add_65 : Snd MX2_add 65 (xGf 68 2 0) := snd_gf (M := MX2_add) (pc := 65) (C0 := RX2) (T0 := TX2) (N := 6) dX2_add_65 rfl tbX2 (by decide) w215
theorem sX2_add_68 : Snd MX2_add 68 (xLdA 69 1) := snd_aload_n (M := MX2_add) (pc := 68) dX2_add_68
theorem sX2_add_69 : Snd MX2_add 69 (xGf 72 1 3) := snd_gf (M := MX2_add) (pc := 69) (C0 := RX1) (T0 := TX1) (N := 4) dX2_add_69 rfl tbX1 (by decide) w224
theorem sX2_add_72 : Snd MX2_add 72 (xCallS MX5_store 3 75) := snd_callSN (M := MX2_add) (pc := 72) (n := 3) dX2_add_72 nt10 w141 ⟨w115, w140, ⟨by decide, by decide, by decide +kernel⟩, by decide⟩ ⟨rfl, rfl⟩
theorem sX2_add_75 : Snd MX2_add 75 (xLdA 76 0) := snd_aload_n (M := MX2_add) (pc := 75) dX2_add_75
theorem sX2_add_76 : Snd MX2_add 76 (xDup 77) := snd_dup (M := MX2_add) (pc := 76) dX2_add_76
theorem sX2_add_77 : Snd MX2_add 77 (xGf 80 2 0) := snd_gf (M := MX2_add) (pc := 77) (C0 := RX2) (T0 := TX2) (N := 6) dX2_add_77 rfl tbX2 (by decide) w215
theorem sX2_add_80 : Snd MX2_add 80 (xK 81 (nI 1)) := snd_iconst (M := MX2_add) (pc := 80) dX2_add_80 (by decide +kernel)
theorem sX2_add_81 : Snd MX2_add 81 (xBin 82 f_iadd) := snd_iadd (M := MX2_add) (pc := 81) dX2_add_81
theorem sX2_add_82 : Snd MX2_add 82 (xPfI 85 2 0) := snd_pfI (M := MX2_add) (pc := 82) (C0 := RX2) (T0 := TX2) (N := 6) dX2_add_82 rfl tbX2 tyX2 tyX2_ok nmX2 (by decide) w215 rfl (by decide +kernel)
theorem sX2_add_85 : Snd MX2_add 85 (xRetV) := snd_vret (M := MX2_add) (pc := 85) dX2_add_85 rfl
theorem VX2_add : Valid MX2_add LX2_add := va_lid sX2_add_0 (va_lid sX2_add_1 (va_lid sX2_add_4 (va_lid sX2_add_5 (va_lid sX2_add_8 (va_lid sX2_add_11 (va_lid sX2_add_12 (va_lid sX2_add_15 (va_lid sX2_add_16 (va_lid sX2_add_19 (va_lid sX2_add_20 (va_lid sX2_add_23 (va_lid sX2_add_24 (va_lid sX2_add_27 (va_lid sX2_add_30 (va_lid sX2_add_31 (va_lid sX2_add_34 (va_lid sX2_add_35 (va_lid sX2_add_38 (va_lid sX2_add_39 (va_lid sX2_add_42 (va_lid sX2_add_45 (va_lid sX2_add_46 (va_lid sX2_add_49 (va_lid sX2_add_50 (va_lid sX2_add_53 (va_lid sX2_add_54 (va_lid sX2_add_57 (va_lid sX2_add_60 (va_lid sX2_add_61 (va_lid sX2_add_64 (va_lid sX2_add_65 (va_lid sX2_add_68 (va_lid sX2_add_69 (va_lid sX2_add_72 (va_lid sX2_add_75 (va_lid sX2_add_76 (va_lid sX2_add_77 (va_lid sX2_add_80 (va_lid sX2_add_81 (va_lid sX2_add_82 (va_lid sX2_add_85 (va_lid0))))))))))))))))))))))))))))))))))))))))))
theorem kX2_add_0 : lk LX2_add 0 = some (xLdA 1 0) := rfl
theorem kX2_add_1 : lk LX2_add 1 = some (xGf 4 2 0) := rfl
theorem kX2_add_4 : lk LX2_add 4 = some (xLdA 5 0) := rfl
theorem kX2_add_5 : lk LX2_add 5 = some (xGf 8 2 1) := rfl
theorem kX2_add_8 : lk LX2_add 8 = some (xC_lt 15 11) := rfl
theorem kX2_add_11 : lk LX2_add 11 = some (xLdA 12 0) := rfl
theorem kX2_add_12 : lk LX2_add 12 = some (xCallV MX2_dropLowest 2 0 15) := rfl
theorem kX2_add_15 : lk LX2_add 15 = some (xLdA 16 0) := rfl
theorem kX2_add_16 : lk LX2_add 16 = some (xGf 19 2 2) := rfl
theorem kX2_add_19 : lk LX2_add 19 = some (xLdA 20 0) := rfl
theorem kX2_add_20 : lk LX2_add 20 = some (xGf 23 2 0) := rfl
theorem kX2_add_23 : lk LX2_add 23 = some (xLdA 24 1) := rfl
theorem kX2_add_24 : lk LX2_add 24 = some (xGf 27 1 0) := rfl
theorem kX2_add_27 : lk LX2_add 27 = some (xCallS MX5_store 3 30) := rfl
theorem kX2_add_30 : lk LX2_add 30 = some (xLdA 31 0) := rfl
theorem kX2_add_31 : lk LX2_add 31 = some (xGf 34 2 3) := rfl
theorem kX2_add_34 : lk LX2_add 34 = some (xLdA 35 0) := rfl
theorem kX2_add_35 : lk LX2_add 35 = some (xGf 38 2 0) := rfl
theorem kX2_add_38 : lk LX2_add 38 = some (xLdA 39 1) := rfl
theorem kX2_add_39 : lk LX2_add 39 = some (xGf 42 1 1) := rfl
theorem kX2_add_42 : lk LX2_add 42 = some (xCallS MX5_store 3 45) := rfl
theorem kX2_add_45 : lk LX2_add 45 = some (xLdA 46 0) := rfl
theorem kX2_add_46 : lk LX2_add 46 = some (xGf 49 2 4) := rfl
theorem kX2_add_49 : lk LX2_add 49 = some (xLdA 50 0) := rfl
theorem kX2_add_50 : lk LX2_add 50 = some (xGf 53 2 0) := rfl
theorem kX2_add_53 : lk LX2_add 53 = some (xLdA 54 1) := rfl
theorem kX2_add_54 : lk LX2_add 54 = some (xGf 57 1 2) := rfl
theorem kX2_add_57 : lk LX2_add 57 = some (xCallS MX5_store 3 60) := rfl
theorem kX2_add_60 : lk LX2_add 60 = some (xLdA 61 0) := rfl
theorem kX2_add_61 : lk LX2_add 61 = some (xGf 64 2 5) := rfl
theorem kX2_add_64 : lk LX2_add 64 = some (xLdA 65 0) := rfl
theorem kX2_add_65 : lk LX2_add 65 = some (xGf 68 2 0) := rfl
theorem kX2_add_68 : lk LX2_add 68 = some (xLdA 69 1) := rfl
theorem kX2_add_69 : lk LX2_add 69 = some (xGf 72 1 3) := rfl
theorem kX2_add_72 : lk LX2_add 72 = some (xCallS MX5_store 3 75) := rfl
theorem kX2_add_75 : lk LX2_add 75 = some (xLdA 76 0) := rfl
theorem kX2_add_76 : lk LX2_add 76 = some (xDup 77) := rfl
theorem kX2_add_77 : lk LX2_add 77 = some (xGf 80 2 0) := rfl
theorem kX2_add_80 : lk LX2_add 80 = some (xK 81 (nI 1)) := rfl
theorem kX2_add_81 : lk LX2_add 81 = some (xBin 82 f_iadd) := rfl
theorem kX2_add_82 : lk LX2_add 82 = some (xPfI 85 2 0) := rfl
theorem kX2_add_85 : lk LX2_add 85 = some (xRetV) := rfl
def LX2_takeTop : List (Nat × XI) := [(0, xLdA 1 0),
  (1, xGf 4 2 0),
  (4, xZ_le 77 7),
  (7, xLdA 8 0),
  (8, xDup 9),
  (9, xGf 12 2 0),
  (12, xK 13 (nI 1)),
  (13, xBin 14 f_isub),
  (14, xPfI 17 2 0),
  (17, xLdA 18 1),
  (18, xLdA 19 0),
  (19, xGf 22 2 2),
  (22, xLdA 23 0),
  (23, xGf 26 2 0),
  (26, xCallS MX5_at 2 29),
  (29, xPfI 32 1 0),
  (32, xLdA 33 1),
  (33, xLdA 34 0),
  (34, xGf 37 2 3),
  (37, xLdA 38 0),
  (38, xGf 41 2 0),
  (41, xCallS MX5_at 2 44),
  (44, xPfI 47 1 1),
  (47, xLdA 48 1),
  (48, xLdA 49 0),
  (49, xGf 52 2 4),
  (52, xLdA 53 0),
  (53, xGf 56 2 0),
  (56, xCallS MX5_at 2 59),
  (59, xPfI 62 1 2),
  (62, xLdA 63 1),
  (63, xLdA 64 0),
  (64, xGf 67 2 5),
  (67, xLdA 68 0),
  (68, xGf 71 2 0),
  (71, xCallS MX5_at 2 74),
  (74, xPfI 77 1 3),
  (77, xRetV)]
theorem sX2_takeTop_0 : Snd MX2_takeTop 0 (xLdA 1 0) := snd_aload_n (M := MX2_takeTop) (pc := 0) dX2_takeTop_0
theorem sX2_takeTop_1 : Snd MX2_takeTop 1 (xGf 4 2 0) := snd_gf (M := MX2_takeTop) (pc := 1) (C0 := RX2) (T0 := TX2) (N := 6) dX2_takeTop_1 rfl tbX2 (by decide) w215
theorem sX2_takeTop_4 : Snd MX2_takeTop 4 (xZ_le 77 7) := snd_if_le (M := MX2_takeTop) (pc := 4) dX2_takeTop_4 (by decide)
theorem sX2_takeTop_7 : Snd MX2_takeTop 7 (xLdA 8 0) := snd_aload_n (M := MX2_takeTop) (pc := 7) dX2_takeTop_7
theorem sX2_takeTop_8 : Snd MX2_takeTop 8 (xDup 9) := snd_dup (M := MX2_takeTop) (pc := 8) dX2_takeTop_8
theorem sX2_takeTop_9 : Snd MX2_takeTop 9 (xGf 12 2 0) := snd_gf (M := MX2_takeTop) (pc := 9) (C0 := RX2) (T0 := TX2) (N := 6) dX2_takeTop_9 rfl tbX2 (by decide) w215
theorem sX2_takeTop_12 : Snd MX2_takeTop 12 (xK 13 (nI 1)) := snd_iconst (M := MX2_takeTop) (pc := 12) dX2_takeTop_12 (by decide +kernel)
theorem sX2_takeTop_13 : Snd MX2_takeTop 13 (xBin 14 f_isub) := snd_isub (M := MX2_takeTop) (pc := 13) dX2_takeTop_13
theorem sX2_takeTop_14 : Snd MX2_takeTop 14 (xPfI 17 2 0) := snd_pfI (M := MX2_takeTop) (pc := 14) (C0 := RX2) (T0 := TX2) (N := 6) dX2_takeTop_14 rfl tbX2 tyX2 tyX2_ok nmX2 (by decide) w215 rfl (by decide +kernel)
theorem sX2_takeTop_17 : Snd MX2_takeTop 17 (xLdA 18 1) := snd_aload_n (M := MX2_takeTop) (pc := 17) dX2_takeTop_17
theorem sX2_takeTop_18 : Snd MX2_takeTop 18 (xLdA 19 0) := snd_aload_n (M := MX2_takeTop) (pc := 18) dX2_takeTop_18
theorem sX2_takeTop_19 : Snd MX2_takeTop 19 (xGf 22 2 2) := snd_gf (M := MX2_takeTop) (pc := 19) (C0 := RX2) (T0 := TX2) (N := 6) dX2_takeTop_19 rfl tbX2 (by decide) w211
theorem sX2_takeTop_22 : Snd MX2_takeTop 22 (xLdA 23 0) := snd_aload_n (M := MX2_takeTop) (pc := 22) dX2_takeTop_22
theorem sX2_takeTop_23 : Snd MX2_takeTop 23 (xGf 26 2 0) := snd_gf (M := MX2_takeTop) (pc := 23) (C0 := RX2) (T0 := TX2) (N := 6) dX2_takeTop_23 rfl tbX2 (by decide) w215
theorem sX2_takeTop_26 : Snd MX2_takeTop 26 (xCallS MX5_at 2 29) := snd_callSN (M := MX2_takeTop) (pc := 26) (n := 2) dX2_takeTop_26 nt9 w123 ⟨w115, w122, ⟨by decide, by decide, by decide +kernel⟩, by decide⟩ ⟨rfl, rfl⟩
theorem sX2_takeTop_29 : Snd MX2_takeTop 29 (xPfI 32 1 0) := snd_pfI (M := MX2_takeTop) (pc := 29) (C0 := RX1) (T0 := TX1) (N := 4) dX2_takeTop_29 rfl tbX1 tyX1 tyX1_ok nmX1 (by decide) w221 rfl (by decide +kernel)
theorem sX2_takeTop_32 : Snd MX2_takeTop 32 (xLdA 33 1) := snd_aload_n (M := MX2_takeTop) (pc := 32) dX2_takeTop_32
theorem sX2_takeTop_33 : Snd MX2_takeTop 33 (xLdA 34 0) := snd_aload_n (M := MX2_takeTop) (pc := 33) dX2_takeTop_33
theorem sX2_takeTop_34 : Snd MX2_takeTop 34 (xGf 37 2 3) := snd_gf (M := MX2_takeTop) (pc := 34) (C0 := RX2) (T0 := TX2) (N := 6) dX2_takeTop_34 rfl tbX2 (by decide) w212
theorem sX2_takeTop_37 : Snd MX2_takeTop 37 (xLdA 38 0) := snd_aload_n (M := MX2_takeTop) (pc := 37) dX2_takeTop_37
theorem sX2_takeTop_38 : Snd MX2_takeTop 38 (xGf 41 2 0) := snd_gf (M := MX2_takeTop) (pc := 38) (C0 := RX2) (T0 := TX2) (N := 6) dX2_takeTop_38 rfl tbX2 (by decide) w215
theorem sX2_takeTop_41 : Snd MX2_takeTop 41 (xCallS MX5_at 2 44) := snd_callSN (M := MX2_takeTop) (pc := 41) (n := 2) dX2_takeTop_41 nt9 w123 ⟨w115, w122, ⟨by decide, by decide, by decide +kernel⟩, by decide⟩ ⟨rfl, rfl⟩
theorem sX2_takeTop_44 : Snd MX2_takeTop 44 (xPfI 47 1 1) := snd_pfI (M := MX2_takeTop) (pc := 44) (C0 := RX1) (T0 := TX1) (N := 4) dX2_takeTop_44 rfl tbX1 tyX1 tyX1_ok nmX1 (by decide) w222 rfl (by decide +kernel)
theorem sX2_takeTop_47 : Snd MX2_takeTop 47 (xLdA 48 1) := snd_aload_n (M := MX2_takeTop) (pc := 47) dX2_takeTop_47
theorem sX2_takeTop_48 : Snd MX2_takeTop 48 (xLdA 49 0) := snd_aload_n (M := MX2_takeTop) (pc := 48) dX2_takeTop_48
theorem sX2_takeTop_49 : Snd MX2_takeTop 49 (xGf 52 2 4) := snd_gf (M := MX2_takeTop) (pc := 49) (C0 := RX2) (T0 := TX2) (N := 6) dX2_takeTop_49 rfl tbX2 (by decide) w213
theorem sX2_takeTop_52 : Snd MX2_takeTop 52 (xLdA 53 0) := snd_aload_n (M := MX2_takeTop) (pc := 52) dX2_takeTop_52
theorem sX2_takeTop_53 : Snd MX2_takeTop 53 (xGf 56 2 0) := snd_gf (M := MX2_takeTop) (pc := 53) (C0 := RX2) (T0 := TX2) (N := 6) dX2_takeTop_53 rfl tbX2 (by decide) w215
theorem sX2_takeTop_56 : Snd MX2_takeTop 56 (xCallS MX5_at 2 59) := snd_callSN (M := MX2_takeTop) (pc := 56) (n := 2) dX2_takeTop_56 nt9 w123 ⟨w115, w122, ⟨by decide, by decide, by decide +kernel⟩, by decide⟩ ⟨rfl, rfl⟩
theorem sX2_takeTop_59 : Snd MX2_takeTop 59 (xPfI 62 1 2) := snd_pfI (M := MX2_takeTop) (pc := 59) (C0 := RX1) (T0 := TX1) (N := 4) dX2_takeTop_59 rfl tbX1 tyX1 tyX1_ok nmX1 (by decide) w223 rfl (by decide +kernel)
theorem sX2_takeTop_62 : Snd MX2_takeTop 62 (xLdA 63 1) := snd_aload_n (M := MX2_takeTop) (pc := 62) dX2_takeTop_62
theorem sX2_takeTop_63 : Snd MX2_takeTop 63 (xLdA 64 0) := snd_aload_n (M := MX2_takeTop) (pc := 63) dX2_takeTop_63
theorem sX2_takeTop_64 : Snd MX2_takeTop 64 (xGf 67 2 5) := snd_gf (M := MX2_takeTop) (pc := 64) (C0 := RX2) (T0 := TX2) (N := 6) dX2_takeTop_64 rfl tbX2 (by decide) w214
theorem sX2_takeTop_67 : Snd MX2_takeTop 67 (xLdA 68 0) := snd_aload_n (M := MX2_takeTop) (pc := 67) dX2_takeTop_67
theorem sX2_takeTop_68 : Snd MX2_takeTop 68 (xGf 71 2 0) := snd_gf (M := MX2_takeTop) (pc := 68) (C0 := RX2) (T0 := TX2) (N := 6) dX2_takeTop_68 rfl tbX2 (by decide) w215
theorem sX2_takeTop_71 : Snd MX2_takeTop 71 (xCallS MX5_at 2 74) := snd_callSN (M := MX2_takeTop) (pc := 71) (n := 2) dX2_takeTop_71 nt9 w123 ⟨w115, w122, ⟨by decide, by decide, by decide +kernel⟩, by decide⟩ ⟨rfl, rfl⟩
theorem sX2_takeTop_74 : Snd MX2_takeTop 74 (xPfI 77 1 3) := snd_pfI (M := MX2_takeTop) (pc := 74) (C0 := RX1) (T0 := TX1) (N := 4) dX2_takeTop_74 rfl tbX1 tyX1 tyX1_ok nmX1 (by decide) w224 rfl (by decide +kernel)
theorem sX2_takeTop_77 : Snd MX2_takeTop 77 (xRetV) := snd_vret (M := MX2_takeTop) (pc := 77) dX2_takeTop_77 rfl
theorem VX2_takeTop : Valid MX2_takeTop LX2_takeTop := va_lid sX2_takeTop_0 (va_lid sX2_takeTop_1 (va_lid sX2_takeTop_4 (va_lid sX2_takeTop_7 (va_lid sX2_takeTop_8 (va_lid sX2_takeTop_9 (va_lid sX2_takeTop_12 (va_lid sX2_takeTop_13 (va_lid sX2_takeTop_14 (va_lid sX2_takeTop_17 (va_lid sX2_takeTop_18 (va_lid sX2_takeTop_19 (va_lid sX2_takeTop_22 (va_lid sX2_takeTop_23 (va_lid sX2_takeTop_26 (va_lid sX2_takeTop_29 (va_lid sX2_takeTop_32 (va_lid sX2_takeTop_33 (va_lid sX2_takeTop_34 (va_lid sX2_takeTop_37 (va_lid sX2_takeTop_38 (va_lid sX2_takeTop_41 (va_lid sX2_takeTop_44 (va_lid sX2_takeTop_47 (va_lid sX2_takeTop_48 (va_lid sX2_takeTop_49 (va_lid sX2_takeTop_52 (va_lid sX2_takeTop_53 (va_lid sX2_takeTop_56 (va_lid sX2_takeTop_59 (va_lid sX2_takeTop_62 (va_lid sX2_takeTop_63 (va_lid sX2_takeTop_64 (va_lid sX2_takeTop_67 (va_lid sX2_takeTop_68 (va_lid sX2_takeTop_71 (va_lid sX2_takeTop_74 (va_lid sX2_takeTop_77 (va_lid0))))))))))))))))))))))))))))))))))))))
theorem kX2_takeTop_0 : lk LX2_takeTop 0 = some (xLdA 1 0) := rfl
theorem kX2_takeTop_1 : lk LX2_takeTop 1 = some (xGf 4 2 0) := rfl
theorem kX2_takeTop_4 : lk LX2_takeTop 4 = some (xZ_le 77 7) := rfl
theorem kX2_takeTop_7 : lk LX2_takeTop 7 = some (xLdA 8 0) := rfl
theorem kX2_takeTop_8 : lk LX2_takeTop 8 = some (xDup 9) := rfl
theorem kX2_takeTop_9 : lk LX2_takeTop 9 = some (xGf 12 2 0) := rfl
theorem kX2_takeTop_12 : lk LX2_takeTop 12 = some (xK 13 (nI 1)) := rfl
theorem kX2_takeTop_13 : lk LX2_takeTop 13 = some (xBin 14 f_isub) := rfl
theorem kX2_takeTop_14 : lk LX2_takeTop 14 = some (xPfI 17 2 0) := rfl
theorem kX2_takeTop_17 : lk LX2_takeTop 17 = some (xLdA 18 1) := rfl
theorem kX2_takeTop_18 : lk LX2_takeTop 18 = some (xLdA 19 0) := rfl
theorem kX2_takeTop_19 : lk LX2_takeTop 19 = some (xGf 22 2 2) := rfl
theorem kX2_takeTop_22 : lk LX2_takeTop 22 = some (xLdA 23 0) := rfl
theorem kX2_takeTop_23 : lk LX2_takeTop 23 = some (xGf 26 2 0) := rfl
theorem kX2_takeTop_26 : lk LX2_takeTop 26 = some (xCallS MX5_at 2 29) := rfl
theorem kX2_takeTop_29 : lk LX2_takeTop 29 = some (xPfI 32 1 0) := rfl
theorem kX2_takeTop_32 : lk LX2_takeTop 32 = some (xLdA 33 1) := rfl
theorem kX2_takeTop_33 : lk LX2_takeTop 33 = some (xLdA 34 0) := rfl
theorem kX2_takeTop_34 : lk LX2_takeTop 34 = some (xGf 37 2 3) := rfl
theorem kX2_takeTop_37 : lk LX2_takeTop 37 = some (xLdA 38 0) := rfl
theorem kX2_takeTop_38 : lk LX2_takeTop 38 = some (xGf 41 2 0) := rfl
theorem kX2_takeTop_41 : lk LX2_takeTop 41 = some (xCallS MX5_at 2 44) := rfl
theorem kX2_takeTop_44 : lk LX2_takeTop 44 = some (xPfI 47 1 1) := rfl
theorem kX2_takeTop_47 : lk LX2_takeTop 47 = some (xLdA 48 1) := rfl
theorem kX2_takeTop_48 : lk LX2_takeTop 48 = some (xLdA 49 0) := rfl
theorem kX2_takeTop_49 : lk LX2_takeTop 49 = some (xGf 52 2 4) := rfl
theorem kX2_takeTop_52 : lk LX2_takeTop 52 = some (xLdA 53 0) := rfl
theorem kX2_takeTop_53 : lk LX2_takeTop 53 = some (xGf 56 2 0) := rfl
theorem kX2_takeTop_56 : lk LX2_takeTop 56 = some (xCallS MX5_at 2 59) := rfl
theorem kX2_takeTop_59 : lk LX2_takeTop 59 = some (xPfI 62 1 2) := rfl
theorem kX2_takeTop_62 : lk LX2_takeTop 62 = some (xLdA 63 1) := rfl
theorem kX2_takeTop_63 : lk LX2_takeTop 63 = some (xLdA 64 0) := rfl
theorem kX2_takeTop_64 : lk LX2_takeTop 64 = some (xGf 67 2 5) := rfl
theorem kX2_takeTop_67 : lk LX2_takeTop 67 = some (xLdA 68 0) := rfl
theorem kX2_takeTop_68 : lk LX2_takeTop 68 = some (xGf 71 2 0) := rfl
theorem kX2_takeTop_71 : lk LX2_takeTop 71 = some (xCallS MX5_at 2 74) := rfl
theorem kX2_takeTop_74 : lk LX2_takeTop 74 = some (xPfI 77 1 3) := rfl
theorem kX2_takeTop_77 : lk LX2_takeTop 77 = some (xRetV) := rfl
def LX2_dropLowest : List (Nat × XI) := [(0, xK 1 (nI 1)),
  (1, xStI 2 1),
  (2, xLdI 3 1),
  (3, xLdA 4 0),
  (4, xGf 7 2 0),
  (7, xC_ge 88 10),
  (10, xLdA 11 0),
  (11, xGf 14 2 2),
  (14, xLdI 15 1),
  (15, xK 16 (nI 1)),
  (16, xBin 17 f_isub),
  (17, xLdA 18 0),
  (18, xGf 21 2 2),
  (21, xLdI 22 1),
  (22, xCallS MX5_at 2 25),
  (25, xCallS MX5_store 3 28),
  (28, xLdA 29 0),
  (29, xGf 32 2 3),
  (32, xLdI 33 1),
  (33, xK 34 (nI 1)),
  (34, xBin 35 f_isub),
  (35, xLdA 36 0),
  (36, xGf 39 2 3),
  (39, xLdI 40 1),
  (40, xCallS MX5_at 2 43),
  (43, xCallS MX5_store 3 46),
  (46, xLdA 47 0),
  (47, xGf 50 2 4),
  (50, xLdI 51 1),
  (51, xK 52 (nI 1)),
  (52, xBin 53 f_isub),
  (53, xLdA 54 0),
  (54, xGf 57 2 4),
  (57, xLdI 58 1),
  (58, xCallS MX5_at 2 61),
  (61, xCallS MX5_store 3 64),
  (64, xLdA 65 0),
  (65, xGf 68 2 5),
  (68, xLdI 69 1),
  (69, xK 70 (nI 1)),
  (70, xBin 71 f_isub),
  (71, xLdA 72 0),
  (72, xGf 75 2 5),
  (75, xLdI 76 1),
  (76, xCallS MX5_at 2 79),
  (79, xCallS MX5_store 3 82),
  (82, xInc 85 1 (nI 1)),
  (85, xGo 2),
  (88, xLdA 89 0),
  (89, xDup 90),
  (90, xGf 93 2 0),
  (93, xK 94 (nI 1)),
  (94, xBin 95 f_isub),
  (95, xPfI 98 2 0),
  (98, xRetV)]
theorem sX2_dropLowest_0 : Snd MX2_dropLowest 0 (xK 1 (nI 1)) := snd_iconst (M := MX2_dropLowest) (pc := 0) dX2_dropLowest_0 (by decide +kernel)
theorem sX2_dropLowest_1 : Snd MX2_dropLowest 1 (xStI 2 1) := snd_istore_n (M := MX2_dropLowest) (pc := 1) dX2_dropLowest_1 (by decide)
theorem sX2_dropLowest_2 : Snd MX2_dropLowest 2 (xLdI 3 1) := snd_iload_n (M := MX2_dropLowest) (pc := 2) dX2_dropLowest_2
theorem sX2_dropLowest_3 : Snd MX2_dropLowest 3 (xLdA 4 0) := snd_aload_n (M := MX2_dropLowest) (pc := 3) dX2_dropLowest_3
theorem sX2_dropLowest_4 : Snd MX2_dropLowest 4 (xGf 7 2 0) := snd_gf (M := MX2_dropLowest) (pc := 4) (C0 := RX2) (T0 := TX2) (N := 6) dX2_dropLowest_4 rfl tbX2 (by decide) w215
theorem sX2_dropLowest_7 : Snd MX2_dropLowest 7 (xC_ge 88 10) := snd_icmp_ge (M := MX2_dropLowest) (pc := 7) dX2_dropLowest_7 (by decide)
theorem sX2_dropLowest_10 : Snd MX2_dropLowest 10 (xLdA 11 0) := snd_aload_n (M := MX2_dropLowest) (pc := 10) dX2_dropLowest_10
theorem sX2_dropLowest_11 : Snd MX2_dropLowest 11 (xGf 14 2 2) := snd_gf (M := MX2_dropLowest) (pc := 11) (C0 := RX2) (T0 := TX2) (N := 6) dX2_dropLowest_11 rfl tbX2 (by decide) w211
theorem sX2_dropLowest_14 : Snd MX2_dropLowest 14 (xLdI 15 1) := snd_iload_n (M := MX2_dropLowest) (pc := 14) dX2_dropLowest_14
theorem sX2_dropLowest_15 : Snd MX2_dropLowest 15 (xK 16 (nI 1)) := snd_iconst (M := MX2_dropLowest) (pc := 15) dX2_dropLowest_15 (by decide +kernel)
theorem sX2_dropLowest_16 : Snd MX2_dropLowest 16 (xBin 17 f_isub) := snd_isub (M := MX2_dropLowest) (pc := 16) dX2_dropLowest_16
theorem sX2_dropLowest_17 : Snd MX2_dropLowest 17 (xLdA 18 0) := snd_aload_n (M := MX2_dropLowest) (pc := 17) dX2_dropLowest_17
theorem sX2_dropLowest_18 : Snd MX2_dropLowest 18 (xGf 21 2 2) := snd_gf (M := MX2_dropLowest) (pc := 18) (C0 := RX2) (T0 := TX2) (N := 6) dX2_dropLowest_18 rfl tbX2 (by decide) w211
theorem sX2_dropLowest_21 : Snd MX2_dropLowest 21 (xLdI 22 1) := snd_iload_n (M := MX2_dropLowest) (pc := 21) dX2_dropLowest_21
theorem sX2_dropLowest_22 : Snd MX2_dropLowest 22 (xCallS MX5_at 2 25) := snd_callSN (M := MX2_dropLowest) (pc := 22) (n := 2) dX2_dropLowest_22 nt9 w123 ⟨w115, w122, ⟨by decide, by decide, by decide +kernel⟩, by decide⟩ ⟨rfl, rfl⟩
theorem sX2_dropLowest_25 : Snd MX2_dropLowest 25 (xCallS MX5_store 3 28) := snd_callSN (M := MX2_dropLowest) (pc := 25) (n := 3) dX2_dropLowest_25 nt10 w141 ⟨w115, w140, ⟨by decide, by decide, by decide +kernel⟩, by decide⟩ ⟨rfl, rfl⟩
theorem sX2_dropLowest_28 : Snd MX2_dropLowest 28 (xLdA 29 0) := snd_aload_n (M := MX2_dropLowest) (pc := 28) dX2_dropLowest_28
theorem sX2_dropLowest_29 : Snd MX2_dropLowest 29 (xGf 32 2 3) := snd_gf (M := MX2_dropLowest) (pc := 29) (C0 := RX2) (T0 := TX2) (N := 6) dX2_dropLowest_29 rfl tbX2 (by decide) w212
theorem sX2_dropLowest_32 : Snd MX2_dropLowest 32 (xLdI 33 1) := snd_iload_n (M := MX2_dropLowest) (pc := 32) dX2_dropLowest_32
theorem sX2_dropLowest_33 : Snd MX2_dropLowest 33 (xK 34 (nI 1)) := snd_iconst (M := MX2_dropLowest) (pc := 33) dX2_dropLowest_33 (by decide +kernel)
theorem sX2_dropLowest_34 : Snd MX2_dropLowest 34 (xBin 35 f_isub) := snd_isub (M := MX2_dropLowest) (pc := 34) dX2_dropLowest_34
theorem sX2_dropLowest_35 : Snd MX2_dropLowest 35 (xLdA 36 0) := snd_aload_n (M := MX2_dropLowest) (pc := 35) dX2_dropLowest_35
theorem sX2_dropLowest_36 : Snd MX2_dropLowest 36 (xGf 39 2 3) := snd_gf (M := MX2_dropLowest) (pc := 36) (C0 := RX2) (T0 := TX2) (N := 6) dX2_dropLowest_36 rfl tbX2 (by decide) w212
theorem sX2_dropLowest_39 : Snd MX2_dropLowest 39 (xLdI 40 1) := snd_iload_n (M := MX2_dropLowest) (pc := 39) dX2_dropLowest_39
theorem sX2_dropLowest_40 : Snd MX2_dropLowest 40 (xCallS MX5_at 2 43) := snd_callSN (M := MX2_dropLowest) (pc := 40) (n := 2) dX2_dropLowest_40 nt9 w123 ⟨w115, w122, ⟨by decide, by decide, by decide +kernel⟩, by decide⟩ ⟨rfl, rfl⟩
theorem sX2_dropLowest_43 : Snd MX2_dropLowest 43 (xCallS MX5_store 3 46) := snd_callSN (M := MX2_dropLowest) (pc := 43) (n := 3) dX2_dropLowest_43 nt10 w141 ⟨w115, w140, ⟨by decide, by decide, by decide +kernel⟩, by decide⟩ ⟨rfl, rfl⟩
theorem sX2_dropLowest_46 : Snd MX2_dropLowest 46 (xLdA 47 0) := snd_aload_n (M := MX2_dropLowest) (pc := 46) dX2_dropLowest_46
theorem sX2_dropLowest_47 : Snd MX2_dropLowest 47 (xGf 50 2 4) := snd_gf (M := MX2_dropLowest) (pc := 47) (C0 := RX2) (T0 := TX2) (N := 6) dX2_dropLowest_47 rfl tbX2 (by decide) w213
theorem sX2_dropLowest_50 : Snd MX2_dropLowest 50 (xLdI 51 1) := snd_iload_n (M := MX2_dropLowest) (pc := 50) dX2_dropLowest_50
theorem sX2_dropLowest_51 : Snd MX2_dropLowest 51 (xK 52 (nI 1)) := snd_iconst (M := MX2_dropLowest) (pc := 51) dX2_dropLowest_51 (by decide +kernel)
theorem sX2_dropLowest_52 : Snd MX2_dropLowest 52 (xBin 53 f_isub) := snd_isub (M := MX2_dropLowest) (pc := 52) dX2_dropLowest_52
theorem sX2_dropLowest_53 : Snd MX2_dropLowest 53 (xLdA 54 0) := snd_aload_n (M := MX2_dropLowest) (pc := 53) dX2_dropLowest_53
theorem sX2_dropLowest_54 : Snd MX2_dropLowest 54 (xGf 57 2 4) := snd_gf (M := MX2_dropLowest) (pc := 54) (C0 := RX2) (T0 := TX2) (N := 6) dX2_dropLowest_54 rfl tbX2 (by decide) w213
theorem sX2_dropLowest_57 : Snd MX2_dropLowest 57 (xLdI 58 1) := snd_iload_n (M := MX2_dropLowest) (pc := 57) dX2_dropLowest_57
theorem sX2_dropLowest_58 : Snd MX2_dropLowest 58 (xCallS MX5_at 2 61) := snd_callSN (M := MX2_dropLowest) (pc := 58) (n := 2) dX2_dropLowest_58 nt9 w123 ⟨w115, w122, ⟨by decide, by decide, by decide +kernel⟩, by decide⟩ ⟨rfl, rfl⟩
theorem sX2_dropLowest_61 : Snd MX2_dropLowest 61 (xCallS MX5_store 3 64) := snd_callSN (M := MX2_dropLowest) (pc := 61) (n := 3) dX2_dropLowest_61 nt10 w141 ⟨w115, w140, ⟨by decide, by decide, by decide +kernel⟩, by decide⟩ ⟨rfl, rfl⟩
theorem sX2_dropLowest_64 : Snd MX2_dropLowest 64 (xLdA 65 0) := snd_aload_n (M := MX2_dropLowest) (pc := 64) dX2_dropLowest_64
theorem sX2_dropLowest_65 : Snd MX2_dropLowest 65 (xGf 68 2 5) := snd_gf (M := MX2_dropLowest) (pc := 65) (C0 := RX2) (T0 := TX2) (N := 6) dX2_dropLowest_65 rfl tbX2 (by decide) w214
theorem sX2_dropLowest_68 : Snd MX2_dropLowest 68 (xLdI 69 1) := snd_iload_n (M := MX2_dropLowest) (pc := 68) dX2_dropLowest_68
theorem sX2_dropLowest_69 : Snd MX2_dropLowest 69 (xK 70 (nI 1)) := snd_iconst (M := MX2_dropLowest) (pc := 69) dX2_dropLowest_69 (by decide +kernel)
theorem sX2_dropLowest_70 : Snd MX2_dropLowest 70 (xBin 71 f_isub) := snd_isub (M := MX2_dropLowest) (pc := 70) dX2_dropLowest_70
theorem sX2_dropLowest_71 : Snd MX2_dropLowest 71 (xLdA 72 0) := snd_aload_n (M := MX2_dropLowest) (pc := 71) dX2_dropLowest_71
theorem sX2_dropLowest_72 : Snd MX2_dropLowest 72 (xGf 75 2 5) := snd_gf (M := MX2_dropLowest) (pc := 72) (C0 := RX2) (T0 := TX2) (N := 6) dX2_dropLowest_72 rfl tbX2 (by decide) w214
theorem sX2_dropLowest_75 : Snd MX2_dropLowest 75 (xLdI 76 1) := snd_iload_n (M := MX2_dropLowest) (pc := 75) dX2_dropLowest_75
theorem sX2_dropLowest_76 : Snd MX2_dropLowest 76 (xCallS MX5_at 2 79) := snd_callSN (M := MX2_dropLowest) (pc := 76) (n := 2) dX2_dropLowest_76 nt9 w123 ⟨w115, w122, ⟨by decide, by decide, by decide +kernel⟩, by decide⟩ ⟨rfl, rfl⟩
theorem sX2_dropLowest_79 : Snd MX2_dropLowest 79 (xCallS MX5_store 3 82) := snd_callSN (M := MX2_dropLowest) (pc := 79) (n := 3) dX2_dropLowest_79 nt10 w141 ⟨w115, w140, ⟨by decide, by decide, by decide +kernel⟩, by decide⟩ ⟨rfl, rfl⟩
theorem sX2_dropLowest_82 : Snd MX2_dropLowest 82 (xInc 85 1 (nI 1)) := snd_iinc (M := MX2_dropLowest) (pc := 82) dX2_dropLowest_82 (by decide +kernel) (by decide)
theorem sX2_dropLowest_85 : Snd MX2_dropLowest 85 (xGo 2) := snd_goto (M := MX2_dropLowest) (pc := 85) dX2_dropLowest_85 (by decide)
theorem sX2_dropLowest_88 : Snd MX2_dropLowest 88 (xLdA 89 0) := snd_aload_n (M := MX2_dropLowest) (pc := 88) dX2_dropLowest_88
theorem sX2_dropLowest_89 : Snd MX2_dropLowest 89 (xDup 90) := snd_dup (M := MX2_dropLowest) (pc := 89) dX2_dropLowest_89
theorem sX2_dropLowest_90 : Snd MX2_dropLowest 90 (xGf 93 2 0) := snd_gf (M := MX2_dropLowest) (pc := 90) (C0 := RX2) (T0 := TX2) (N := 6) dX2_dropLowest_90 rfl tbX2 (by decide) w215
theorem sX2_dropLowest_93 : Snd MX2_dropLowest 93 (xK 94 (nI 1)) := snd_iconst (M := MX2_dropLowest) (pc := 93) dX2_dropLowest_93 (by decide +kernel)
theorem sX2_dropLowest_94 : Snd MX2_dropLowest 94 (xBin 95 f_isub) := snd_isub (M := MX2_dropLowest) (pc := 94) dX2_dropLowest_94
theorem sX2_dropLowest_95 : Snd MX2_dropLowest 95 (xPfI 98 2 0) := snd_pfI (M := MX2_dropLowest) (pc := 95) (C0 := RX2) (T0 := TX2) (N := 6) dX2_dropLowest_95 rfl tbX2 tyX2 tyX2_ok nmX2 (by decide) w215 rfl (by decide +kernel)
theorem sX2_dropLowest_98 : Snd MX2_dropLowest 98 (xRetV) := snd_vret (M := MX2_dropLowest) (pc := 98) dX2_dropLowest_98 rfl
theorem VX2_dropLowest : Valid MX2_dropLowest LX2_dropLowest := va_lid sX2_dropLowest_0 (va_lid sX2_dropLowest_1 (va_lid sX2_dropLowest_2 (va_lid sX2_dropLowest_3 (va_lid sX2_dropLowest_4 (va_lid sX2_dropLowest_7 (va_lid sX2_dropLowest_10 (va_lid sX2_dropLowest_11 (va_lid sX2_dropLowest_14 (va_lid sX2_dropLowest_15 (va_lid sX2_dropLowest_16 (va_lid sX2_dropLowest_17 (va_lid sX2_dropLowest_18 (va_lid sX2_dropLowest_21 (va_lid sX2_dropLowest_22 (va_lid sX2_dropLowest_25 (va_lid sX2_dropLowest_28 (va_lid sX2_dropLowest_29 (va_lid sX2_dropLowest_32 (va_lid sX2_dropLowest_33 (va_lid sX2_dropLowest_34 (va_lid sX2_dropLowest_35 (va_lid sX2_dropLowest_36 (va_lid sX2_dropLowest_39 (va_lid sX2_dropLowest_40 (va_lid sX2_dropLowest_43 (va_lid sX2_dropLowest_46 (va_lid sX2_dropLowest_47 (va_lid sX2_dropLowest_50 (va_lid sX2_dropLowest_51 (va_lid sX2_dropLowest_52 (va_lid sX2_dropLowest_53 (va_lid sX2_dropLowest_54 (va_lid sX2_dropLowest_57 (va_lid sX2_dropLowest_58 (va_lid sX2_dropLowest_61 (va_lid sX2_dropLowest_64 (va_lid sX2_dropLowest_65 (va_lid sX2_dropLowest_68 (va_lid sX2_dropLowest_69 (va_lid sX2_dropLowest_70 (va_lid sX2_dropLowest_71 (va_lid sX2_dropLowest_72 (va_lid sX2_dropLowest_75 (va_lid sX2_dropLowest_76 (va_lid sX2_dropLowest_79 (va_lid sX2_dropLowest_82 (va_lid sX2_dropLowest_85 (va_lid sX2_dropLowest_88 (va_lid sX2_dropLowest_89 (va_lid sX2_dropLowest_90 (va_lid sX2_dropLowest_93 (va_lid sX2_dropLowest_94 (va_lid sX2_dropLowest_95 (va_lid sX2_dropLowest_98 (va_lid0)))))))))))))))))))))))))))))))))))))))))))))))))))))))
theorem kX2_dropLowest_0 : lk LX2_dropLowest 0 = some (xK 1 (nI 1)) := rfl
theorem kX2_dropLowest_1 : lk LX2_dropLowest 1 = some (xStI 2 1) := rfl
theorem kX2_dropLowest_2 : lk LX2_dropLowest 2 = some (xLdI 3 1) := rfl
theorem kX2_dropLowest_3 : lk LX2_dropLowest 3 = some (xLdA 4 0) := rfl
theorem kX2_dropLowest_4 : lk LX2_dropLowest 4 = some (xGf 7 2 0) := rfl
theorem kX2_dropLowest_7 : lk LX2_dropLowest 7 = some (xC_ge 88 10) := rfl
theorem kX2_dropLowest_10 : lk LX2_dropLowest 10 = some (xLdA 11 0) := rfl
theorem kX2_dropLowest_11 : lk LX2_dropLowest 11 = some (xGf 14 2 2) := rfl
theorem kX2_dropLowest_14 : lk LX2_dropLowest 14 = some (xLdI 15 1) := rfl
theorem kX2_dropLowest_15 : lk LX2_dropLowest 15 = some (xK 16 (nI 1)) := rfl
theorem kX2_dropLowest_16 : lk LX2_dropLowest 16 = some (xBin 17 f_isub) := rfl
theorem kX2_dropLowest_17 : lk LX2_dropLowest 17 = some (xLdA 18 0) := rfl
theorem kX2_dropLowest_18 : lk LX2_dropLowest 18 = some (xGf 21 2 2) := rfl
theorem kX2_dropLowest_21 : lk LX2_dropLowest 21 = some (xLdI 22 1) := rfl
theorem kX2_dropLowest_22 : lk LX2_dropLowest 22 = some (xCallS MX5_at 2 25) := rfl
theorem kX2_dropLowest_25 : lk LX2_dropLowest 25 = some (xCallS MX5_store 3 28) := rfl
theorem kX2_dropLowest_28 : lk LX2_dropLowest 28 = some (xLdA 29 0) := rfl
theorem kX2_dropLowest_29 : lk LX2_dropLowest 29 = some (xGf 32 2 3) := rfl
theorem kX2_dropLowest_32 : lk LX2_dropLowest 32 = some (xLdI 33 1) := rfl
theorem kX2_dropLowest_33 : lk LX2_dropLowest 33 = some (xK 34 (nI 1)) := rfl
theorem kX2_dropLowest_34 : lk LX2_dropLowest 34 = some (xBin 35 f_isub) := rfl
theorem kX2_dropLowest_35 : lk LX2_dropLowest 35 = some (xLdA 36 0) := rfl
theorem kX2_dropLowest_36 : lk LX2_dropLowest 36 = some (xGf 39 2 3) := rfl
theorem kX2_dropLowest_39 : lk LX2_dropLowest 39 = some (xLdI 40 1) := rfl
theorem kX2_dropLowest_40 : lk LX2_dropLowest 40 = some (xCallS MX5_at 2 43) := rfl
theorem kX2_dropLowest_43 : lk LX2_dropLowest 43 = some (xCallS MX5_store 3 46) := rfl
theorem kX2_dropLowest_46 : lk LX2_dropLowest 46 = some (xLdA 47 0) := rfl
theorem kX2_dropLowest_47 : lk LX2_dropLowest 47 = some (xGf 50 2 4) := rfl
theorem kX2_dropLowest_50 : lk LX2_dropLowest 50 = some (xLdI 51 1) := rfl
theorem kX2_dropLowest_51 : lk LX2_dropLowest 51 = some (xK 52 (nI 1)) := rfl
theorem kX2_dropLowest_52 : lk LX2_dropLowest 52 = some (xBin 53 f_isub) := rfl
theorem kX2_dropLowest_53 : lk LX2_dropLowest 53 = some (xLdA 54 0) := rfl
theorem kX2_dropLowest_54 : lk LX2_dropLowest 54 = some (xGf 57 2 4) := rfl
theorem kX2_dropLowest_57 : lk LX2_dropLowest 57 = some (xLdI 58 1) := rfl
theorem kX2_dropLowest_58 : lk LX2_dropLowest 58 = some (xCallS MX5_at 2 61) := rfl
theorem kX2_dropLowest_61 : lk LX2_dropLowest 61 = some (xCallS MX5_store 3 64) := rfl
theorem kX2_dropLowest_64 : lk LX2_dropLowest 64 = some (xLdA 65 0) := rfl
theorem kX2_dropLowest_65 : lk LX2_dropLowest 65 = some (xGf 68 2 5) := rfl
theorem kX2_dropLowest_68 : lk LX2_dropLowest 68 = some (xLdI 69 1) := rfl
theorem kX2_dropLowest_69 : lk LX2_dropLowest 69 = some (xK 70 (nI 1)) := rfl
theorem kX2_dropLowest_70 : lk LX2_dropLowest 70 = some (xBin 71 f_isub) := rfl
theorem kX2_dropLowest_71 : lk LX2_dropLowest 71 = some (xLdA 72 0) := rfl
theorem kX2_dropLowest_72 : lk LX2_dropLowest 72 = some (xGf 75 2 5) := rfl
theorem kX2_dropLowest_75 : lk LX2_dropLowest 75 = some (xLdI 76 1) := rfl
theorem kX2_dropLowest_76 : lk LX2_dropLowest 76 = some (xCallS MX5_at 2 79) := rfl
theorem kX2_dropLowest_79 : lk LX2_dropLowest 79 = some (xCallS MX5_store 3 82) := rfl
theorem kX2_dropLowest_82 : lk LX2_dropLowest 82 = some (xInc 85 1 (nI 1)) := rfl
theorem kX2_dropLowest_85 : lk LX2_dropLowest 85 = some (xGo 2) := rfl
theorem kX2_dropLowest_88 : lk LX2_dropLowest 88 = some (xLdA 89 0) := rfl
theorem kX2_dropLowest_89 : lk LX2_dropLowest 89 = some (xDup 90) := rfl
theorem kX2_dropLowest_90 : lk LX2_dropLowest 90 = some (xGf 93 2 0) := rfl
theorem kX2_dropLowest_93 : lk LX2_dropLowest 93 = some (xK 94 (nI 1)) := rfl
theorem kX2_dropLowest_94 : lk LX2_dropLowest 94 = some (xBin 95 f_isub) := rfl
theorem kX2_dropLowest_95 : lk LX2_dropLowest 95 = some (xPfI 98 2 0) := rfl
theorem kX2_dropLowest_98 : lk LX2_dropLowest 98 = some (xRetV) := rfl
def LX3_init : List (Nat × XI) := [(0, xLdA 1 0),
  (1, xObj 4),
  (4, xLdA 5 0),
  (5, xK 7 (nI 8)),
  (9, xPfR 12 3 7),
  (12, xLdA 13 0),
  (13, xK 15 (nI 8)),
  (17, xPfR 20 3 8),
  (20, xLdA 21 0),
  (21, xK 23 (nI 8)),
  (25, xPfR 28 3 9),
  (28, xLdA 29 0),
  (29, xK 31 (nI 6)),
  (33, xPfR 36 3 10),
  (36, xLdA 37 0),
  (37, xK 39 (nI 6)),
  (41, xPfR 44 3 11),
  (44, xLdA 45 0),
  (45, xK 47 (nI 6)),
  (49, xPfR 52 3 12),
  (52, xLdA 53 0),
  (53, xK 55 (nI 6)),
  (57, xPfR 60 3 13),
  (60, xRetV)]
theorem sX3_init_0 : Snd MX3_init 0 (xLdA 1 0) := snd_aload_n (M := MX3_init) (pc := 0) dX3_init_0
theorem sX3_init_1 : Snd MX3_init 1 (xObj 4) := snd_obj (M := MX3_init) (pc := 1) dX3_init_1 w225 w74 w75 (by decide)
theorem sX3_init_4 : Snd MX3_init 4 (xLdA 5 0) := snd_aload_n (M := MX3_init) (pc := 4) dX3_init_4
theorem sX3_init_5 : Snd MX3_init 5 (xK 7 (nI 8)) := snd_bipush (M := MX3_init) (pc := 5) dX3_init_5 (by decide +kernel)
theorem sX3_init_9 : Snd MX3_init 9 (xPfR 12 3 7) := snd_pfRF (M := MX3_init) (pc := 9) (C0 := RX3) (T0 := TX3) (N := 14) dX3_init_9 rfl tbX3 tyX3 tyX3_ok nmX3 (by decide) w226 rfl rfl rfl (tyX3_ok 7 (by decide)) (fun _ => rfl) (fun _ => rfl)
theorem sX3_init_12 : Snd MX3_init 12 (xLdA 13 0) := snd_aload_n (M := MX3_init) (pc := 12) dX3_init_12
theorem sX3_init_13 : Snd MX3_init 13 (xK 15 (nI 8)) := snd_bipush (M := MX3_init) (pc := 13) dX3_init_13 (by decide +kernel)
theorem sX3_init_17 : Snd MX3_init 17 (xPfR 20 3 8) := snd_pfRF (M := MX3_init) (pc := 17) (C0 := RX3) (T0 := TX3) (N := 14) dX3_init_17 rfl tbX3 tyX3 tyX3_ok nmX3 (by decide) w227 rfl rfl rfl (tyX3_ok 8 (by decide)) (fun _ => rfl) (fun _ => rfl)
theorem sX3_init_20 : Snd MX3_init 20 (xLdA 21 0) := snd_aload_n (M := MX3_init) (pc := 20) dX3_init_20
theorem sX3_init_21 : Snd MX3_init 21 (xK 23 (nI 8)) := snd_bipush (M := MX3_init) (pc := 21) dX3_init_21 (by decide +kernel)
theorem sX3_init_25 : Snd MX3_init 25 (xPfR 28 3 9) := snd_pfRF (M := MX3_init) (pc := 25) (C0 := RX3) (T0 := TX3) (N := 14) dX3_init_25 rfl tbX3 tyX3 tyX3_ok nmX3 (by decide) w228 rfl rfl rfl (tyX3_ok 9 (by decide)) (fun _ => rfl) (fun _ => rfl)
theorem sX3_init_28 : Snd MX3_init 28 (xLdA 29 0) := snd_aload_n (M := MX3_init) (pc := 28) dX3_init_28
theorem sX3_init_29 : Snd MX3_init 29 (xK 31 (nI 6)) := snd_bipush (M := MX3_init) (pc := 29) dX3_init_29 (by decide +kernel)
theorem sX3_init_33 : Snd MX3_init 33 (xPfR 36 3 10) := snd_pfRF (M := MX3_init) (pc := 33) (C0 := RX3) (T0 := TX3) (N := 14) dX3_init_33 rfl tbX3 tyX3 tyX3_ok nmX3 (by decide) w229 rfl rfl rfl (tyX3_ok 10 (by decide)) (fun _ => rfl) (fun _ => rfl)
theorem sX3_init_36 : Snd MX3_init 36 (xLdA 37 0) := snd_aload_n (M := MX3_init) (pc := 36) dX3_init_36
theorem sX3_init_37 : Snd MX3_init 37 (xK 39 (nI 6)) := snd_bipush (M := MX3_init) (pc := 37) dX3_init_37 (by decide +kernel)
theorem sX3_init_41 : Snd MX3_init 41 (xPfR 44 3 11) := snd_pfRF (M := MX3_init) (pc := 41) (C0 := RX3) (T0 := TX3) (N := 14) dX3_init_41 rfl tbX3 tyX3 tyX3_ok nmX3 (by decide) w230 rfl rfl rfl (tyX3_ok 11 (by decide)) (fun _ => rfl) (fun _ => rfl)
theorem sX3_init_44 : Snd MX3_init 44 (xLdA 45 0) := snd_aload_n (M := MX3_init) (pc := 44) dX3_init_44
theorem sX3_init_45 : Snd MX3_init 45 (xK 47 (nI 6)) := snd_bipush (M := MX3_init) (pc := 45) dX3_init_45 (by decide +kernel)
theorem sX3_init_49 : Snd MX3_init 49 (xPfR 52 3 12) := snd_pfRF (M := MX3_init) (pc := 49) (C0 := RX3) (T0 := TX3) (N := 14) dX3_init_49 rfl tbX3 tyX3 tyX3_ok nmX3 (by decide) w231 rfl rfl rfl (tyX3_ok 12 (by decide)) (fun _ => rfl) (fun _ => rfl)
theorem sX3_init_52 : Snd MX3_init 52 (xLdA 53 0) := snd_aload_n (M := MX3_init) (pc := 52) dX3_init_52
theorem sX3_init_53 : Snd MX3_init 53 (xK 55 (nI 6)) := snd_bipush (M := MX3_init) (pc := 53) dX3_init_53 (by decide +kernel)
theorem sX3_init_57 : Snd MX3_init 57 (xPfR 60 3 13) := snd_pfRF (M := MX3_init) (pc := 57) (C0 := RX3) (T0 := TX3) (N := 14) dX3_init_57 rfl tbX3 tyX3 tyX3_ok nmX3 (by decide) w232 rfl rfl rfl (tyX3_ok 13 (by decide)) (fun _ => rfl) (fun _ => rfl)
theorem sX3_init_60 : Snd MX3_init 60 (xRetV) := snd_vret (M := MX3_init) (pc := 60) dX3_init_60 rfl
theorem VX3_init : Valid MX3_init LX3_init := va_lid sX3_init_0 (va_lid sX3_init_1 (va_lid sX3_init_4 (va_lid sX3_init_5 (va_lid sX3_init_9 (va_lid sX3_init_12 (va_lid sX3_init_13 (va_lid sX3_init_17 (va_lid sX3_init_20 (va_lid sX3_init_21 (va_lid sX3_init_25 (va_lid sX3_init_28 (va_lid sX3_init_29 (va_lid sX3_init_33 (va_lid sX3_init_36 (va_lid sX3_init_37 (va_lid sX3_init_41 (va_lid sX3_init_44 (va_lid sX3_init_45 (va_lid sX3_init_49 (va_lid sX3_init_52 (va_lid sX3_init_53 (va_lid sX3_init_57 (va_lid sX3_init_60 (va_lid0))))))))))))))))))))))))
theorem kX3_init_0 : lk LX3_init 0 = some (xLdA 1 0) := rfl
theorem kX3_init_1 : lk LX3_init 1 = some (xObj 4) := rfl
theorem kX3_init_4 : lk LX3_init 4 = some (xLdA 5 0) := rfl
theorem kX3_init_5 : lk LX3_init 5 = some (xK 7 (nI 8)) := rfl
theorem kX3_init_9 : lk LX3_init 9 = some (xPfR 12 3 7) := rfl
theorem kX3_init_12 : lk LX3_init 12 = some (xLdA 13 0) := rfl
theorem kX3_init_13 : lk LX3_init 13 = some (xK 15 (nI 8)) := rfl
theorem kX3_init_17 : lk LX3_init 17 = some (xPfR 20 3 8) := rfl
theorem kX3_init_20 : lk LX3_init 20 = some (xLdA 21 0) := rfl
theorem kX3_init_21 : lk LX3_init 21 = some (xK 23 (nI 8)) := rfl
theorem kX3_init_25 : lk LX3_init 25 = some (xPfR 28 3 9) := rfl
theorem kX3_init_28 : lk LX3_init 28 = some (xLdA 29 0) := rfl
theorem kX3_init_29 : lk LX3_init 29 = some (xK 31 (nI 6)) := rfl
theorem kX3_init_33 : lk LX3_init 33 = some (xPfR 36 3 10) := rfl
theorem kX3_init_36 : lk LX3_init 36 = some (xLdA 37 0) := rfl
theorem kX3_init_37 : lk LX3_init 37 = some (xK 39 (nI 6)) := rfl
theorem kX3_init_41 : lk LX3_init 41 = some (xPfR 44 3 11) := rfl
theorem kX3_init_44 : lk LX3_init 44 = some (xLdA 45 0) := rfl
theorem kX3_init_45 : lk LX3_init 45 = some (xK 47 (nI 6)) := rfl
theorem kX3_init_49 : lk LX3_init 49 = some (xPfR 52 3 12) := rfl
theorem kX3_init_52 : lk LX3_init 52 = some (xLdA 53 0) := rfl
theorem kX3_init_53 : lk LX3_init 53 = some (xK 55 (nI 6)) := rfl
theorem kX3_init_57 : lk LX3_init 57 = some (xPfR 60 3 13) := rfl
theorem kX3_init_60 : lk LX3_init 60 = some (xRetV) := rfl
def LX3_begin : List (Nat × XI) := [(0, xLdA 1 0),
  (1, xK 3 (nI 20)),
  (3, xPfI 6 3 0),
  (6, xLdA 7 0),
  (7, xK 8 (nI 5)),
  (8, xPfI 11 3 1),
  (11, xLdA 12 0),
  (12, xK 13 (nI 0)),
  (13, xPfI 16 3 2),
  (16, xLdA 17 0),
  (17, xK 18 (nI 0)),
  (18, xPfI 21 3 3),
  (21, xLdA 22 0),
  (22, xK 23 (nI 0)),
  (23, xPfI 26 3 4),
  (26, xLdA 27 0),
  (27, xK 28 (nI 0)),
  (28, xPfI 31 3 5),
  (31, xLdA 32 0),
  (32, xK 33 (nI 0)),
  (33, xPfI 36 3 6),
  (36, xRetV)]
theorem sX3_begin_0 : Snd MX3_begin 0 (xLdA 1 0) := snd_aload_n (M := MX3_begin) (pc := 0) dX3_begin_0
theorem sX3_begin_1 : Snd MX3_begin 1 (xK 3 (nI 20)) := snd_bipush (M := MX3_begin) (pc := 1) dX3_begin_1 (by decide +kernel)
theorem sX3_begin_3 : Snd MX3_begin 3 (xPfI 6 3 0) := snd_pfI (M := MX3_begin) (pc := 3) (C0 := RX3) (T0 := TX3) (N := 14) dX3_begin_3 rfl tbX3 tyX3 tyX3_ok nmX3 (by decide) w233 rfl (by decide +kernel)
theorem sX3_begin_6 : Snd MX3_begin 6 (xLdA 7 0) := snd_aload_n (M := MX3_begin) (pc := 6) dX3_begin_6
theorem sX3_begin_7 : Snd MX3_begin 7 (xK 8 (nI 5)) := snd_iconst (M := MX3_begin) (pc := 7) dX3_begin_7 (by decide +kernel)
theorem sX3_begin_8 : Snd MX3_begin 8 (xPfI 11 3 1) := snd_pfI (M := MX3_begin) (pc := 8) (C0 := RX3) (T0 := TX3) (N := 14) dX3_begin_8 rfl tbX3 tyX3 tyX3_ok nmX3 (by decide) w234 rfl (by decide +kernel)
theorem sX3_begin_11 : Snd MX3_begin 11 (xLdA 12 0) := snd_aload_n (M := MX3_begin) (pc := 11) dX3_begin_11
theorem sX3_begin_12 : Snd MX3_begin 12 (xK 13 (nI 0)) := snd_iconst (M := MX3_begin) (pc := 12) dX3_begin_12 (by decide +kernel)
theorem sX3_begin_13 : Snd MX3_begin 13 (xPfI 16 3 2) := snd_pfI (M := MX3_begin) (pc := 13) (C0 := RX3) (T0 := TX3) (N := 14) dX3_begin_13 rfl tbX3 tyX3 tyX3_ok nmX3 (by decide) w235 rfl (by decide +kernel)
theorem sX3_begin_16 : Snd MX3_begin 16 (xLdA 17 0) := snd_aload_n (M := MX3_begin) (pc := 16) dX3_begin_16
theorem sX3_begin_17 : Snd MX3_begin 17 (xK 18 (nI 0)) := snd_iconst (M := MX3_begin) (pc := 17) dX3_begin_17 (by decide +kernel)
theorem sX3_begin_18 : Snd MX3_begin 18 (xPfI 21 3 3) := snd_pfI (M := MX3_begin) (pc := 18) (C0 := RX3) (T0 := TX3) (N := 14) dX3_begin_18 rfl tbX3 tyX3 tyX3_ok nmX3 (by decide) w236 rfl (by decide +kernel)
theorem sX3_begin_21 : Snd MX3_begin 21 (xLdA 22 0) := snd_aload_n (M := MX3_begin) (pc := 21) dX3_begin_21
theorem sX3_begin_22 : Snd MX3_begin 22 (xK 23 (nI 0)) := snd_iconst (M := MX3_begin) (pc := 22) dX3_begin_22 (by decide +kernel)
theorem sX3_begin_23 : Snd MX3_begin 23 (xPfI 26 3 4) := snd_pfI (M := MX3_begin) (pc := 23) (C0 := RX3) (T0 := TX3) (N := 14) dX3_begin_23 rfl tbX3 tyX3 tyX3_ok nmX3 (by decide) w237 rfl (by decide +kernel)
theorem sX3_begin_26 : Snd MX3_begin 26 (xLdA 27 0) := snd_aload_n (M := MX3_begin) (pc := 26) dX3_begin_26
theorem sX3_begin_27 : Snd MX3_begin 27 (xK 28 (nI 0)) := snd_iconst (M := MX3_begin) (pc := 27) dX3_begin_27 (by decide +kernel)
theorem sX3_begin_28 : Snd MX3_begin 28 (xPfI 31 3 5) := snd_pfI (M := MX3_begin) (pc := 28) (C0 := RX3) (T0 := TX3) (N := 14) dX3_begin_28 rfl tbX3 tyX3 tyX3_ok nmX3 (by decide) w238 rfl (by decide +kernel)
theorem sX3_begin_31 : Snd MX3_begin 31 (xLdA 32 0) := snd_aload_n (M := MX3_begin) (pc := 31) dX3_begin_31
theorem sX3_begin_32 : Snd MX3_begin 32 (xK 33 (nI 0)) := snd_iconst (M := MX3_begin) (pc := 32) dX3_begin_32 (by decide +kernel)
theorem sX3_begin_33 : Snd MX3_begin 33 (xPfI 36 3 6) := snd_pfI (M := MX3_begin) (pc := 33) (C0 := RX3) (T0 := TX3) (N := 14) dX3_begin_33 rfl tbX3 tyX3 tyX3_ok nmX3 (by decide) w239 rfl (by decide +kernel)
theorem sX3_begin_36 : Snd MX3_begin 36 (xRetV) := snd_vret (M := MX3_begin) (pc := 36) dX3_begin_36 rfl
theorem VX3_begin : Valid MX3_begin LX3_begin := va_lid sX3_begin_0 (va_lid sX3_begin_1 (va_lid sX3_begin_3 (va_lid sX3_begin_6 (va_lid sX3_begin_7 (va_lid sX3_begin_8 (va_lid sX3_begin_11 (va_lid sX3_begin_12 (va_lid sX3_begin_13 (va_lid sX3_begin_16 (va_lid sX3_begin_17 (va_lid sX3_begin_18 (va_lid sX3_begin_21 (va_lid sX3_begin_22 (va_lid sX3_begin_23 (va_lid sX3_begin_26 (va_lid sX3_begin_27 (va_lid sX3_begin_28 (va_lid sX3_begin_31 (va_lid sX3_begin_32 (va_lid sX3_begin_33 (va_lid sX3_begin_36 (va_lid0))))))))))))))))))))))
theorem kX3_begin_0 : lk LX3_begin 0 = some (xLdA 1 0) := rfl
theorem kX3_begin_1 : lk LX3_begin 1 = some (xK 3 (nI 20)) := rfl
theorem kX3_begin_3 : lk LX3_begin 3 = some (xPfI 6 3 0) := rfl
theorem kX3_begin_6 : lk LX3_begin 6 = some (xLdA 7 0) := rfl
theorem kX3_begin_7 : lk LX3_begin 7 = some (xK 8 (nI 5)) := rfl
theorem kX3_begin_8 : lk LX3_begin 8 = some (xPfI 11 3 1) := rfl
theorem kX3_begin_11 : lk LX3_begin 11 = some (xLdA 12 0) := rfl
theorem kX3_begin_12 : lk LX3_begin 12 = some (xK 13 (nI 0)) := rfl
theorem kX3_begin_13 : lk LX3_begin 13 = some (xPfI 16 3 2) := rfl
theorem kX3_begin_16 : lk LX3_begin 16 = some (xLdA 17 0) := rfl
theorem kX3_begin_17 : lk LX3_begin 17 = some (xK 18 (nI 0)) := rfl
theorem kX3_begin_18 : lk LX3_begin 18 = some (xPfI 21 3 3) := rfl
theorem kX3_begin_21 : lk LX3_begin 21 = some (xLdA 22 0) := rfl
theorem kX3_begin_22 : lk LX3_begin 22 = some (xK 23 (nI 0)) := rfl
theorem kX3_begin_23 : lk LX3_begin 23 = some (xPfI 26 3 4) := rfl
theorem kX3_begin_26 : lk LX3_begin 26 = some (xLdA 27 0) := rfl
theorem kX3_begin_27 : lk LX3_begin 27 = some (xK 28 (nI 0)) := rfl
theorem kX3_begin_28 : lk LX3_begin 28 = some (xPfI 31 3 5) := rfl
theorem kX3_begin_31 : lk LX3_begin 31 = some (xLdA 32 0) := rfl
theorem kX3_begin_32 : lk LX3_begin 32 = some (xK 33 (nI 0)) := rfl
theorem kX3_begin_33 : lk LX3_begin 33 = some (xPfI 36 3 6) := rfl
theorem kX3_begin_36 : lk LX3_begin 36 = some (xRetV) := rfl
def LX3_tellRoom : List (Nat × XI) := [(0, xLdI 1 1),
  (1, xK 2 (nI 1)),
  (2, xC_lt 17 5),
  (5, xLdI 6 1),
  (6, xK 8 (nI 99)),
  (8, xC_gt 17 11),
  (11, xLdI 12 2),
  (12, xK 14 (nI 20)),
  (14, xC_le 19 17),
  (17, xK 18 (nI 0)),
  (18, xRetZ),
  (19, xLdA 20 0),
  (20, xLdI 21 1),
  (21, xPfI 24 3 0),
  (24, xLdA 25 0),
  (25, xLdI 26 2),
  (26, xPfI 29 3 1),
  (29, xK 30 (nI 1)),
  (30, xRetZ)]
theorem sX3_tellRoom_0 : Snd MX3_tellRoom 0 (xLdI 1 1) := snd_iload_n (M := MX3_tellRoom) (pc := 0) dX3_tellRoom_0
theorem sX3_tellRoom_1 : Snd MX3_tellRoom 1 (xK 2 (nI 1)) := snd_iconst (M := MX3_tellRoom) (pc := 1) dX3_tellRoom_1 (by decide +kernel)
theorem sX3_tellRoom_2 : Snd MX3_tellRoom 2 (xC_lt 17 5) := snd_icmp_lt (M := MX3_tellRoom) (pc := 2) dX3_tellRoom_2 (by decide)
theorem sX3_tellRoom_5 : Snd MX3_tellRoom 5 (xLdI 6 1) := snd_iload_n (M := MX3_tellRoom) (pc := 5) dX3_tellRoom_5
theorem sX3_tellRoom_6 : Snd MX3_tellRoom 6 (xK 8 (nI 99)) := snd_bipush (M := MX3_tellRoom) (pc := 6) dX3_tellRoom_6 (by decide +kernel)
theorem sX3_tellRoom_8 : Snd MX3_tellRoom 8 (xC_gt 17 11) := snd_icmp_gt (M := MX3_tellRoom) (pc := 8) dX3_tellRoom_8 (by decide)
theorem sX3_tellRoom_11 : Snd MX3_tellRoom 11 (xLdI 12 2) := snd_iload_n (M := MX3_tellRoom) (pc := 11) dX3_tellRoom_11
theorem sX3_tellRoom_12 : Snd MX3_tellRoom 12 (xK 14 (nI 20)) := snd_bipush (M := MX3_tellRoom) (pc := 12) dX3_tellRoom_12 (by decide +kernel)
theorem sX3_tellRoom_14 : Snd MX3_tellRoom 14 (xC_le 19 17) := snd_icmp_le (M := MX3_tellRoom) (pc := 14) dX3_tellRoom_14 (by decide)
theorem sX3_tellRoom_17 : Snd MX3_tellRoom 17 (xK 18 (nI 0)) := snd_iconst (M := MX3_tellRoom) (pc := 17) dX3_tellRoom_17 (by decide +kernel)
theorem sX3_tellRoom_18 : Snd MX3_tellRoom 18 (xRetZ) := snd_zret (M := MX3_tellRoom) (pc := 18) dX3_tellRoom_18 rfl
theorem sX3_tellRoom_19 : Snd MX3_tellRoom 19 (xLdA 20 0) := snd_aload_n (M := MX3_tellRoom) (pc := 19) dX3_tellRoom_19
theorem sX3_tellRoom_20 : Snd MX3_tellRoom 20 (xLdI 21 1) := snd_iload_n (M := MX3_tellRoom) (pc := 20) dX3_tellRoom_20
theorem sX3_tellRoom_21 : Snd MX3_tellRoom 21 (xPfI 24 3 0) := snd_pfI (M := MX3_tellRoom) (pc := 21) (C0 := RX3) (T0 := TX3) (N := 14) dX3_tellRoom_21 rfl tbX3 tyX3 tyX3_ok nmX3 (by decide) w233 rfl (by decide +kernel)
theorem sX3_tellRoom_24 : Snd MX3_tellRoom 24 (xLdA 25 0) := snd_aload_n (M := MX3_tellRoom) (pc := 24) dX3_tellRoom_24
theorem sX3_tellRoom_25 : Snd MX3_tellRoom 25 (xLdI 26 2) := snd_iload_n (M := MX3_tellRoom) (pc := 25) dX3_tellRoom_25
theorem sX3_tellRoom_26 : Snd MX3_tellRoom 26 (xPfI 29 3 1) := snd_pfI (M := MX3_tellRoom) (pc := 26) (C0 := RX3) (T0 := TX3) (N := 14) dX3_tellRoom_26 rfl tbX3 tyX3 tyX3_ok nmX3 (by decide) w234 rfl (by decide +kernel)
theorem sX3_tellRoom_29 : Snd MX3_tellRoom 29 (xK 30 (nI 1)) := snd_iconst (M := MX3_tellRoom) (pc := 29) dX3_tellRoom_29 (by decide +kernel)
theorem sX3_tellRoom_30 : Snd MX3_tellRoom 30 (xRetZ) := snd_zret (M := MX3_tellRoom) (pc := 30) dX3_tellRoom_30 rfl
theorem VX3_tellRoom : Valid MX3_tellRoom LX3_tellRoom := va_lid sX3_tellRoom_0 (va_lid sX3_tellRoom_1 (va_lid sX3_tellRoom_2 (va_lid sX3_tellRoom_5 (va_lid sX3_tellRoom_6 (va_lid sX3_tellRoom_8 (va_lid sX3_tellRoom_11 (va_lid sX3_tellRoom_12 (va_lid sX3_tellRoom_14 (va_lid sX3_tellRoom_17 (va_lid sX3_tellRoom_18 (va_lid sX3_tellRoom_19 (va_lid sX3_tellRoom_20 (va_lid sX3_tellRoom_21 (va_lid sX3_tellRoom_24 (va_lid sX3_tellRoom_25 (va_lid sX3_tellRoom_26 (va_lid sX3_tellRoom_29 (va_lid sX3_tellRoom_30 (va_lid0)))))))))))))))))))
theorem kX3_tellRoom_0 : lk LX3_tellRoom 0 = some (xLdI 1 1) := rfl
theorem kX3_tellRoom_1 : lk LX3_tellRoom 1 = some (xK 2 (nI 1)) := rfl
theorem kX3_tellRoom_2 : lk LX3_tellRoom 2 = some (xC_lt 17 5) := rfl
theorem kX3_tellRoom_5 : lk LX3_tellRoom 5 = some (xLdI 6 1) := rfl
theorem kX3_tellRoom_6 : lk LX3_tellRoom 6 = some (xK 8 (nI 99)) := rfl
theorem kX3_tellRoom_8 : lk LX3_tellRoom 8 = some (xC_gt 17 11) := rfl
theorem kX3_tellRoom_11 : lk LX3_tellRoom 11 = some (xLdI 12 2) := rfl
theorem kX3_tellRoom_12 : lk LX3_tellRoom 12 = some (xK 14 (nI 20)) := rfl
theorem kX3_tellRoom_14 : lk LX3_tellRoom 14 = some (xC_le 19 17) := rfl
theorem kX3_tellRoom_17 : lk LX3_tellRoom 17 = some (xK 18 (nI 0)) := rfl
theorem kX3_tellRoom_18 : lk LX3_tellRoom 18 = some (xRetZ) := rfl
theorem kX3_tellRoom_19 : lk LX3_tellRoom 19 = some (xLdA 20 0) := rfl
theorem kX3_tellRoom_20 : lk LX3_tellRoom 20 = some (xLdI 21 1) := rfl
theorem kX3_tellRoom_21 : lk LX3_tellRoom 21 = some (xPfI 24 3 0) := rfl
theorem kX3_tellRoom_24 : lk LX3_tellRoom 24 = some (xLdA 25 0) := rfl
theorem kX3_tellRoom_25 : lk LX3_tellRoom 25 = some (xLdI 26 2) := rfl
theorem kX3_tellRoom_26 : lk LX3_tellRoom 26 = some (xPfI 29 3 1) := rfl
theorem kX3_tellRoom_29 : lk LX3_tellRoom 29 = some (xK 30 (nI 1)) := rfl
theorem kX3_tellRoom_30 : lk LX3_tellRoom 30 = some (xRetZ) := rfl
def LX3_tellThing : List (Nat × XI) := [(0, xLdA 1 0),
  (1, xGf 4 3 2),
  (4, xK 6 (nI 8)),
  (6, xC_ge 31 9),
  (9, xLdI 10 1),
  (10, xK 11 (nI 3)),
  (11, xC_gt 31 14),
  (14, xLdI 15 2),
  (15, xK 16 (nI 1)),
  (16, xC_lt 31 19),
  (19, xLdI 20 2),
  (20, xK 22 (nI 20)),
  (22, xC_gt 31 25),
  (25, xLdI 26 3),
  (26, xK 28 (nI 20)),
  (28, xC_le 33 31),
  (31, xK 32 (nI 0)),
  (32, xRetZ),
  (33, xLdA 34 0),
  (34, xGf 37 3 7),
  (37, xLdA 38 0),
  (38, xGf 41 3 2),
  (41, xLdI 42 1),
  (42, xCallS MX5_store 3 45),
  (45, xLdA 46 0),
  (46, xGf 49 3 8),
  (49, xLdA 50 0),
  (50, xGf 53 3 2),
  (53, xLdI 54 2),
  (54, xCallS MX5_store 3 57),
  (57, xLdA 58 0),
  (58, xGf 61 3 9),
  (61, xLdA 62 0),
  (62, xGf 65 3 2),
  (65, xLdI 66 3),
  (66, xCallS MX5_store 3 69),
  (69, xLdA 70 0),
  (70, xDup 71),
  (71, xGf 74 3 4),
  (74, xLdI 75 1),
  (75, xK 76 (nI 1)),
  (76, xC_ne 83 79),
  (79, xK 80 (nI 1)),
  (80, xGo 84),
  (83, xK 84 (nI 0)),
  (84, xCallS MX5_bit 1 87),
  (87, xLdA 88 0),
  (88, xGf 91 3 2),
  (91, xBin 92 f_ishl),
  (92, xBin 93 f_ior),
  (93, xPfI 96 3 4),
  (96, xLdA 97 0),
  (97, xDup 98),
  (98, xGf 101 3 5),
  (101, xLdI 102 1),
  (102, xK 103 (nI 2)),
  (103, xC_ne 110 106),
  (106, xK 107 (nI 1)),
  (107, xGo 111),
  (110, xK 111 (nI 0)),
  (111, xCallS MX5_bit 1 114),
  (114, xLdA 115 0),
  (115, xGf 118 3 2),
  (118, xBin 119 f_ishl),
  (119, xBin 120 f_ior),
  (120, xPfI 123 3 5),
  (123, xLdA 124 0),
  (124, xDup 125),
  (125, xGf 128 3 6),
  (128, xLdI 129 1),
  (129, xK 130 (nI 3)),
  (130, xC_ne 137 133),
  (133, xK 134 (nI 1)),
  (134, xGo 138),
  (137, xK 138 (nI 0)),
  (138, xCallS MX5_bit 1 141),
  (141, xLdA 142 0),
  (142, xGf 145 3 2),
  (145, xBin 146 f_ishl),
  (146, xBin 147 f_ior),
  (147, xPfI 150 3 6),
  (150, xLdA 151 0),
  (151, xDup 152),
  (152, xGf 155 3 2),
  (155, xK 156 (nI 1)),
  (156, xBin 157 f_iadd),
  (157, xPfI 160 3 2),
  (160, xK 161 (nI 1)),
  (161, xRetZ)]
theorem sX3_tellThing_0 : Snd MX3_tellThing 0 (xLdA 1 0) := snd_aload_n (M := MX3_tellThing) (pc := 0) dX3_tellThing_0
theorem sX3_tellThing_1 : Snd MX3_tellThing 1 (xGf 4 3 2) := snd_gf (M := MX3_tellThing) (pc := 1) (C0 := RX3) (T0 := TX3) (N := 14) dX3_tellThing_1 rfl tbX3 (by decide) w235
theorem sX3_tellThing_4 : Snd MX3_tellThing 4 (xK 6 (nI 8)) := snd_bipush (M := MX3_tellThing) (pc := 4) dX3_tellThing_4 (by decide +kernel)
theorem sX3_tellThing_6 : Snd MX3_tellThing 6 (xC_ge 31 9) := snd_icmp_ge (M := MX3_tellThing) (pc := 6) dX3_tellThing_6 (by decide)
theorem sX3_tellThing_9 : Snd MX3_tellThing 9 (xLdI 10 1) := snd_iload_n (M := MX3_tellThing) (pc := 9) dX3_tellThing_9
theorem sX3_tellThing_10 : Snd MX3_tellThing 10 (xK 11 (nI 3)) := snd_iconst (M := MX3_tellThing) (pc := 10) dX3_tellThing_10 (by decide +kernel)
theorem sX3_tellThing_11 : Snd MX3_tellThing 11 (xC_gt 31 14) := snd_icmp_gt (M := MX3_tellThing) (pc := 11) dX3_tellThing_11 (by decide)
theorem sX3_tellThing_14 : Snd MX3_tellThing 14 (xLdI 15 2) := snd_iload_n (M := MX3_tellThing) (pc := 14) dX3_tellThing_14
theorem sX3_tellThing_15 : Snd MX3_tellThing 15 (xK 16 (nI 1)) := snd_iconst (M := MX3_tellThing) (pc := 15) dX3_tellThing_15 (by decide +kernel)
theorem sX3_tellThing_16 : Snd MX3_tellThing 16 (xC_lt 31 19) := snd_icmp_lt (M := MX3_tellThing) (pc := 16) dX3_tellThing_16 (by decide)
theorem sX3_tellThing_19 : Snd MX3_tellThing 19 (xLdI 20 2) := snd_iload_n (M := MX3_tellThing) (pc := 19) dX3_tellThing_19
theorem sX3_tellThing_20 : Snd MX3_tellThing 20 (xK 22 (nI 20)) := snd_bipush (M := MX3_tellThing) (pc := 20) dX3_tellThing_20 (by decide +kernel)
theorem sX3_tellThing_22 : Snd MX3_tellThing 22 (xC_gt 31 25) := snd_icmp_gt (M := MX3_tellThing) (pc := 22) dX3_tellThing_22 (by decide)
theorem sX3_tellThing_25 : Snd MX3_tellThing 25 (xLdI 26 3) := snd_iload_n (M := MX3_tellThing) (pc := 25) dX3_tellThing_25
theorem sX3_tellThing_26 : Snd MX3_tellThing 26 (xK 28 (nI 20)) := snd_bipush (M := MX3_tellThing) (pc := 26) dX3_tellThing_26 (by decide +kernel)
theorem sX3_tellThing_28 : Snd MX3_tellThing 28 (xC_le 33 31) := snd_icmp_le (M := MX3_tellThing) (pc := 28) dX3_tellThing_28 (by decide)
theorem sX3_tellThing_31 : Snd MX3_tellThing 31 (xK 32 (nI 0)) := snd_iconst (M := MX3_tellThing) (pc := 31) dX3_tellThing_31 (by decide +kernel)
theorem sX3_tellThing_32 : Snd MX3_tellThing 32 (xRetZ) := snd_zret (M := MX3_tellThing) (pc := 32) dX3_tellThing_32 rfl
theorem sX3_tellThing_33 : Snd MX3_tellThing 33 (xLdA 34 0) := snd_aload_n (M := MX3_tellThing) (pc := 33) dX3_tellThing_33
theorem sX3_tellThing_34 : Snd MX3_tellThing 34 (xGf 37 3 7) := snd_gf (M := MX3_tellThing) (pc := 34) (C0 := RX3) (T0 := TX3) (N := 14) dX3_tellThing_34 rfl tbX3 (by decide) w226
theorem sX3_tellThing_37 : Snd MX3_tellThing 37 (xLdA 38 0) := snd_aload_n (M := MX3_tellThing) (pc := 37) dX3_tellThing_37
theorem sX3_tellThing_38 : Snd MX3_tellThing 38 (xGf 41 3 2) := snd_gf (M := MX3_tellThing) (pc := 38) (C0 := RX3) (T0 := TX3) (N := 14) dX3_tellThing_38 rfl tbX3 (by decide) w235
theorem sX3_tellThing_41 : Snd MX3_tellThing 41 (xLdI 42 1) := snd_iload_n (M := MX3_tellThing) (pc := 41) dX3_tellThing_41
theorem sX3_tellThing_42 : Snd MX3_tellThing 42 (xCallS MX5_store 3 45) := snd_callSN (M := MX3_tellThing) (pc := 42) (n := 3) dX3_tellThing_42 nt2 w141 ⟨w115, w140, ⟨by decide, by decide, by decide +kernel⟩, by decide⟩ ⟨rfl, rfl⟩
theorem sX3_tellThing_45 : Snd MX3_tellThing 45 (xLdA 46 0) := snd_aload_n (M := MX3_tellThing) (pc := 45) dX3_tellThing_45
theorem sX3_tellThing_46 : Snd MX3_tellThing 46 (xGf 49 3 8) := snd_gf (M := MX3_tellThing) (pc := 46) (C0 := RX3) (T0 := TX3) (N := 14) dX3_tellThing_46 rfl tbX3 (by decide) w227
theorem sX3_tellThing_49 : Snd MX3_tellThing 49 (xLdA 50 0) := snd_aload_n (M := MX3_tellThing) (pc := 49) dX3_tellThing_49
theorem sX3_tellThing_50 : Snd MX3_tellThing 50 (xGf 53 3 2) := snd_gf (M := MX3_tellThing) (pc := 50) (C0 := RX3) (T0 := TX3) (N := 14) dX3_tellThing_50 rfl tbX3 (by decide) w235
theorem sX3_tellThing_53 : Snd MX3_tellThing 53 (xLdI 54 2) := snd_iload_n (M := MX3_tellThing) (pc := 53) dX3_tellThing_53
theorem sX3_tellThing_54 : Snd MX3_tellThing 54 (xCallS MX5_store 3 57) := snd_callSN (M := MX3_tellThing) (pc := 54) (n := 3) dX3_tellThing_54 nt2 w141 ⟨w115, w140, ⟨by decide, by decide, by decide +kernel⟩, by decide⟩ ⟨rfl, rfl⟩
theorem sX3_tellThing_57 : Snd MX3_tellThing 57 (xLdA 58 0) := snd_aload_n (M := MX3_tellThing) (pc := 57) dX3_tellThing_57
theorem sX3_tellThing_58 : Snd MX3_tellThing 58 (xGf 61 3 9) := snd_gf (M := MX3_tellThing) (pc := 58) (C0 := RX3) (T0 := TX3) (N := 14) dX3_tellThing_58 rfl tbX3 (by decide) w228
theorem sX3_tellThing_61 : Snd MX3_tellThing 61 (xLdA 62 0) := snd_aload_n (M := MX3_tellThing) (pc := 61) dX3_tellThing_61
theorem sX3_tellThing_62 : Snd MX3_tellThing 62 (xGf 65 3 2) := snd_gf (M := MX3_tellThing) (pc := 62) (C0 := RX3) (T0 := TX3) (N := 14) dX3_tellThing_62 rfl tbX3 (by decide) w235
theorem sX3_tellThing_65 : Snd MX3_tellThing 65 (xLdI 66 3) := snd_iload_n (M := MX3_tellThing) (pc := 65) dX3_tellThing_65
theorem sX3_tellThing_66 : Snd MX3_tellThing 66 (xCallS MX5_store 3 69) := snd_callSN (M := MX3_tellThing) (pc := 66) (n := 3) dX3_tellThing_66 nt2 w141 ⟨w115, w140, ⟨by decide, by decide, by decide +kernel⟩, by decide⟩ ⟨rfl, rfl⟩
theorem sX3_tellThing_69 : Snd MX3_tellThing 69 (xLdA 70 0) := snd_aload_n (M := MX3_tellThing) (pc := 69) dX3_tellThing_69
theorem sX3_tellThing_70 : Snd MX3_tellThing 70 (xDup 71) := snd_dup (M := MX3_tellThing) (pc := 70) dX3_tellThing_70
theorem sX3_tellThing_71 : Snd MX3_tellThing 71 (xGf 74 3 4) := snd_gf (M := MX3_tellThing) (pc := 71) (C0 := RX3) (T0 := TX3) (N := 14) dX3_tellThing_71 rfl tbX3 (by decide) w237
theorem sX3_tellThing_74 : Snd MX3_tellThing 74 (xLdI 75 1) := snd_iload_n (M := MX3_tellThing) (pc := 74) dX3_tellThing_74
theorem sX3_tellThing_75 : Snd MX3_tellThing 75 (xK 76 (nI 1)) := snd_iconst (M := MX3_tellThing) (pc := 75) dX3_tellThing_75 (by decide +kernel)
theorem sX3_tellThing_76 : Snd MX3_tellThing 76 (xC_ne 83 79) := snd_icmp_ne (M := MX3_tellThing) (pc := 76) dX3_tellThing_76 (by decide)
theorem sX3_tellThing_79 : Snd MX3_tellThing 79 (xK 80 (nI 1)) := snd_iconst (M := MX3_tellThing) (pc := 79) dX3_tellThing_79 (by decide +kernel)
theorem sX3_tellThing_80 : Snd MX3_tellThing 80 (xGo 84) := snd_goto (M := MX3_tellThing) (pc := 80) dX3_tellThing_80 (by decide)
theorem sX3_tellThing_83 : Snd MX3_tellThing 83 (xK 84 (nI 0)) := snd_iconst (M := MX3_tellThing) (pc := 83) dX3_tellThing_83 (by decide +kernel)
theorem sX3_tellThing_84 : Snd MX3_tellThing 84 (xCallS MX5_bit 1 87) := snd_callSN (M := MX3_tellThing) (pc := 84) (n := 1) dX3_tellThing_84 nt3 w241 ⟨w115, w240, ⟨by decide, by decide, by decide +kernel⟩, by decide⟩ ⟨rfl, rfl⟩
theorem sX3_tellThing_87 : Snd MX3_tellThing 87 (xLdA 88 0) := snd_aload_n (M := MX3_tellThing) (pc := 87) dX3_tellThing_87
theorem sX3_tellThing_88 : Snd MX3_tellThing 88 (xGf 91 3 2) := snd_gf (M := MX3_tellThing) (pc := 88) (C0 := RX3) (T0 := TX3) (N := 14) dX3_tellThing_88 rfl tbX3 (by decide) w235
theorem sX3_tellThing_91 : Snd MX3_tellThing 91 (xBin 92 f_ishl) := snd_ishl (M := MX3_tellThing) (pc := 91) dX3_tellThing_91
theorem sX3_tellThing_92 : Snd MX3_tellThing 92 (xBin 93 f_ior) := snd_ior (M := MX3_tellThing) (pc := 92) dX3_tellThing_92
theorem sX3_tellThing_93 : Snd MX3_tellThing 93 (xPfI 96 3 4) := snd_pfI (M := MX3_tellThing) (pc := 93) (C0 := RX3) (T0 := TX3) (N := 14) dX3_tellThing_93 rfl tbX3 tyX3 tyX3_ok nmX3 (by decide) w237 rfl (by decide +kernel)
theorem sX3_tellThing_96 : Snd MX3_tellThing 96 (xLdA 97 0) := snd_aload_n (M := MX3_tellThing) (pc := 96) dX3_tellThing_96
theorem sX3_tellThing_97 : Snd MX3_tellThing 97 (xDup 98) := snd_dup (M := MX3_tellThing) (pc := 97) dX3_tellThing_97
theorem sX3_tellThing_98 : Snd MX3_tellThing 98 (xGf 101 3 5) := snd_gf (M := MX3_tellThing) (pc := 98) (C0 := RX3) (T0 := TX3) (N := 14) dX3_tellThing_98 rfl tbX3 (by decide) w238
theorem sX3_tellThing_101 : Snd MX3_tellThing 101 (xLdI 102 1) := snd_iload_n (M := MX3_tellThing) (pc := 101) dX3_tellThing_101
theorem sX3_tellThing_102 : Snd MX3_tellThing 102 (xK 103 (nI 2)) := snd_iconst (M := MX3_tellThing) (pc := 102) dX3_tellThing_102 (by decide +kernel)
theorem sX3_tellThing_103 : Snd MX3_tellThing 103 (xC_ne 110 106) := snd_icmp_ne (M := MX3_tellThing) (pc := 103) dX3_tellThing_103 (by decide)
theorem sX3_tellThing_106 : Snd MX3_tellThing 106 (xK 107 (nI 1)) := snd_iconst (M := MX3_tellThing) (pc := 106) dX3_tellThing_106 (by decide +kernel)
theorem sX3_tellThing_107 : Snd MX3_tellThing 107 (xGo 111) := snd_goto (M := MX3_tellThing) (pc := 107) dX3_tellThing_107 (by decide)
theorem sX3_tellThing_110 : Snd MX3_tellThing 110 (xK 111 (nI 0)) := snd_iconst (M := MX3_tellThing) (pc := 110) dX3_tellThing_110 (by decide +kernel)
theorem sX3_tellThing_111 : Snd MX3_tellThing 111 (xCallS MX5_bit 1 114) := snd_callSN (M := MX3_tellThing) (pc := 111) (n := 1) dX3_tellThing_111 nt3 w241 ⟨w115, w240, ⟨by decide, by decide, by decide +kernel⟩, by decide⟩ ⟨rfl, rfl⟩
theorem sX3_tellThing_114 : Snd MX3_tellThing 114 (xLdA 115 0) := snd_aload_n (M := MX3_tellThing) (pc := 114) dX3_tellThing_114
theorem sX3_tellThing_115 : Snd MX3_tellThing 115 (xGf 118 3 2) := snd_gf (M := MX3_tellThing) (pc := 115) (C0 := RX3) (T0 := TX3) (N := 14) dX3_tellThing_115 rfl tbX3 (by decide) w235
theorem sX3_tellThing_118 : Snd MX3_tellThing 118 (xBin 119 f_ishl) := snd_ishl (M := MX3_tellThing) (pc := 118) dX3_tellThing_118
theorem sX3_tellThing_119 : Snd MX3_tellThing 119 (xBin 120 f_ior) := snd_ior (M := MX3_tellThing) (pc := 119) dX3_tellThing_119
theorem sX3_tellThing_120 : Snd MX3_tellThing 120 (xPfI 123 3 5) := snd_pfI (M := MX3_tellThing) (pc := 120) (C0 := RX3) (T0 := TX3) (N := 14) dX3_tellThing_120 rfl tbX3 tyX3 tyX3_ok nmX3 (by decide) w238 rfl (by decide +kernel)
theorem sX3_tellThing_123 : Snd MX3_tellThing 123 (xLdA 124 0) := snd_aload_n (M := MX3_tellThing) (pc := 123) dX3_tellThing_123
theorem sX3_tellThing_124 : Snd MX3_tellThing 124 (xDup 125) := snd_dup (M := MX3_tellThing) (pc := 124) dX3_tellThing_124
theorem sX3_tellThing_125 : Snd MX3_tellThing 125 (xGf 128 3 6) := snd_gf (M := MX3_tellThing) (pc := 125) (C0 := RX3) (T0 := TX3) (N := 14) dX3_tellThing_125 rfl tbX3 (by decide) w239
theorem sX3_tellThing_128 : Snd MX3_tellThing 128 (xLdI 129 1) := snd_iload_n (M := MX3_tellThing) (pc := 128) dX3_tellThing_128
theorem sX3_tellThing_129 : Snd MX3_tellThing 129 (xK 130 (nI 3)) := snd_iconst (M := MX3_tellThing) (pc := 129) dX3_tellThing_129 (by decide +kernel)
theorem sX3_tellThing_130 : Snd MX3_tellThing 130 (xC_ne 137 133) := snd_icmp_ne (M := MX3_tellThing) (pc := 130) dX3_tellThing_130 (by decide)
theorem sX3_tellThing_133 : Snd MX3_tellThing 133 (xK 134 (nI 1)) := snd_iconst (M := MX3_tellThing) (pc := 133) dX3_tellThing_133 (by decide +kernel)
theorem sX3_tellThing_134 : Snd MX3_tellThing 134 (xGo 138) := snd_goto (M := MX3_tellThing) (pc := 134) dX3_tellThing_134 (by decide)
theorem sX3_tellThing_137 : Snd MX3_tellThing 137 (xK 138 (nI 0)) := snd_iconst (M := MX3_tellThing) (pc := 137) dX3_tellThing_137 (by decide +kernel)
theorem sX3_tellThing_138 : Snd MX3_tellThing 138 (xCallS MX5_bit 1 141) := snd_callSN (M := MX3_tellThing) (pc := 138) (n := 1) dX3_tellThing_138 nt3 w241 ⟨w115, w240, ⟨by decide, by decide, by decide +kernel⟩, by decide⟩ ⟨rfl, rfl⟩
theorem sX3_tellThing_141 : Snd MX3_tellThing 141 (xLdA 142 0) := snd_aload_n (M := MX3_tellThing) (pc := 141) dX3_tellThing_141
theorem sX3_tellThing_142 : Snd MX3_tellThing 142 (xGf 145 3 2) := snd_gf (M := MX3_tellThing) (pc := 142) (C0 := RX3) (T0 := TX3) (N := 14) dX3_tellThing_142 rfl tbX3 (by decide) w235
theorem sX3_tellThing_145 : Snd MX3_tellThing 145 (xBin 146 f_ishl) := snd_ishl (M := MX3_tellThing) (pc := 145) dX3_tellThing_145
theorem sX3_tellThing_146 : Snd MX3_tellThing 146 (xBin 147 f_ior) := snd_ior (M := MX3_tellThing) (pc := 146) dX3_tellThing_146
theorem sX3_tellThing_147 : Snd MX3_tellThing 147 (xPfI 150 3 6) := snd_pfI (M := MX3_tellThing) (pc := 147) (C0 := RX3) (T0 := TX3) (N := 14) dX3_tellThing_147 rfl tbX3 tyX3 tyX3_ok nmX3 (by decide) w239 rfl (by decide +kernel)
theorem sX3_tellThing_150 : Snd MX3_tellThing 150 (xLdA 151 0) := snd_aload_n (M := MX3_tellThing) (pc := 150) dX3_tellThing_150
theorem sX3_tellThing_151 : Snd MX3_tellThing 151 (xDup 152) := snd_dup (M := MX3_tellThing) (pc := 151) dX3_tellThing_151
theorem sX3_tellThing_152 : Snd MX3_tellThing 152 (xGf 155 3 2) := snd_gf (M := MX3_tellThing) (pc := 152) (C0 := RX3) (T0 := TX3) (N := 14) dX3_tellThing_152 rfl tbX3 (by decide) w235
theorem sX3_tellThing_155 : Snd MX3_tellThing 155 (xK 156 (nI 1)) := snd_iconst (M := MX3_tellThing) (pc := 155) dX3_tellThing_155 (by decide +kernel)
theorem sX3_tellThing_156 : Snd MX3_tellThing 156 (xBin 157 f_iadd) := snd_iadd (M := MX3_tellThing) (pc := 156) dX3_tellThing_156
theorem sX3_tellThing_157 : Snd MX3_tellThing 157 (xPfI 160 3 2) := snd_pfI (M := MX3_tellThing) (pc := 157) (C0 := RX3) (T0 := TX3) (N := 14) dX3_tellThing_157 rfl tbX3 tyX3 tyX3_ok nmX3 (by decide) w235 rfl (by decide +kernel)
theorem sX3_tellThing_160 : Snd MX3_tellThing 160 (xK 161 (nI 1)) := snd_iconst (M := MX3_tellThing) (pc := 160) dX3_tellThing_160 (by decide +kernel)
theorem sX3_tellThing_161 : Snd MX3_tellThing 161 (xRetZ) := snd_zret (M := MX3_tellThing) (pc := 161) dX3_tellThing_161 rfl
theorem VX3_tellThing : Valid MX3_tellThing LX3_tellThing := va_lid sX3_tellThing_0 (va_lid sX3_tellThing_1 (va_lid sX3_tellThing_4 (va_lid sX3_tellThing_6 (va_lid sX3_tellThing_9 (va_lid sX3_tellThing_10 (va_lid sX3_tellThing_11 (va_lid sX3_tellThing_14 (va_lid sX3_tellThing_15 (va_lid sX3_tellThing_16 (va_lid sX3_tellThing_19 (va_lid sX3_tellThing_20 (va_lid sX3_tellThing_22 (va_lid sX3_tellThing_25 (va_lid sX3_tellThing_26 (va_lid sX3_tellThing_28 (va_lid sX3_tellThing_31 (va_lid sX3_tellThing_32 (va_lid sX3_tellThing_33 (va_lid sX3_tellThing_34 (va_lid sX3_tellThing_37 (va_lid sX3_tellThing_38 (va_lid sX3_tellThing_41 (va_lid sX3_tellThing_42 (va_lid sX3_tellThing_45 (va_lid sX3_tellThing_46 (va_lid sX3_tellThing_49 (va_lid sX3_tellThing_50 (va_lid sX3_tellThing_53 (va_lid sX3_tellThing_54 (va_lid sX3_tellThing_57 (va_lid sX3_tellThing_58 (va_lid sX3_tellThing_61 (va_lid sX3_tellThing_62 (va_lid sX3_tellThing_65 (va_lid sX3_tellThing_66 (va_lid sX3_tellThing_69 (va_lid sX3_tellThing_70 (va_lid sX3_tellThing_71 (va_lid sX3_tellThing_74 (va_lid sX3_tellThing_75 (va_lid sX3_tellThing_76 (va_lid sX3_tellThing_79 (va_lid sX3_tellThing_80 (va_lid sX3_tellThing_83 (va_lid sX3_tellThing_84 (va_lid sX3_tellThing_87 (va_lid sX3_tellThing_88 (va_lid sX3_tellThing_91 (va_lid sX3_tellThing_92 (va_lid sX3_tellThing_93 (va_lid sX3_tellThing_96 (va_lid sX3_tellThing_97 (va_lid sX3_tellThing_98 (va_lid sX3_tellThing_101 (va_lid sX3_tellThing_102 (va_lid sX3_tellThing_103 (va_lid sX3_tellThing_106 (va_lid sX3_tellThing_107 (va_lid sX3_tellThing_110 (va_lid sX3_tellThing_111 (va_lid sX3_tellThing_114 (va_lid sX3_tellThing_115 (va_lid sX3_tellThing_118 (va_lid sX3_tellThing_119 (va_lid sX3_tellThing_120 (va_lid sX3_tellThing_123 (va_lid sX3_tellThing_124 (va_lid sX3_tellThing_125 (va_lid sX3_tellThing_128 (va_lid sX3_tellThing_129 (va_lid sX3_tellThing_130 (va_lid sX3_tellThing_133 (va_lid sX3_tellThing_134 (va_lid sX3_tellThing_137 (va_lid sX3_tellThing_138 (va_lid sX3_tellThing_141 (va_lid sX3_tellThing_142 (va_lid sX3_tellThing_145 (va_lid sX3_tellThing_146 (va_lid sX3_tellThing_147 (va_lid sX3_tellThing_150 (va_lid sX3_tellThing_151 (va_lid sX3_tellThing_152 (va_lid sX3_tellThing_155 (va_lid sX3_tellThing_156 (va_lid sX3_tellThing_157 (va_lid sX3_tellThing_160 (va_lid sX3_tellThing_161 (va_lid0)))))))))))))))))))))))))))))))))))))))))))))))))))))))))))))))))))))))))))))))))))))))))
theorem kX3_tellThing_0 : lk LX3_tellThing 0 = some (xLdA 1 0) := rfl
theorem kX3_tellThing_1 : lk LX3_tellThing 1 = some (xGf 4 3 2) := rfl
theorem kX3_tellThing_4 : lk LX3_tellThing 4 = some (xK 6 (nI 8)) := rfl
theorem kX3_tellThing_6 : lk LX3_tellThing 6 = some (xC_ge 31 9) := rfl
theorem kX3_tellThing_9 : lk LX3_tellThing 9 = some (xLdI 10 1) := rfl
theorem kX3_tellThing_10 : lk LX3_tellThing 10 = some (xK 11 (nI 3)) := rfl
theorem kX3_tellThing_11 : lk LX3_tellThing 11 = some (xC_gt 31 14) := rfl
theorem kX3_tellThing_14 : lk LX3_tellThing 14 = some (xLdI 15 2) := rfl
theorem kX3_tellThing_15 : lk LX3_tellThing 15 = some (xK 16 (nI 1)) := rfl
theorem kX3_tellThing_16 : lk LX3_tellThing 16 = some (xC_lt 31 19) := rfl
theorem kX3_tellThing_19 : lk LX3_tellThing 19 = some (xLdI 20 2) := rfl
theorem kX3_tellThing_20 : lk LX3_tellThing 20 = some (xK 22 (nI 20)) := rfl
theorem kX3_tellThing_22 : lk LX3_tellThing 22 = some (xC_gt 31 25) := rfl
theorem kX3_tellThing_25 : lk LX3_tellThing 25 = some (xLdI 26 3) := rfl
theorem kX3_tellThing_26 : lk LX3_tellThing 26 = some (xK 28 (nI 20)) := rfl
theorem kX3_tellThing_28 : lk LX3_tellThing 28 = some (xC_le 33 31) := rfl
theorem kX3_tellThing_31 : lk LX3_tellThing 31 = some (xK 32 (nI 0)) := rfl
theorem kX3_tellThing_32 : lk LX3_tellThing 32 = some (xRetZ) := rfl
theorem kX3_tellThing_33 : lk LX3_tellThing 33 = some (xLdA 34 0) := rfl
theorem kX3_tellThing_34 : lk LX3_tellThing 34 = some (xGf 37 3 7) := rfl
theorem kX3_tellThing_37 : lk LX3_tellThing 37 = some (xLdA 38 0) := rfl
theorem kX3_tellThing_38 : lk LX3_tellThing 38 = some (xGf 41 3 2) := rfl
theorem kX3_tellThing_41 : lk LX3_tellThing 41 = some (xLdI 42 1) := rfl
theorem kX3_tellThing_42 : lk LX3_tellThing 42 = some (xCallS MX5_store 3 45) := rfl
theorem kX3_tellThing_45 : lk LX3_tellThing 45 = some (xLdA 46 0) := rfl
theorem kX3_tellThing_46 : lk LX3_tellThing 46 = some (xGf 49 3 8) := rfl
theorem kX3_tellThing_49 : lk LX3_tellThing 49 = some (xLdA 50 0) := rfl
theorem kX3_tellThing_50 : lk LX3_tellThing 50 = some (xGf 53 3 2) := rfl
theorem kX3_tellThing_53 : lk LX3_tellThing 53 = some (xLdI 54 2) := rfl
theorem kX3_tellThing_54 : lk LX3_tellThing 54 = some (xCallS MX5_store 3 57) := rfl
theorem kX3_tellThing_57 : lk LX3_tellThing 57 = some (xLdA 58 0) := rfl
theorem kX3_tellThing_58 : lk LX3_tellThing 58 = some (xGf 61 3 9) := rfl
theorem kX3_tellThing_61 : lk LX3_tellThing 61 = some (xLdA 62 0) := rfl
theorem kX3_tellThing_62 : lk LX3_tellThing 62 = some (xGf 65 3 2) := rfl
theorem kX3_tellThing_65 : lk LX3_tellThing 65 = some (xLdI 66 3) := rfl
theorem kX3_tellThing_66 : lk LX3_tellThing 66 = some (xCallS MX5_store 3 69) := rfl
theorem kX3_tellThing_69 : lk LX3_tellThing 69 = some (xLdA 70 0) := rfl
theorem kX3_tellThing_70 : lk LX3_tellThing 70 = some (xDup 71) := rfl
theorem kX3_tellThing_71 : lk LX3_tellThing 71 = some (xGf 74 3 4) := rfl
theorem kX3_tellThing_74 : lk LX3_tellThing 74 = some (xLdI 75 1) := rfl
theorem kX3_tellThing_75 : lk LX3_tellThing 75 = some (xK 76 (nI 1)) := rfl
theorem kX3_tellThing_76 : lk LX3_tellThing 76 = some (xC_ne 83 79) := rfl
theorem kX3_tellThing_79 : lk LX3_tellThing 79 = some (xK 80 (nI 1)) := rfl
theorem kX3_tellThing_80 : lk LX3_tellThing 80 = some (xGo 84) := rfl
theorem kX3_tellThing_83 : lk LX3_tellThing 83 = some (xK 84 (nI 0)) := rfl
theorem kX3_tellThing_84 : lk LX3_tellThing 84 = some (xCallS MX5_bit 1 87) := rfl
theorem kX3_tellThing_87 : lk LX3_tellThing 87 = some (xLdA 88 0) := rfl
theorem kX3_tellThing_88 : lk LX3_tellThing 88 = some (xGf 91 3 2) := rfl
theorem kX3_tellThing_91 : lk LX3_tellThing 91 = some (xBin 92 f_ishl) := rfl
theorem kX3_tellThing_92 : lk LX3_tellThing 92 = some (xBin 93 f_ior) := rfl
theorem kX3_tellThing_93 : lk LX3_tellThing 93 = some (xPfI 96 3 4) := rfl
theorem kX3_tellThing_96 : lk LX3_tellThing 96 = some (xLdA 97 0) := rfl
theorem kX3_tellThing_97 : lk LX3_tellThing 97 = some (xDup 98) := rfl
theorem kX3_tellThing_98 : lk LX3_tellThing 98 = some (xGf 101 3 5) := rfl
theorem kX3_tellThing_101 : lk LX3_tellThing 101 = some (xLdI 102 1) := rfl
theorem kX3_tellThing_102 : lk LX3_tellThing 102 = some (xK 103 (nI 2)) := rfl
theorem kX3_tellThing_103 : lk LX3_tellThing 103 = some (xC_ne 110 106) := rfl
theorem kX3_tellThing_106 : lk LX3_tellThing 106 = some (xK 107 (nI 1)) := rfl
theorem kX3_tellThing_107 : lk LX3_tellThing 107 = some (xGo 111) := rfl
theorem kX3_tellThing_110 : lk LX3_tellThing 110 = some (xK 111 (nI 0)) := rfl
theorem kX3_tellThing_111 : lk LX3_tellThing 111 = some (xCallS MX5_bit 1 114) := rfl
theorem kX3_tellThing_114 : lk LX3_tellThing 114 = some (xLdA 115 0) := rfl
theorem kX3_tellThing_115 : lk LX3_tellThing 115 = some (xGf 118 3 2) := rfl
theorem kX3_tellThing_118 : lk LX3_tellThing 118 = some (xBin 119 f_ishl) := rfl
theorem kX3_tellThing_119 : lk LX3_tellThing 119 = some (xBin 120 f_ior) := rfl
theorem kX3_tellThing_120 : lk LX3_tellThing 120 = some (xPfI 123 3 5) := rfl
theorem kX3_tellThing_123 : lk LX3_tellThing 123 = some (xLdA 124 0) := rfl
theorem kX3_tellThing_124 : lk LX3_tellThing 124 = some (xDup 125) := rfl
theorem kX3_tellThing_125 : lk LX3_tellThing 125 = some (xGf 128 3 6) := rfl
theorem kX3_tellThing_128 : lk LX3_tellThing 128 = some (xLdI 129 1) := rfl
theorem kX3_tellThing_129 : lk LX3_tellThing 129 = some (xK 130 (nI 3)) := rfl
theorem kX3_tellThing_130 : lk LX3_tellThing 130 = some (xC_ne 137 133) := rfl
theorem kX3_tellThing_133 : lk LX3_tellThing 133 = some (xK 134 (nI 1)) := rfl
theorem kX3_tellThing_134 : lk LX3_tellThing 134 = some (xGo 138) := rfl
theorem kX3_tellThing_137 : lk LX3_tellThing 137 = some (xK 138 (nI 0)) := rfl
theorem kX3_tellThing_138 : lk LX3_tellThing 138 = some (xCallS MX5_bit 1 141) := rfl
theorem kX3_tellThing_141 : lk LX3_tellThing 141 = some (xLdA 142 0) := rfl
theorem kX3_tellThing_142 : lk LX3_tellThing 142 = some (xGf 145 3 2) := rfl
theorem kX3_tellThing_145 : lk LX3_tellThing 145 = some (xBin 146 f_ishl) := rfl
theorem kX3_tellThing_146 : lk LX3_tellThing 146 = some (xBin 147 f_ior) := rfl
set_option maxRecDepth 20000 in
theorem kX3_tellThing_147 : lk LX3_tellThing 147 = some (xPfI 150 3 6) := rfl
set_option maxRecDepth 20000 in
theorem kX3_tellThing_150 : lk LX3_tellThing 150 = some (xLdA 151 0) := rfl
set_option maxRecDepth 20000 in
theorem kX3_tellThing_151 : lk LX3_tellThing 151 = some (xDup 152) := rfl
set_option maxRecDepth 20000 in
theorem kX3_tellThing_152 : lk LX3_tellThing 152 = some (xGf 155 3 2) := rfl
set_option maxRecDepth 20000 in
theorem kX3_tellThing_155 : lk LX3_tellThing 155 = some (xK 156 (nI 1)) := rfl
set_option maxRecDepth 20000 in
theorem kX3_tellThing_156 : lk LX3_tellThing 156 = some (xBin 157 f_iadd) := rfl
set_option maxRecDepth 20000 in
theorem kX3_tellThing_157 : lk LX3_tellThing 157 = some (xPfI 160 3 2) := rfl
set_option maxRecDepth 20000 in
theorem kX3_tellThing_160 : lk LX3_tellThing 160 = some (xK 161 (nI 1)) := rfl
set_option maxRecDepth 20000 in
theorem kX3_tellThing_161 : lk LX3_tellThing 161 = some (xRetZ) := rfl
def LX3_tellLife : List (Nat × XI) := [(0, xLdA 1 0),
  (1, xGf 4 3 3),
  (4, xK 6 (nI 6)),
  (6, xC_ge 27 9),
  (9, xLdI 10 1),
  (10, xK 12 (nI 9)),
  (12, xC_gt 27 15),
  (15, xLdI 16 2),
  (16, xK 18 (nI 60)),
  (18, xC_gt 27 21),
  (21, xLdI 22 3),
  (22, xK 24 (nI 60)),
  (24, xC_le 29 27),
  (27, xK 28 (nI 0)),
  (28, xRetZ),
  (29, xLdA 30 0),
  (30, xGf 33 3 10),
  (33, xLdA 34 0),
  (34, xGf 37 3 3),
  (37, xLdI 38 1),
  (38, xCallS MX5_store 3 41),
  (41, xLdA 42 0),
  (42, xGf 45 3 11),
  (45, xLdA 46 0),
  (46, xGf 49 3 3),
  (49, xLdI 50 2),
  (50, xCallS MX5_store 3 53),
  (53, xLdA 54 0),
  (54, xGf 57 3 12),
  (57, xLdA 58 0),
  (58, xGf 61 3 3),
  (61, xLdI 62 3),
  (62, xCallS MX5_store 3 65),
  (65, xLdA 66 0),
  (66, xGf 69 3 13),
  (69, xLdA 70 0),
  (70, xGf 73 3 3),
  (73, xK 74 (nI 0)),
  (74, xCallS MX5_store 3 77),
  (77, xLdA 78 0),
  (78, xDup 79),
  (79, xGf 82 3 3),
  (82, xK 83 (nI 1)),
  (83, xBin 84 f_iadd),
  (84, xPfI 87 3 3),
  (87, xK 88 (nI 1)),
  (88, xRetZ)]
theorem sX3_tellLife_0 : Snd MX3_tellLife 0 (xLdA 1 0) := snd_aload_n (M := MX3_tellLife) (pc := 0) dX3_tellLife_0
theorem sX3_tellLife_1 : Snd MX3_tellLife 1 (xGf 4 3 3) := snd_gf (M := MX3_tellLife) (pc := 1) (C0 := RX3) (T0 := TX3) (N := 14) dX3_tellLife_1 rfl tbX3 (by decide) w236
theorem sX3_tellLife_4 : Snd MX3_tellLife 4 (xK 6 (nI 6)) := snd_bipush (M := MX3_tellLife) (pc := 4) dX3_tellLife_4 (by decide +kernel)
theorem sX3_tellLife_6 : Snd MX3_tellLife 6 (xC_ge 27 9) := snd_icmp_ge (M := MX3_tellLife) (pc := 6) dX3_tellLife_6 (by decide)
theorem sX3_tellLife_9 : Snd MX3_tellLife 9 (xLdI 10 1) := snd_iload_n (M := MX3_tellLife) (pc := 9) dX3_tellLife_9
theorem sX3_tellLife_10 : Snd MX3_tellLife 10 (xK 12 (nI 9)) := snd_bipush (M := MX3_tellLife) (pc := 10) dX3_tellLife_10 (by decide +kernel)
theorem sX3_tellLife_12 : Snd MX3_tellLife 12 (xC_gt 27 15) := snd_icmp_gt (M := MX3_tellLife) (pc := 12) dX3_tellLife_12 (by decide)
theorem sX3_tellLife_15 : Snd MX3_tellLife 15 (xLdI 16 2) := snd_iload_n (M := MX3_tellLife) (pc := 15) dX3_tellLife_15
theorem sX3_tellLife_16 : Snd MX3_tellLife 16 (xK 18 (nI 60)) := snd_bipush (M := MX3_tellLife) (pc := 16) dX3_tellLife_16 (by decide +kernel)
theorem sX3_tellLife_18 : Snd MX3_tellLife 18 (xC_gt 27 21) := snd_icmp_gt (M := MX3_tellLife) (pc := 18) dX3_tellLife_18 (by decide)
theorem sX3_tellLife_21 : Snd MX3_tellLife 21 (xLdI 22 3) := snd_iload_n (M := MX3_tellLife) (pc := 21) dX3_tellLife_21
theorem sX3_tellLife_22 : Snd MX3_tellLife 22 (xK 24 (nI 60)) := snd_bipush (M := MX3_tellLife) (pc := 22) dX3_tellLife_22 (by decide +kernel)
theorem sX3_tellLife_24 : Snd MX3_tellLife 24 (xC_le 29 27) := snd_icmp_le (M := MX3_tellLife) (pc := 24) dX3_tellLife_24 (by decide)
theorem sX3_tellLife_27 : Snd MX3_tellLife 27 (xK 28 (nI 0)) := snd_iconst (M := MX3_tellLife) (pc := 27) dX3_tellLife_27 (by decide +kernel)
theorem sX3_tellLife_28 : Snd MX3_tellLife 28 (xRetZ) := snd_zret (M := MX3_tellLife) (pc := 28) dX3_tellLife_28 rfl
theorem sX3_tellLife_29 : Snd MX3_tellLife 29 (xLdA 30 0) := snd_aload_n (M := MX3_tellLife) (pc := 29) dX3_tellLife_29
theorem sX3_tellLife_30 : Snd MX3_tellLife 30 (xGf 33 3 10) := snd_gf (M := MX3_tellLife) (pc := 30) (C0 := RX3) (T0 := TX3) (N := 14) dX3_tellLife_30 rfl tbX3 (by decide) w229
theorem sX3_tellLife_33 : Snd MX3_tellLife 33 (xLdA 34 0) := snd_aload_n (M := MX3_tellLife) (pc := 33) dX3_tellLife_33
theorem sX3_tellLife_34 : Snd MX3_tellLife 34 (xGf 37 3 3) := snd_gf (M := MX3_tellLife) (pc := 34) (C0 := RX3) (T0 := TX3) (N := 14) dX3_tellLife_34 rfl tbX3 (by decide) w236
theorem sX3_tellLife_37 : Snd MX3_tellLife 37 (xLdI 38 1) := snd_iload_n (M := MX3_tellLife) (pc := 37) dX3_tellLife_37
theorem sX3_tellLife_38 : Snd MX3_tellLife 38 (xCallS MX5_store 3 41) := snd_callSN (M := MX3_tellLife) (pc := 38) (n := 3) dX3_tellLife_38 nt2 w141 ⟨w115, w140, ⟨by decide, by decide, by decide +kernel⟩, by decide⟩ ⟨rfl, rfl⟩
theorem sX3_tellLife_41 : Snd MX3_tellLife 41 (xLdA 42 0) := snd_aload_n (M := MX3_tellLife) (pc := 41) dX3_tellLife_41
theorem sX3_tellLife_42 : Snd MX3_tellLife 42 (xGf 45 3 11) := snd_gf (M := MX3_tellLife) (pc := 42) (C0 := RX3) (T0 := TX3) (N := 14) dX3_tellLife_42 rfl tbX3 (by decide) w230
theorem sX3_tellLife_45 : Snd MX3_tellLife 45 (xLdA 46 0) := snd_aload_n (M := MX3_tellLife) (pc := 45) dX3_tellLife_45
theorem sX3_tellLife_46 : Snd MX3_tellLife 46 (xGf 49 3 3) := snd_gf (M := MX3_tellLife) (pc := 46) (C0 := RX3) (T0 := TX3) (N := 14) dX3_tellLife_46 rfl tbX3 (by decide) w236
theorem sX3_tellLife_49 : Snd MX3_tellLife 49 (xLdI 50 2) := snd_iload_n (M := MX3_tellLife) (pc := 49) dX3_tellLife_49
theorem sX3_tellLife_50 : Snd MX3_tellLife 50 (xCallS MX5_store 3 53) := snd_callSN (M := MX3_tellLife) (pc := 50) (n := 3) dX3_tellLife_50 nt2 w141 ⟨w115, w140, ⟨by decide, by decide, by decide +kernel⟩, by decide⟩ ⟨rfl, rfl⟩
theorem sX3_tellLife_53 : Snd MX3_tellLife 53 (xLdA 54 0) := snd_aload_n (M := MX3_tellLife) (pc := 53) dX3_tellLife_53
theorem sX3_tellLife_54 : Snd MX3_tellLife 54 (xGf 57 3 12) := snd_gf (M := MX3_tellLife) (pc := 54) (C0 := RX3) (T0 := TX3) (N := 14) dX3_tellLife_54 rfl tbX3 (by decide) w231
theorem sX3_tellLife_57 : Snd MX3_tellLife 57 (xLdA 58 0) := snd_aload_n (M := MX3_tellLife) (pc := 57) dX3_tellLife_57
theorem sX3_tellLife_58 : Snd MX3_tellLife 58 (xGf 61 3 3) := snd_gf (M := MX3_tellLife) (pc := 58) (C0 := RX3) (T0 := TX3) (N := 14) dX3_tellLife_58 rfl tbX3 (by decide) w236
theorem sX3_tellLife_61 : Snd MX3_tellLife 61 (xLdI 62 3) := snd_iload_n (M := MX3_tellLife) (pc := 61) dX3_tellLife_61
theorem sX3_tellLife_62 : Snd MX3_tellLife 62 (xCallS MX5_store 3 65) := snd_callSN (M := MX3_tellLife) (pc := 62) (n := 3) dX3_tellLife_62 nt2 w141 ⟨w115, w140, ⟨by decide, by decide, by decide +kernel⟩, by decide⟩ ⟨rfl, rfl⟩
theorem sX3_tellLife_65 : Snd MX3_tellLife 65 (xLdA 66 0) := snd_aload_n (M := MX3_tellLife) (pc := 65) dX3_tellLife_65
theorem sX3_tellLife_66 : Snd MX3_tellLife 66 (xGf 69 3 13) := snd_gf (M := MX3_tellLife) (pc := 66) (C0 := RX3) (T0 := TX3) (N := 14) dX3_tellLife_66 rfl tbX3 (by decide) w232
theorem sX3_tellLife_69 : Snd MX3_tellLife 69 (xLdA 70 0) := snd_aload_n (M := MX3_tellLife) (pc := 69) dX3_tellLife_69
theorem sX3_tellLife_70 : Snd MX3_tellLife 70 (xGf 73 3 3) := snd_gf (M := MX3_tellLife) (pc := 70) (C0 := RX3) (T0 := TX3) (N := 14) dX3_tellLife_70 rfl tbX3 (by decide) w236
theorem sX3_tellLife_73 : Snd MX3_tellLife 73 (xK 74 (nI 0)) := snd_iconst (M := MX3_tellLife) (pc := 73) dX3_tellLife_73 (by decide +kernel)
theorem sX3_tellLife_74 : Snd MX3_tellLife 74 (xCallS MX5_store 3 77) := snd_callSN (M := MX3_tellLife) (pc := 74) (n := 3) dX3_tellLife_74 nt2 w141 ⟨w115, w140, ⟨by decide, by decide, by decide +kernel⟩, by decide⟩ ⟨rfl, rfl⟩
theorem sX3_tellLife_77 : Snd MX3_tellLife 77 (xLdA 78 0) := snd_aload_n (M := MX3_tellLife) (pc := 77) dX3_tellLife_77
theorem sX3_tellLife_78 : Snd MX3_tellLife 78 (xDup 79) := snd_dup (M := MX3_tellLife) (pc := 78) dX3_tellLife_78
theorem sX3_tellLife_79 : Snd MX3_tellLife 79 (xGf 82 3 3) := snd_gf (M := MX3_tellLife) (pc := 79) (C0 := RX3) (T0 := TX3) (N := 14) dX3_tellLife_79 rfl tbX3 (by decide) w236
theorem sX3_tellLife_82 : Snd MX3_tellLife 82 (xK 83 (nI 1)) := snd_iconst (M := MX3_tellLife) (pc := 82) dX3_tellLife_82 (by decide +kernel)
theorem sX3_tellLife_83 : Snd MX3_tellLife 83 (xBin 84 f_iadd) := snd_iadd (M := MX3_tellLife) (pc := 83) dX3_tellLife_83
theorem sX3_tellLife_84 : Snd MX3_tellLife 84 (xPfI 87 3 3) := snd_pfI (M := MX3_tellLife) (pc := 84) (C0 := RX3) (T0 := TX3) (N := 14) dX3_tellLife_84 rfl tbX3 tyX3 tyX3_ok nmX3 (by decide) w236 rfl (by decide +kernel)
theorem sX3_tellLife_87 : Snd MX3_tellLife 87 (xK 88 (nI 1)) := snd_iconst (M := MX3_tellLife) (pc := 87) dX3_tellLife_87 (by decide +kernel)
theorem sX3_tellLife_88 : Snd MX3_tellLife 88 (xRetZ) := snd_zret (M := MX3_tellLife) (pc := 88) dX3_tellLife_88 rfl
theorem VX3_tellLife : Valid MX3_tellLife LX3_tellLife := va_lid sX3_tellLife_0 (va_lid sX3_tellLife_1 (va_lid sX3_tellLife_4 (va_lid sX3_tellLife_6 (va_lid sX3_tellLife_9 (va_lid sX3_tellLife_10 (va_lid sX3_tellLife_12 (va_lid sX3_tellLife_15 (va_lid sX3_tellLife_16 (va_lid sX3_tellLife_18 (va_lid sX3_tellLife_21 (va_lid sX3_tellLife_22 (va_lid sX3_tellLife_24 (va_lid sX3_tellLife_27 (va_lid sX3_tellLife_28 (va_lid sX3_tellLife_29 (va_lid sX3_tellLife_30 (va_lid sX3_tellLife_33 (va_lid sX3_tellLife_34 (va_lid sX3_tellLife_37 (va_lid sX3_tellLife_38 (va_lid sX3_tellLife_41 (va_lid sX3_tellLife_42 (va_lid sX3_tellLife_45 (va_lid sX3_tellLife_46 (va_lid sX3_tellLife_49 (va_lid sX3_tellLife_50 (va_lid sX3_tellLife_53 (va_lid sX3_tellLife_54 (va_lid sX3_tellLife_57 (va_lid sX3_tellLife_58 (va_lid sX3_tellLife_61 (va_lid sX3_tellLife_62 (va_lid sX3_tellLife_65 (va_lid sX3_tellLife_66 (va_lid sX3_tellLife_69 (va_lid sX3_tellLife_70 (va_lid sX3_tellLife_73 (va_lid sX3_tellLife_74 (va_lid sX3_tellLife_77 (va_lid sX3_tellLife_78 (va_lid sX3_tellLife_79 (va_lid sX3_tellLife_82 (va_lid sX3_tellLife_83 (va_lid sX3_tellLife_84 (va_lid sX3_tellLife_87 (va_lid sX3_tellLife_88 (va_lid0)))))))))))))))))))))))))))))))))))))))))))))))
theorem kX3_tellLife_0 : lk LX3_tellLife 0 = some (xLdA 1 0) := rfl
theorem kX3_tellLife_1 : lk LX3_tellLife 1 = some (xGf 4 3 3) := rfl
theorem kX3_tellLife_4 : lk LX3_tellLife 4 = some (xK 6 (nI 6)) := rfl
theorem kX3_tellLife_6 : lk LX3_tellLife 6 = some (xC_ge 27 9) := rfl
theorem kX3_tellLife_9 : lk LX3_tellLife 9 = some (xLdI 10 1) := rfl
theorem kX3_tellLife_10 : lk LX3_tellLife 10 = some (xK 12 (nI 9)) := rfl
theorem kX3_tellLife_12 : lk LX3_tellLife 12 = some (xC_gt 27 15) := rfl
theorem kX3_tellLife_15 : lk LX3_tellLife 15 = some (xLdI 16 2) := rfl
theorem kX3_tellLife_16 : lk LX3_tellLife 16 = some (xK 18 (nI 60)) := rfl
theorem kX3_tellLife_18 : lk LX3_tellLife 18 = some (xC_gt 27 21) := rfl
theorem kX3_tellLife_21 : lk LX3_tellLife 21 = some (xLdI 22 3) := rfl
theorem kX3_tellLife_22 : lk LX3_tellLife 22 = some (xK 24 (nI 60)) := rfl
theorem kX3_tellLife_24 : lk LX3_tellLife 24 = some (xC_le 29 27) := rfl
theorem kX3_tellLife_27 : lk LX3_tellLife 27 = some (xK 28 (nI 0)) := rfl
theorem kX3_tellLife_28 : lk LX3_tellLife 28 = some (xRetZ) := rfl
theorem kX3_tellLife_29 : lk LX3_tellLife 29 = some (xLdA 30 0) := rfl
theorem kX3_tellLife_30 : lk LX3_tellLife 30 = some (xGf 33 3 10) := rfl
theorem kX3_tellLife_33 : lk LX3_tellLife 33 = some (xLdA 34 0) := rfl
theorem kX3_tellLife_34 : lk LX3_tellLife 34 = some (xGf 37 3 3) := rfl
theorem kX3_tellLife_37 : lk LX3_tellLife 37 = some (xLdI 38 1) := rfl
theorem kX3_tellLife_38 : lk LX3_tellLife 38 = some (xCallS MX5_store 3 41) := rfl
theorem kX3_tellLife_41 : lk LX3_tellLife 41 = some (xLdA 42 0) := rfl
theorem kX3_tellLife_42 : lk LX3_tellLife 42 = some (xGf 45 3 11) := rfl
theorem kX3_tellLife_45 : lk LX3_tellLife 45 = some (xLdA 46 0) := rfl
theorem kX3_tellLife_46 : lk LX3_tellLife 46 = some (xGf 49 3 3) := rfl
theorem kX3_tellLife_49 : lk LX3_tellLife 49 = some (xLdI 50 2) := rfl
theorem kX3_tellLife_50 : lk LX3_tellLife 50 = some (xCallS MX5_store 3 53) := rfl
theorem kX3_tellLife_53 : lk LX3_tellLife 53 = some (xLdA 54 0) := rfl
theorem kX3_tellLife_54 : lk LX3_tellLife 54 = some (xGf 57 3 12) := rfl
theorem kX3_tellLife_57 : lk LX3_tellLife 57 = some (xLdA 58 0) := rfl
theorem kX3_tellLife_58 : lk LX3_tellLife 58 = some (xGf 61 3 3) := rfl
theorem kX3_tellLife_61 : lk LX3_tellLife 61 = some (xLdI 62 3) := rfl
theorem kX3_tellLife_62 : lk LX3_tellLife 62 = some (xCallS MX5_store 3 65) := rfl
theorem kX3_tellLife_65 : lk LX3_tellLife 65 = some (xLdA 66 0) := rfl
theorem kX3_tellLife_66 : lk LX3_tellLife 66 = some (xGf 69 3 13) := rfl
theorem kX3_tellLife_69 : lk LX3_tellLife 69 = some (xLdA 70 0) := rfl
theorem kX3_tellLife_70 : lk LX3_tellLife 70 = some (xGf 73 3 3) := rfl
theorem kX3_tellLife_73 : lk LX3_tellLife 73 = some (xK 74 (nI 0)) := rfl
theorem kX3_tellLife_74 : lk LX3_tellLife 74 = some (xCallS MX5_store 3 77) := rfl
theorem kX3_tellLife_77 : lk LX3_tellLife 77 = some (xLdA 78 0) := rfl
theorem kX3_tellLife_78 : lk LX3_tellLife 78 = some (xDup 79) := rfl
theorem kX3_tellLife_79 : lk LX3_tellLife 79 = some (xGf 82 3 3) := rfl
theorem kX3_tellLife_82 : lk LX3_tellLife 82 = some (xK 83 (nI 1)) := rfl
theorem kX3_tellLife_83 : lk LX3_tellLife 83 = some (xBin 84 f_iadd) := rfl
theorem kX3_tellLife_84 : lk LX3_tellLife 84 = some (xPfI 87 3 3) := rfl
theorem kX3_tellLife_87 : lk LX3_tellLife 87 = some (xK 88 (nI 1)) := rfl
theorem kX3_tellLife_88 : lk LX3_tellLife 88 = some (xRetZ) := rfl
def LX3_tellNeed : List (Nat × XI) := [(0, xLdA 1 0),
  (1, xLdI 2 1),
  (2, xCallV MX3_isLife 3 1 5),
  (5, xZ_eq 16 8),
  (8, xLdA 9 0),
  (9, xLdI 10 2),
  (10, xCallV MX3_isThing 3 1 13),
  (13, xZ_ne 18 16),
  (16, xK 17 (nI 0)),
  (17, xRetZ),
  (18, xLdA 19 0),
  (19, xGf 22 3 13),
  (22, xLdI 23 1),
  (23, xLdA 24 0),
  (24, xGf 27 3 13),
  (27, xLdI 28 1),
  (28, xCallS MX5_at 2 31),
  (31, xK 32 (nI 1)),
  (32, xLdI 33 2),
  (33, xBin 34 f_ishl),
  (34, xBin 35 f_ixor),
  (35, xCallS MX5_store 3 38),
  (38, xK 39 (nI 1)),
  (39, xRetZ)]
theorem sX3_tellNeed_0 : Snd MX3_tellNeed 0 (xLdA 1 0) := snd_aload_n (M := MX3_tellNeed) (pc := 0) dX3_tellNeed_0
theorem sX3_tellNeed_1 : Snd MX3_tellNeed 1 (xLdI 2 1) := snd_iload_n (M := MX3_tellNeed) (pc := 1) dX3_tellNeed_1
theorem sX3_tellNeed_2 : Snd MX3_tellNeed 2 (xCallV MX3_isLife 3 1 5) := snd_callV (M := MX3_tellNeed) (pc := 2) (n := 1) dX3_tellNeed_2 rfl w243 w244 w245 ⟨w83, w242, ⟨by decide, by decide, by decide +kernel⟩, by decide⟩ ⟨rfl, rfl⟩
theorem sX3_tellNeed_5 : Snd MX3_tellNeed 5 (xZ_eq 16 8) := snd_if_eq (M := MX3_tellNeed) (pc := 5) dX3_tellNeed_5 (by decide)
theorem sX3_tellNeed_8 : Snd MX3_tellNeed 8 (xLdA 9 0) := snd_aload_n (M := MX3_tellNeed) (pc := 8) dX3_tellNeed_8
theorem sX3_tellNeed_9 : Snd MX3_tellNeed 9 (xLdI 10 2) := snd_iload_n (M := MX3_tellNeed) (pc := 9) dX3_tellNeed_9
theorem sX3_tellNeed_10 : Snd MX3_tellNeed 10 (xCallV MX3_isThing 3 1 13) := snd_callV (M := MX3_tellNeed) (pc := 10) (n := 1) dX3_tellNeed_10 rfl w247 w248 w249 ⟨w83, w246, ⟨by decide, by decide, by decide +kernel⟩, by decide⟩ ⟨rfl, rfl⟩
theorem sX3_tellNeed_13 : Snd MX3_tellNeed 13 (xZ_ne 18 16) := snd_if_ne (M := MX3_tellNeed) (pc := 13) dX3_tellNeed_13 (by decide)
theorem sX3_tellNeed_16 : Snd MX3_tellNeed 16 (xK 17 (nI 0)) := snd_iconst (M := MX3_tellNeed) (pc := 16) dX3_tellNeed_16 (by decide +kernel)
theorem sX3_tellNeed_17 : Snd MX3_tellNeed 17 (xRetZ) := snd_zret (M := MX3_tellNeed) (pc := 17) dX3_tellNeed_17 rfl
theorem sX3_tellNeed_18 : Snd MX3_tellNeed 18 (xLdA 19 0) := snd_aload_n (M := MX3_tellNeed) (pc := 18) dX3_tellNeed_18
theorem sX3_tellNeed_19 : Snd MX3_tellNeed 19 (xGf 22 3 13) := snd_gf (M := MX3_tellNeed) (pc := 19) (C0 := RX3) (T0 := TX3) (N := 14) dX3_tellNeed_19 rfl tbX3 (by decide) w232
theorem sX3_tellNeed_22 : Snd MX3_tellNeed 22 (xLdI 23 1) := snd_iload_n (M := MX3_tellNeed) (pc := 22) dX3_tellNeed_22
theorem sX3_tellNeed_23 : Snd MX3_tellNeed 23 (xLdA 24 0) := snd_aload_n (M := MX3_tellNeed) (pc := 23) dX3_tellNeed_23
theorem sX3_tellNeed_24 : Snd MX3_tellNeed 24 (xGf 27 3 13) := snd_gf (M := MX3_tellNeed) (pc := 24) (C0 := RX3) (T0 := TX3) (N := 14) dX3_tellNeed_24 rfl tbX3 (by decide) w232
theorem sX3_tellNeed_27 : Snd MX3_tellNeed 27 (xLdI 28 1) := snd_iload_n (M := MX3_tellNeed) (pc := 27) dX3_tellNeed_27
theorem sX3_tellNeed_28 : Snd MX3_tellNeed 28 (xCallS MX5_at 2 31) := snd_callSN (M := MX3_tellNeed) (pc := 28) (n := 2) dX3_tellNeed_28 nt4 w123 ⟨w115, w122, ⟨by decide, by decide, by decide +kernel⟩, by decide⟩ ⟨rfl, rfl⟩
theorem sX3_tellNeed_31 : Snd MX3_tellNeed 31 (xK 32 (nI 1)) := snd_iconst (M := MX3_tellNeed) (pc := 31) dX3_tellNeed_31 (by decide +kernel)
theorem sX3_tellNeed_32 : Snd MX3_tellNeed 32 (xLdI 33 2) := snd_iload_n (M := MX3_tellNeed) (pc := 32) dX3_tellNeed_32
theorem sX3_tellNeed_33 : Snd MX3_tellNeed 33 (xBin 34 f_ishl) := snd_ishl (M := MX3_tellNeed) (pc := 33) dX3_tellNeed_33
theorem sX3_tellNeed_34 : Snd MX3_tellNeed 34 (xBin 35 f_ixor) := snd_ixor (M := MX3_tellNeed) (pc := 34) dX3_tellNeed_34
theorem sX3_tellNeed_35 : Snd MX3_tellNeed 35 (xCallS MX5_store 3 38) := snd_callSN (M := MX3_tellNeed) (pc := 35) (n := 3) dX3_tellNeed_35 nt2 w141 ⟨w115, w140, ⟨by decide, by decide, by decide +kernel⟩, by decide⟩ ⟨rfl, rfl⟩
theorem sX3_tellNeed_38 : Snd MX3_tellNeed 38 (xK 39 (nI 1)) := snd_iconst (M := MX3_tellNeed) (pc := 38) dX3_tellNeed_38 (by decide +kernel)
theorem sX3_tellNeed_39 : Snd MX3_tellNeed 39 (xRetZ) := snd_zret (M := MX3_tellNeed) (pc := 39) dX3_tellNeed_39 rfl
theorem VX3_tellNeed : Valid MX3_tellNeed LX3_tellNeed := va_lid sX3_tellNeed_0 (va_lid sX3_tellNeed_1 (va_lid sX3_tellNeed_2 (va_lid sX3_tellNeed_5 (va_lid sX3_tellNeed_8 (va_lid sX3_tellNeed_9 (va_lid sX3_tellNeed_10 (va_lid sX3_tellNeed_13 (va_lid sX3_tellNeed_16 (va_lid sX3_tellNeed_17 (va_lid sX3_tellNeed_18 (va_lid sX3_tellNeed_19 (va_lid sX3_tellNeed_22 (va_lid sX3_tellNeed_23 (va_lid sX3_tellNeed_24 (va_lid sX3_tellNeed_27 (va_lid sX3_tellNeed_28 (va_lid sX3_tellNeed_31 (va_lid sX3_tellNeed_32 (va_lid sX3_tellNeed_33 (va_lid sX3_tellNeed_34 (va_lid sX3_tellNeed_35 (va_lid sX3_tellNeed_38 (va_lid sX3_tellNeed_39 (va_lid0))))))))))))))))))))))))
theorem kX3_tellNeed_0 : lk LX3_tellNeed 0 = some (xLdA 1 0) := rfl
theorem kX3_tellNeed_1 : lk LX3_tellNeed 1 = some (xLdI 2 1) := rfl
theorem kX3_tellNeed_2 : lk LX3_tellNeed 2 = some (xCallV MX3_isLife 3 1 5) := rfl
theorem kX3_tellNeed_5 : lk LX3_tellNeed 5 = some (xZ_eq 16 8) := rfl
theorem kX3_tellNeed_8 : lk LX3_tellNeed 8 = some (xLdA 9 0) := rfl
theorem kX3_tellNeed_9 : lk LX3_tellNeed 9 = some (xLdI 10 2) := rfl
theorem kX3_tellNeed_10 : lk LX3_tellNeed 10 = some (xCallV MX3_isThing 3 1 13) := rfl
theorem kX3_tellNeed_13 : lk LX3_tellNeed 13 = some (xZ_ne 18 16) := rfl
theorem kX3_tellNeed_16 : lk LX3_tellNeed 16 = some (xK 17 (nI 0)) := rfl
theorem kX3_tellNeed_17 : lk LX3_tellNeed 17 = some (xRetZ) := rfl
theorem kX3_tellNeed_18 : lk LX3_tellNeed 18 = some (xLdA 19 0) := rfl
theorem kX3_tellNeed_19 : lk LX3_tellNeed 19 = some (xGf 22 3 13) := rfl
theorem kX3_tellNeed_22 : lk LX3_tellNeed 22 = some (xLdI 23 1) := rfl
theorem kX3_tellNeed_23 : lk LX3_tellNeed 23 = some (xLdA 24 0) := rfl
theorem kX3_tellNeed_24 : lk LX3_tellNeed 24 = some (xGf 27 3 13) := rfl
theorem kX3_tellNeed_27 : lk LX3_tellNeed 27 = some (xLdI 28 1) := rfl
theorem kX3_tellNeed_28 : lk LX3_tellNeed 28 = some (xCallS MX5_at 2 31) := rfl
theorem kX3_tellNeed_31 : lk LX3_tellNeed 31 = some (xK 32 (nI 1)) := rfl
theorem kX3_tellNeed_32 : lk LX3_tellNeed 32 = some (xLdI 33 2) := rfl
theorem kX3_tellNeed_33 : lk LX3_tellNeed 33 = some (xBin 34 f_ishl) := rfl
theorem kX3_tellNeed_34 : lk LX3_tellNeed 34 = some (xBin 35 f_ixor) := rfl
theorem kX3_tellNeed_35 : lk LX3_tellNeed 35 = some (xCallS MX5_store 3 38) := rfl
theorem kX3_tellNeed_38 : lk LX3_tellNeed 38 = some (xK 39 (nI 1)) := rfl
theorem kX3_tellNeed_39 : lk LX3_tellNeed 39 = some (xRetZ) := rfl
def LX3_isThing : List (Nat × XI) := [(0, xLdI 1 1),
  (1, xZ_lt 16 4),
  (4, xLdI 5 1),
  (5, xLdA 6 0),
  (6, xGf 9 3 2),
  (9, xC_ge 16 12),
  (12, xK 13 (nI 1)),
  (13, xGo 17),
  (16, xK 17 (nI 0)),
  (17, xRetZ)]
theorem sX3_isThing_0 : Snd MX3_isThing 0 (xLdI 1 1) := snd_iload_n (M := MX3_isThing) (pc := 0) dX3_isThing_0
theorem sX3_isThing_1 : Snd MX3_isThing 1 (xZ_lt 16 4) := snd_if_lt (M := MX3_isThing) (pc := 1) dX3_isThing_1 (by decide)
theorem sX3_isThing_4 : Snd MX3_isThing 4 (xLdI 5 1) := snd_iload_n (M := MX3_isThing) (pc := 4) dX3_isThing_4
theorem sX3_isThing_5 : Snd MX3_isThing 5 (xLdA 6 0) := snd_aload_n (M := MX3_isThing) (pc := 5) dX3_isThing_5
theorem sX3_isThing_6 : Snd MX3_isThing 6 (xGf 9 3 2) := snd_gf (M := MX3_isThing) (pc := 6) (C0 := RX3) (T0 := TX3) (N := 14) dX3_isThing_6 rfl tbX3 (by decide) w235
theorem sX3_isThing_9 : Snd MX3_isThing 9 (xC_ge 16 12) := snd_icmp_ge (M := MX3_isThing) (pc := 9) dX3_isThing_9 (by decide)
theorem sX3_isThing_12 : Snd MX3_isThing 12 (xK 13 (nI 1)) := snd_iconst (M := MX3_isThing) (pc := 12) dX3_isThing_12 (by decide +kernel)
theorem sX3_isThing_13 : Snd MX3_isThing 13 (xGo 17) := snd_goto (M := MX3_isThing) (pc := 13) dX3_isThing_13 (by decide)
theorem sX3_isThing_16 : Snd MX3_isThing 16 (xK 17 (nI 0)) := snd_iconst (M := MX3_isThing) (pc := 16) dX3_isThing_16 (by decide +kernel)
theorem sX3_isThing_17 : Snd MX3_isThing 17 (xRetZ) := snd_zret (M := MX3_isThing) (pc := 17) dX3_isThing_17 rfl
theorem VX3_isThing : Valid MX3_isThing LX3_isThing := va_lid sX3_isThing_0 (va_lid sX3_isThing_1 (va_lid sX3_isThing_4 (va_lid sX3_isThing_5 (va_lid sX3_isThing_6 (va_lid sX3_isThing_9 (va_lid sX3_isThing_12 (va_lid sX3_isThing_13 (va_lid sX3_isThing_16 (va_lid sX3_isThing_17 (va_lid0))))))))))
theorem kX3_isThing_0 : lk LX3_isThing 0 = some (xLdI 1 1) := rfl
theorem kX3_isThing_1 : lk LX3_isThing 1 = some (xZ_lt 16 4) := rfl
theorem kX3_isThing_4 : lk LX3_isThing 4 = some (xLdI 5 1) := rfl
theorem kX3_isThing_5 : lk LX3_isThing 5 = some (xLdA 6 0) := rfl
theorem kX3_isThing_6 : lk LX3_isThing 6 = some (xGf 9 3 2) := rfl
theorem kX3_isThing_9 : lk LX3_isThing 9 = some (xC_ge 16 12) := rfl
theorem kX3_isThing_12 : lk LX3_isThing 12 = some (xK 13 (nI 1)) := rfl
theorem kX3_isThing_13 : lk LX3_isThing 13 = some (xGo 17) := rfl
theorem kX3_isThing_16 : lk LX3_isThing 16 = some (xK 17 (nI 0)) := rfl
theorem kX3_isThing_17 : lk LX3_isThing 17 = some (xRetZ) := rfl
def LX3_isLife : List (Nat × XI) := [(0, xLdI 1 1),
  (1, xZ_lt 16 4),
  (4, xLdI 5 1),
  (5, xLdA 6 0),
  (6, xGf 9 3 3),
  (9, xC_ge 16 12),
  (12, xK 13 (nI 1)),
  (13, xGo 17),
  (16, xK 17 (nI 0)),
  (17, xRetZ)]
theorem sX3_isLife_0 : Snd MX3_isLife 0 (xLdI 1 1) := snd_iload_n (M := MX3_isLife) (pc := 0) dX3_isLife_0
theorem sX3_isLife_1 : Snd MX3_isLife 1 (xZ_lt 16 4) := snd_if_lt (M := MX3_isLife) (pc := 1) dX3_isLife_1 (by decide)
theorem sX3_isLife_4 : Snd MX3_isLife 4 (xLdI 5 1) := snd_iload_n (M := MX3_isLife) (pc := 4) dX3_isLife_4
theorem sX3_isLife_5 : Snd MX3_isLife 5 (xLdA 6 0) := snd_aload_n (M := MX3_isLife) (pc := 5) dX3_isLife_5
theorem sX3_isLife_6 : Snd MX3_isLife 6 (xGf 9 3 3) := snd_gf (M := MX3_isLife) (pc := 6) (C0 := RX3) (T0 := TX3) (N := 14) dX3_isLife_6 rfl tbX3 (by decide) w236
theorem sX3_isLife_9 : Snd MX3_isLife 9 (xC_ge 16 12) := snd_icmp_ge (M := MX3_isLife) (pc := 9) dX3_isLife_9 (by decide)
theorem sX3_isLife_12 : Snd MX3_isLife 12 (xK 13 (nI 1)) := snd_iconst (M := MX3_isLife) (pc := 12) dX3_isLife_12 (by decide +kernel)
theorem sX3_isLife_13 : Snd MX3_isLife 13 (xGo 17) := snd_goto (M := MX3_isLife) (pc := 13) dX3_isLife_13 (by decide)
theorem sX3_isLife_16 : Snd MX3_isLife 16 (xK 17 (nI 0)) := snd_iconst (M := MX3_isLife) (pc := 16) dX3_isLife_16 (by decide +kernel)
theorem sX3_isLife_17 : Snd MX3_isLife 17 (xRetZ) := snd_zret (M := MX3_isLife) (pc := 17) dX3_isLife_17 rfl
theorem VX3_isLife : Valid MX3_isLife LX3_isLife := va_lid sX3_isLife_0 (va_lid sX3_isLife_1 (va_lid sX3_isLife_4 (va_lid sX3_isLife_5 (va_lid sX3_isLife_6 (va_lid sX3_isLife_9 (va_lid sX3_isLife_12 (va_lid sX3_isLife_13 (va_lid sX3_isLife_16 (va_lid sX3_isLife_17 (va_lid0))))))))))
theorem kX3_isLife_0 : lk LX3_isLife 0 = some (xLdI 1 1) := rfl
theorem kX3_isLife_1 : lk LX3_isLife 1 = some (xZ_lt 16 4) := rfl
theorem kX3_isLife_4 : lk LX3_isLife 4 = some (xLdI 5 1) := rfl
theorem kX3_isLife_5 : lk LX3_isLife 5 = some (xLdA 6 0) := rfl
theorem kX3_isLife_6 : lk LX3_isLife 6 = some (xGf 9 3 3) := rfl
theorem kX3_isLife_9 : lk LX3_isLife 9 = some (xC_ge 16 12) := rfl
theorem kX3_isLife_12 : lk LX3_isLife 12 = some (xK 13 (nI 1)) := rfl
theorem kX3_isLife_13 : lk LX3_isLife 13 = some (xGo 17) := rfl
theorem kX3_isLife_16 : lk LX3_isLife 16 = some (xK 17 (nI 0)) := rfl
theorem kX3_isLife_17 : lk LX3_isLife 17 = some (xRetZ) := rfl
def LX3_isSetOfThings : List (Nat × XI) := [(0, xLdI 1 1),
  (1, xZ_lt 18 4),
  (4, xLdI 5 1),
  (5, xK 6 (nI 1)),
  (6, xLdA 7 0),
  (7, xGf 10 3 2),
  (10, xBin 11 f_ishl),
  (11, xC_ge 18 14),
  (14, xK 15 (nI 1)),
  (15, xGo 19),
  (18, xK 19 (nI 0)),
  (19, xRetZ)]
theorem sX3_isSetOfThings_0 : Snd MX3_isSetOfThings 0 (xLdI 1 1) := snd_iload_n (M := MX3_isSetOfThings) (pc := 0) dX3_isSetOfThings_0
theorem sX3_isSetOfThings_1 : Snd MX3_isSetOfThings 1 (xZ_lt 18 4) := snd_if_lt (M := MX3_isSetOfThings) (pc := 1) dX3_isSetOfThings_1 (by decide)
theorem sX3_isSetOfThings_4 : Snd MX3_isSetOfThings 4 (xLdI 5 1) := snd_iload_n (M := MX3_isSetOfThings) (pc := 4) dX3_isSetOfThings_4
theorem sX3_isSetOfThings_5 : Snd MX3_isSetOfThings 5 (xK 6 (nI 1)) := snd_iconst (M := MX3_isSetOfThings) (pc := 5) dX3_isSetOfThings_5 (by decide +kernel)
theorem sX3_isSetOfThings_6 : Snd MX3_isSetOfThings 6 (xLdA 7 0) := snd_aload_n (M := MX3_isSetOfThings) (pc := 6) dX3_isSetOfThings_6
theorem sX3_isSetOfThings_7 : Snd MX3_isSetOfThings 7 (xGf 10 3 2) := snd_gf (M := MX3_isSetOfThings) (pc := 7) (C0 := RX3) (T0 := TX3) (N := 14) dX3_isSetOfThings_7 rfl tbX3 (by decide) w235
theorem sX3_isSetOfThings_10 : Snd MX3_isSetOfThings 10 (xBin 11 f_ishl) := snd_ishl (M := MX3_isSetOfThings) (pc := 10) dX3_isSetOfThings_10
theorem sX3_isSetOfThings_11 : Snd MX3_isSetOfThings 11 (xC_ge 18 14) := snd_icmp_ge (M := MX3_isSetOfThings) (pc := 11) dX3_isSetOfThings_11 (by decide)
theorem sX3_isSetOfThings_14 : Snd MX3_isSetOfThings 14 (xK 15 (nI 1)) := snd_iconst (M := MX3_isSetOfThings) (pc := 14) dX3_isSetOfThings_14 (by decide +kernel)
theorem sX3_isSetOfThings_15 : Snd MX3_isSetOfThings 15 (xGo 19) := snd_goto (M := MX3_isSetOfThings) (pc := 15) dX3_isSetOfThings_15 (by decide)
theorem sX3_isSetOfThings_18 : Snd MX3_isSetOfThings 18 (xK 19 (nI 0)) := snd_iconst (M := MX3_isSetOfThings) (pc := 18) dX3_isSetOfThings_18 (by decide +kernel)
theorem sX3_isSetOfThings_19 : Snd MX3_isSetOfThings 19 (xRetZ) := snd_zret (M := MX3_isSetOfThings) (pc := 19) dX3_isSetOfThings_19 rfl
theorem VX3_isSetOfThings : Valid MX3_isSetOfThings LX3_isSetOfThings := va_lid sX3_isSetOfThings_0 (va_lid sX3_isSetOfThings_1 (va_lid sX3_isSetOfThings_4 (va_lid sX3_isSetOfThings_5 (va_lid sX3_isSetOfThings_6 (va_lid sX3_isSetOfThings_7 (va_lid sX3_isSetOfThings_10 (va_lid sX3_isSetOfThings_11 (va_lid sX3_isSetOfThings_14 (va_lid sX3_isSetOfThings_15 (va_lid sX3_isSetOfThings_18 (va_lid sX3_isSetOfThings_19 (va_lid0))))))))))))
theorem kX3_isSetOfThings_0 : lk LX3_isSetOfThings 0 = some (xLdI 1 1) := rfl
theorem kX3_isSetOfThings_1 : lk LX3_isSetOfThings 1 = some (xZ_lt 18 4) := rfl
theorem kX3_isSetOfThings_4 : lk LX3_isSetOfThings 4 = some (xLdI 5 1) := rfl
theorem kX3_isSetOfThings_5 : lk LX3_isSetOfThings 5 = some (xK 6 (nI 1)) := rfl
theorem kX3_isSetOfThings_6 : lk LX3_isSetOfThings 6 = some (xLdA 7 0) := rfl
theorem kX3_isSetOfThings_7 : lk LX3_isSetOfThings 7 = some (xGf 10 3 2) := rfl
theorem kX3_isSetOfThings_10 : lk LX3_isSetOfThings 10 = some (xBin 11 f_ishl) := rfl
theorem kX3_isSetOfThings_11 : lk LX3_isSetOfThings 11 = some (xC_ge 18 14) := rfl
theorem kX3_isSetOfThings_14 : lk LX3_isSetOfThings 14 = some (xK 15 (nI 1)) := rfl
theorem kX3_isSetOfThings_15 : lk LX3_isSetOfThings 15 = some (xGo 19) := rfl
theorem kX3_isSetOfThings_18 : lk LX3_isSetOfThings 18 = some (xK 19 (nI 0)) := rfl
theorem kX3_isSetOfThings_19 : lk LX3_isSetOfThings 19 = some (xRetZ) := rfl
def LX3_isSetOfLives : List (Nat × XI) := [(0, xLdI 1 1),
  (1, xZ_lt 18 4),
  (4, xLdI 5 1),
  (5, xK 6 (nI 1)),
  (6, xLdA 7 0),
  (7, xGf 10 3 3),
  (10, xBin 11 f_ishl),
  (11, xC_ge 18 14),
  (14, xK 15 (nI 1)),
  (15, xGo 19),
  (18, xK 19 (nI 0)),
  (19, xRetZ)]
theorem sX3_isSetOfLives_0 : Snd MX3_isSetOfLives 0 (xLdI 1 1) := snd_iload_n (M := MX3_isSetOfLives) (pc := 0) dX3_isSetOfLives_0
theorem sX3_isSetOfLives_1 : Snd MX3_isSetOfLives 1 (xZ_lt 18 4) := snd_if_lt (M := MX3_isSetOfLives) (pc := 1) dX3_isSetOfLives_1 (by decide)
theorem sX3_isSetOfLives_4 : Snd MX3_isSetOfLives 4 (xLdI 5 1) := snd_iload_n (M := MX3_isSetOfLives) (pc := 4) dX3_isSetOfLives_4
theorem sX3_isSetOfLives_5 : Snd MX3_isSetOfLives 5 (xK 6 (nI 1)) := snd_iconst (M := MX3_isSetOfLives) (pc := 5) dX3_isSetOfLives_5 (by decide +kernel)
theorem sX3_isSetOfLives_6 : Snd MX3_isSetOfLives 6 (xLdA 7 0) := snd_aload_n (M := MX3_isSetOfLives) (pc := 6) dX3_isSetOfLives_6
theorem sX3_isSetOfLives_7 : Snd MX3_isSetOfLives 7 (xGf 10 3 3) := snd_gf (M := MX3_isSetOfLives) (pc := 7) (C0 := RX3) (T0 := TX3) (N := 14) dX3_isSetOfLives_7 rfl tbX3 (by decide) w236
theorem sX3_isSetOfLives_10 : Snd MX3_isSetOfLives 10 (xBin 11 f_ishl) := snd_ishl (M := MX3_isSetOfLives) (pc := 10) dX3_isSetOfLives_10
theorem sX3_isSetOfLives_11 : Snd MX3_isSetOfLives 11 (xC_ge 18 14) := snd_icmp_ge (M := MX3_isSetOfLives) (pc := 11) dX3_isSetOfLives_11 (by decide)
theorem sX3_isSetOfLives_14 : Snd MX3_isSetOfLives 14 (xK 15 (nI 1)) := snd_iconst (M := MX3_isSetOfLives) (pc := 14) dX3_isSetOfLives_14 (by decide +kernel)
theorem sX3_isSetOfLives_15 : Snd MX3_isSetOfLives 15 (xGo 19) := snd_goto (M := MX3_isSetOfLives) (pc := 15) dX3_isSetOfLives_15 (by decide)
theorem sX3_isSetOfLives_18 : Snd MX3_isSetOfLives 18 (xK 19 (nI 0)) := snd_iconst (M := MX3_isSetOfLives) (pc := 18) dX3_isSetOfLives_18 (by decide +kernel)
theorem sX3_isSetOfLives_19 : Snd MX3_isSetOfLives 19 (xRetZ) := snd_zret (M := MX3_isSetOfLives) (pc := 19) dX3_isSetOfLives_19 rfl
theorem VX3_isSetOfLives : Valid MX3_isSetOfLives LX3_isSetOfLives := va_lid sX3_isSetOfLives_0 (va_lid sX3_isSetOfLives_1 (va_lid sX3_isSetOfLives_4 (va_lid sX3_isSetOfLives_5 (va_lid sX3_isSetOfLives_6 (va_lid sX3_isSetOfLives_7 (va_lid sX3_isSetOfLives_10 (va_lid sX3_isSetOfLives_11 (va_lid sX3_isSetOfLives_14 (va_lid sX3_isSetOfLives_15 (va_lid sX3_isSetOfLives_18 (va_lid sX3_isSetOfLives_19 (va_lid0))))))))))))
theorem kX3_isSetOfLives_0 : lk LX3_isSetOfLives 0 = some (xLdI 1 1) := rfl
theorem kX3_isSetOfLives_1 : lk LX3_isSetOfLives 1 = some (xZ_lt 18 4) := rfl
theorem kX3_isSetOfLives_4 : lk LX3_isSetOfLives 4 = some (xLdI 5 1) := rfl
theorem kX3_isSetOfLives_5 : lk LX3_isSetOfLives 5 = some (xK 6 (nI 1)) := rfl
theorem kX3_isSetOfLives_6 : lk LX3_isSetOfLives 6 = some (xLdA 7 0) := rfl
theorem kX3_isSetOfLives_7 : lk LX3_isSetOfLives 7 = some (xGf 10 3 3) := rfl
theorem kX3_isSetOfLives_10 : lk LX3_isSetOfLives 10 = some (xBin 11 f_ishl) := rfl
theorem kX3_isSetOfLives_11 : lk LX3_isSetOfLives 11 = some (xC_ge 18 14) := rfl
theorem kX3_isSetOfLives_14 : lk LX3_isSetOfLives 14 = some (xK 15 (nI 1)) := rfl
theorem kX3_isSetOfLives_15 : lk LX3_isSetOfLives 15 = some (xGo 19) := rfl
theorem kX3_isSetOfLives_18 : lk LX3_isSetOfLives 18 = some (xK 19 (nI 0)) := rfl
theorem kX3_isSetOfLives_19 : lk LX3_isSetOfLives 19 = some (xRetZ) := rfl
def LX3_allThings : List (Nat × XI) := [(0, xK 1 (nI 1)),
  (1, xLdA 2 0),
  (2, xGf 5 3 2),
  (5, xBin 6 f_ishl),
  (6, xK 7 (nI 1)),
  (7, xBin 8 f_isub),
  (8, xRet)]
theorem sX3_allThings_0 : Snd MX3_allThings 0 (xK 1 (nI 1)) := snd_iconst (M := MX3_allThings) (pc := 0) dX3_allThings_0 (by decide +kernel)
theorem sX3_allThings_1 : Snd MX3_allThings 1 (xLdA 2 0) := snd_aload_n (M := MX3_allThings) (pc := 1) dX3_allThings_1
theorem sX3_allThings_2 : Snd MX3_allThings 2 (xGf 5 3 2) := snd_gf (M := MX3_allThings) (pc := 2) (C0 := RX3) (T0 := TX3) (N := 14) dX3_allThings_2 rfl tbX3 (by decide) w235
theorem sX3_allThings_5 : Snd MX3_allThings 5 (xBin 6 f_ishl) := snd_ishl (M := MX3_allThings) (pc := 5) dX3_allThings_5
theorem sX3_allThings_6 : Snd MX3_allThings 6 (xK 7 (nI 1)) := snd_iconst (M := MX3_allThings) (pc := 6) dX3_allThings_6 (by decide +kernel)
theorem sX3_allThings_7 : Snd MX3_allThings 7 (xBin 8 f_isub) := snd_isub (M := MX3_allThings) (pc := 7) dX3_allThings_7
theorem sX3_allThings_8 : Snd MX3_allThings 8 (xRet) := snd_iret (M := MX3_allThings) (pc := 8) dX3_allThings_8 rfl
theorem VX3_allThings : Valid MX3_allThings LX3_allThings := va_lid sX3_allThings_0 (va_lid sX3_allThings_1 (va_lid sX3_allThings_2 (va_lid sX3_allThings_5 (va_lid sX3_allThings_6 (va_lid sX3_allThings_7 (va_lid sX3_allThings_8 (va_lid0)))))))
theorem kX3_allThings_0 : lk LX3_allThings 0 = some (xK 1 (nI 1)) := rfl
theorem kX3_allThings_1 : lk LX3_allThings 1 = some (xLdA 2 0) := rfl
theorem kX3_allThings_2 : lk LX3_allThings 2 = some (xGf 5 3 2) := rfl
theorem kX3_allThings_5 : lk LX3_allThings 5 = some (xBin 6 f_ishl) := rfl
theorem kX3_allThings_6 : lk LX3_allThings 6 = some (xK 7 (nI 1)) := rfl
theorem kX3_allThings_7 : lk LX3_allThings 7 = some (xBin 8 f_isub) := rfl
theorem kX3_allThings_8 : lk LX3_allThings 8 = some (xRet) := rfl
def LX3_allLives : List (Nat × XI) := [(0, xK 1 (nI 1)),
  (1, xLdA 2 0),
  (2, xGf 5 3 3),
  (5, xBin 6 f_ishl),
  (6, xK 7 (nI 1)),
  (7, xBin 8 f_isub),
  (8, xRet)]
theorem sX3_allLives_0 : Snd MX3_allLives 0 (xK 1 (nI 1)) := snd_iconst (M := MX3_allLives) (pc := 0) dX3_allLives_0 (by decide +kernel)
theorem sX3_allLives_1 : Snd MX3_allLives 1 (xLdA 2 0) := snd_aload_n (M := MX3_allLives) (pc := 1) dX3_allLives_1
theorem sX3_allLives_2 : Snd MX3_allLives 2 (xGf 5 3 3) := snd_gf (M := MX3_allLives) (pc := 2) (C0 := RX3) (T0 := TX3) (N := 14) dX3_allLives_2 rfl tbX3 (by decide) w236
theorem sX3_allLives_5 : Snd MX3_allLives 5 (xBin 6 f_ishl) := snd_ishl (M := MX3_allLives) (pc := 5) dX3_allLives_5
theorem sX3_allLives_6 : Snd MX3_allLives 6 (xK 7 (nI 1)) := snd_iconst (M := MX3_allLives) (pc := 6) dX3_allLives_6 (by decide +kernel)
theorem sX3_allLives_7 : Snd MX3_allLives 7 (xBin 8 f_isub) := snd_isub (M := MX3_allLives) (pc := 7) dX3_allLives_7
theorem sX3_allLives_8 : Snd MX3_allLives 8 (xRet) := snd_iret (M := MX3_allLives) (pc := 8) dX3_allLives_8 rfl
theorem VX3_allLives : Valid MX3_allLives LX3_allLives := va_lid sX3_allLives_0 (va_lid sX3_allLives_1 (va_lid sX3_allLives_2 (va_lid sX3_allLives_5 (va_lid sX3_allLives_6 (va_lid sX3_allLives_7 (va_lid sX3_allLives_8 (va_lid0)))))))
theorem kX3_allLives_0 : lk LX3_allLives 0 = some (xK 1 (nI 1)) := rfl
theorem kX3_allLives_1 : lk LX3_allLives 1 = some (xLdA 2 0) := rfl
theorem kX3_allLives_2 : lk LX3_allLives 2 = some (xGf 5 3 3) := rfl
theorem kX3_allLives_5 : lk LX3_allLives 5 = some (xBin 6 f_ishl) := rfl
theorem kX3_allLives_6 : lk LX3_allLives 6 = some (xK 7 (nI 1)) := rfl
theorem kX3_allLives_7 : lk LX3_allLives 7 = some (xBin 8 f_isub) := rfl
theorem kX3_allLives_8 : lk LX3_allLives 8 = some (xRet) := rfl
def LX3_livesThatNeed : List (Nat × XI) := [(0, xK 1 (nI 0)),
  (1, xStI 2 2),
  (2, xK 3 (nI 0)),
  (3, xStI 4 3),
  (4, xLdI 5 3),
  (5, xLdA 6 0),
  (6, xGf 9 3 3),
  (9, xC_ge 38 12),
  (12, xLdI 13 2),
  (13, xLdA 14 0),
  (14, xGf 17 3 13),
  (17, xLdI 18 3),
  (18, xCallS MX5_at 2 21),
  (21, xLdI 22 1),
  (22, xCallS MX5_has 2 25),
  (25, xCallS MX5_bit 1 28),
  (28, xLdI 29 3),
  (29, xBin 30 f_ishl),
  (30, xBin 31 f_ior),
  (31, xStI 32 2),
  (32, xInc 35 3 (nI 1)),
  (35, xGo 4),
  (38, xLdI 39 2),
  (39, xRet)]
theorem sX3_livesThatNeed_0 : Snd MX3_livesThatNeed 0 (xK 1 (nI 0)) := snd_iconst (M := MX3_livesThatNeed) (pc := 0) dX3_livesThatNeed_0 (by decide +kernel)
theorem sX3_livesThatNeed_1 : Snd MX3_livesThatNeed 1 (xStI 2 2) := snd_istore_n (M := MX3_livesThatNeed) (pc := 1) dX3_livesThatNeed_1 (by decide)
theorem sX3_livesThatNeed_2 : Snd MX3_livesThatNeed 2 (xK 3 (nI 0)) := snd_iconst (M := MX3_livesThatNeed) (pc := 2) dX3_livesThatNeed_2 (by decide +kernel)
theorem sX3_livesThatNeed_3 : Snd MX3_livesThatNeed 3 (xStI 4 3) := snd_istore_n (M := MX3_livesThatNeed) (pc := 3) dX3_livesThatNeed_3 (by decide)
theorem sX3_livesThatNeed_4 : Snd MX3_livesThatNeed 4 (xLdI 5 3) := snd_iload_n (M := MX3_livesThatNeed) (pc := 4) dX3_livesThatNeed_4
theorem sX3_livesThatNeed_5 : Snd MX3_livesThatNeed 5 (xLdA 6 0) := snd_aload_n (M := MX3_livesThatNeed) (pc := 5) dX3_livesThatNeed_5
theorem sX3_livesThatNeed_6 : Snd MX3_livesThatNeed 6 (xGf 9 3 3) := snd_gf (M := MX3_livesThatNeed) (pc := 6) (C0 := RX3) (T0 := TX3) (N := 14) dX3_livesThatNeed_6 rfl tbX3 (by decide) w236
theorem sX3_livesThatNeed_9 : Snd MX3_livesThatNeed 9 (xC_ge 38 12) := snd_icmp_ge (M := MX3_livesThatNeed) (pc := 9) dX3_livesThatNeed_9 (by decide)
theorem sX3_livesThatNeed_12 : Snd MX3_livesThatNeed 12 (xLdI 13 2) := snd_iload_n (M := MX3_livesThatNeed) (pc := 12) dX3_livesThatNeed_12
theorem sX3_livesThatNeed_13 : Snd MX3_livesThatNeed 13 (xLdA 14 0) := snd_aload_n (M := MX3_livesThatNeed) (pc := 13) dX3_livesThatNeed_13
theorem sX3_livesThatNeed_14 : Snd MX3_livesThatNeed 14 (xGf 17 3 13) := snd_gf (M := MX3_livesThatNeed) (pc := 14) (C0 := RX3) (T0 := TX3) (N := 14) dX3_livesThatNeed_14 rfl tbX3 (by decide) w232
theorem sX3_livesThatNeed_17 : Snd MX3_livesThatNeed 17 (xLdI 18 3) := snd_iload_n (M := MX3_livesThatNeed) (pc := 17) dX3_livesThatNeed_17
theorem sX3_livesThatNeed_18 : Snd MX3_livesThatNeed 18 (xCallS MX5_at 2 21) := snd_callSN (M := MX3_livesThatNeed) (pc := 18) (n := 2) dX3_livesThatNeed_18 nt4 w123 ⟨w115, w122, ⟨by decide, by decide, by decide +kernel⟩, by decide⟩ ⟨rfl, rfl⟩
theorem sX3_livesThatNeed_21 : Snd MX3_livesThatNeed 21 (xLdI 22 1) := snd_iload_n (M := MX3_livesThatNeed) (pc := 21) dX3_livesThatNeed_21
theorem sX3_livesThatNeed_22 : Snd MX3_livesThatNeed 22 (xCallS MX5_has 2 25) := snd_callSN (M := MX3_livesThatNeed) (pc := 22) (n := 2) dX3_livesThatNeed_22 nt8 w117 ⟨w115, w116, ⟨by decide, by decide, by decide +kernel⟩, by decide⟩ ⟨rfl, rfl⟩
theorem sX3_livesThatNeed_25 : Snd MX3_livesThatNeed 25 (xCallS MX5_bit 1 28) := snd_callSN (M := MX3_livesThatNeed) (pc := 25) (n := 1) dX3_livesThatNeed_25 nt3 w241 ⟨w115, w240, ⟨by decide, by decide, by decide +kernel⟩, by decide⟩ ⟨rfl, rfl⟩
theorem sX3_livesThatNeed_28 : Snd MX3_livesThatNeed 28 (xLdI 29 3) := snd_iload_n (M := MX3_livesThatNeed) (pc := 28) dX3_livesThatNeed_28
theorem sX3_livesThatNeed_29 : Snd MX3_livesThatNeed 29 (xBin 30 f_ishl) := snd_ishl (M := MX3_livesThatNeed) (pc := 29) dX3_livesThatNeed_29
theorem sX3_livesThatNeed_30 : Snd MX3_livesThatNeed 30 (xBin 31 f_ior) := snd_ior (M := MX3_livesThatNeed) (pc := 30) dX3_livesThatNeed_30
theorem sX3_livesThatNeed_31 : Snd MX3_livesThatNeed 31 (xStI 32 2) := snd_istore_n (M := MX3_livesThatNeed) (pc := 31) dX3_livesThatNeed_31 (by decide)
theorem sX3_livesThatNeed_32 : Snd MX3_livesThatNeed 32 (xInc 35 3 (nI 1)) := snd_iinc (M := MX3_livesThatNeed) (pc := 32) dX3_livesThatNeed_32 (by decide +kernel) (by decide)
theorem sX3_livesThatNeed_35 : Snd MX3_livesThatNeed 35 (xGo 4) := snd_goto (M := MX3_livesThatNeed) (pc := 35) dX3_livesThatNeed_35 (by decide)
theorem sX3_livesThatNeed_38 : Snd MX3_livesThatNeed 38 (xLdI 39 2) := snd_iload_n (M := MX3_livesThatNeed) (pc := 38) dX3_livesThatNeed_38
theorem sX3_livesThatNeed_39 : Snd MX3_livesThatNeed 39 (xRet) := snd_iret (M := MX3_livesThatNeed) (pc := 39) dX3_livesThatNeed_39 rfl
theorem VX3_livesThatNeed : Valid MX3_livesThatNeed LX3_livesThatNeed := va_lid sX3_livesThatNeed_0 (va_lid sX3_livesThatNeed_1 (va_lid sX3_livesThatNeed_2 (va_lid sX3_livesThatNeed_3 (va_lid sX3_livesThatNeed_4 (va_lid sX3_livesThatNeed_5 (va_lid sX3_livesThatNeed_6 (va_lid sX3_livesThatNeed_9 (va_lid sX3_livesThatNeed_12 (va_lid sX3_livesThatNeed_13 (va_lid sX3_livesThatNeed_14 (va_lid sX3_livesThatNeed_17 (va_lid sX3_livesThatNeed_18 (va_lid sX3_livesThatNeed_21 (va_lid sX3_livesThatNeed_22 (va_lid sX3_livesThatNeed_25 (va_lid sX3_livesThatNeed_28 (va_lid sX3_livesThatNeed_29 (va_lid sX3_livesThatNeed_30 (va_lid sX3_livesThatNeed_31 (va_lid sX3_livesThatNeed_32 (va_lid sX3_livesThatNeed_35 (va_lid sX3_livesThatNeed_38 (va_lid sX3_livesThatNeed_39 (va_lid0))))))))))))))))))))))))
theorem kX3_livesThatNeed_0 : lk LX3_livesThatNeed 0 = some (xK 1 (nI 0)) := rfl
theorem kX3_livesThatNeed_1 : lk LX3_livesThatNeed 1 = some (xStI 2 2) := rfl
theorem kX3_livesThatNeed_2 : lk LX3_livesThatNeed 2 = some (xK 3 (nI 0)) := rfl
theorem kX3_livesThatNeed_3 : lk LX3_livesThatNeed 3 = some (xStI 4 3) := rfl
theorem kX3_livesThatNeed_4 : lk LX3_livesThatNeed 4 = some (xLdI 5 3) := rfl
theorem kX3_livesThatNeed_5 : lk LX3_livesThatNeed 5 = some (xLdA 6 0) := rfl
theorem kX3_livesThatNeed_6 : lk LX3_livesThatNeed 6 = some (xGf 9 3 3) := rfl
theorem kX3_livesThatNeed_9 : lk LX3_livesThatNeed 9 = some (xC_ge 38 12) := rfl
theorem kX3_livesThatNeed_12 : lk LX3_livesThatNeed 12 = some (xLdI 13 2) := rfl
theorem kX3_livesThatNeed_13 : lk LX3_livesThatNeed 13 = some (xLdA 14 0) := rfl
theorem kX3_livesThatNeed_14 : lk LX3_livesThatNeed 14 = some (xGf 17 3 13) := rfl
theorem kX3_livesThatNeed_17 : lk LX3_livesThatNeed 17 = some (xLdI 18 3) := rfl
theorem kX3_livesThatNeed_18 : lk LX3_livesThatNeed 18 = some (xCallS MX5_at 2 21) := rfl
theorem kX3_livesThatNeed_21 : lk LX3_livesThatNeed 21 = some (xLdI 22 1) := rfl
theorem kX3_livesThatNeed_22 : lk LX3_livesThatNeed 22 = some (xCallS MX5_has 2 25) := rfl
theorem kX3_livesThatNeed_25 : lk LX3_livesThatNeed 25 = some (xCallS MX5_bit 1 28) := rfl
theorem kX3_livesThatNeed_28 : lk LX3_livesThatNeed 28 = some (xLdI 29 3) := rfl
theorem kX3_livesThatNeed_29 : lk LX3_livesThatNeed 29 = some (xBin 30 f_ishl) := rfl
theorem kX3_livesThatNeed_30 : lk LX3_livesThatNeed 30 = some (xBin 31 f_ior) := rfl
theorem kX3_livesThatNeed_31 : lk LX3_livesThatNeed 31 = some (xStI 32 2) := rfl
theorem kX3_livesThatNeed_32 : lk LX3_livesThatNeed 32 = some (xInc 35 3 (nI 1)) := rfl
theorem kX3_livesThatNeed_35 : lk LX3_livesThatNeed 35 = some (xGo 4) := rfl
theorem kX3_livesThatNeed_38 : lk LX3_livesThatNeed 38 = some (xLdI 39 2) := rfl
theorem kX3_livesThatNeed_39 : lk LX3_livesThatNeed 39 = some (xRet) := rfl
def LX3_roomTaken : List (Nat × XI) := [(0, xLdI 1 1),
  (1, xLdA 2 0),
  (2, xGf 5 3 6),
  (5, xBin 6 f_iand),
  (6, xCallS MJ6_bitCount_0f7a4 1 9),
  (9, xK 10 (nI 2)),
  (10, xC_lt 17 13),
  (13, xK 14 (nI 1)),
  (14, xGo 18),
  (17, xK 18 (nI 0)),
  (18, xStI 19 2),
  (19, xK 20 (nI 0)),
  (20, xStI 21 3),
  (21, xK 22 (nI 0)),
  (22, xStI 24 4),
  (24, xLdI 26 4),
  (26, xLdA 27 0),
  (27, xGf 30 3 2),
  (30, xC_ge 87 33),
  (33, xLdI 34 1),
  (34, xLdI 36 4),
  (36, xCallS MX5_has 2 39),
  (39, xZ_eq 81 42),
  (42, xLdA 43 0),
  (43, xGf 46 3 8),
  (46, xLdI 48 4),
  (48, xCallS MX5_at 2 51),
  (51, xStI 53 5),
  (53, xLdI 54 3),
  (54, xLdI 55 2),
  (55, xZ_eq 77 58),
  (58, xLdA 59 0),
  (59, xGf 62 3 6),
  (62, xLdI 64 4),
  (64, xCallS MX5_has 2 67),
  (67, xZ_eq 77 70),
  (70, xLdI 72 5),
  (72, xK 73 (nI 2)),
  (73, xDiv 74 f_idiv),
  (74, xGo 79),
  (77, xLdI 79 5),
  (79, xBin 80 f_iadd),
  (80, xStI 81 3),
  (81, xInc 84 4 (nI 1)),
  (84, xGo 24),
  (87, xLdI 88 3),
  (88, xRet)]
theorem sX3_roomTaken_0 : Snd MX3_roomTaken 0 (xLdI 1 1) := snd_iload_n (M := MX3_roomTaken) (pc := 0) dX3_roomTaken_0
theorem sX3_roomTaken_1 : Snd MX3_roomTaken 1 (xLdA 2 0) := snd_aload_n (M := MX3_roomTaken) (pc := 1) dX3_roomTaken_1
theorem sX3_roomTaken_2 : Snd MX3_roomTaken 2 (xGf 5 3 6) := snd_gf (M := MX3_roomTaken) (pc := 2) (C0 := RX3) (T0 := TX3) (N := 14) dX3_roomTaken_2 rfl tbX3 (by decide) w239
theorem sX3_roomTaken_5 : Snd MX3_roomTaken 5 (xBin 6 f_iand) := snd_iand (M := MX3_roomTaken) (pc := 5) dX3_roomTaken_5
theorem sX3_roomTaken_6 : Snd MX3_roomTaken 6 (xCallS MJ6_bitCount_0f7a4 1 9) := snd_callS (M := MX3_roomTaken) (pc := 6) (n := 1) dX3_roomTaken_6 w250 w109 ⟨w106, w107, ⟨by decide, by decide, by decide +kernel⟩, by decide⟩ ⟨rfl, rfl⟩
theorem sX3_roomTaken_9 : Snd MX3_roomTaken 9 (xK 10 (nI 2)) := snd_iconst (M := MX3_roomTaken) (pc := 9) dX3_roomTaken_9 (by decide +kernel)
theorem sX3_roomTaken_10 : Snd MX3_roomTaken 10 (xC_lt 17 13) := snd_icmp_lt (M := MX3_roomTaken) (pc := 10) dX3_roomTaken_10 (by decide)
theorem sX3_roomTaken_13 : Snd MX3_roomTaken 13 (xK 14 (nI 1)) := snd_iconst (M := MX3_roomTaken) (pc := 13) dX3_roomTaken_13 (by decide +kernel)
theorem sX3_roomTaken_14 : Snd MX3_roomTaken 14 (xGo 18) := snd_goto (M := MX3_roomTaken) (pc := 14) dX3_roomTaken_14 (by decide)
theorem sX3_roomTaken_17 : Snd MX3_roomTaken 17 (xK 18 (nI 0)) := snd_iconst (M := MX3_roomTaken) (pc := 17) dX3_roomTaken_17 (by decide +kernel)
theorem sX3_roomTaken_18 : Snd MX3_roomTaken 18 (xStI 19 2) := snd_istore_n (M := MX3_roomTaken) (pc := 18) dX3_roomTaken_18 (by decide)
theorem sX3_roomTaken_19 : Snd MX3_roomTaken 19 (xK 20 (nI 0)) := snd_iconst (M := MX3_roomTaken) (pc := 19) dX3_roomTaken_19 (by decide +kernel)
theorem sX3_roomTaken_20 : Snd MX3_roomTaken 20 (xStI 21 3) := snd_istore_n (M := MX3_roomTaken) (pc := 20) dX3_roomTaken_20 (by decide)
theorem sX3_roomTaken_21 : Snd MX3_roomTaken 21 (xK 22 (nI 0)) := snd_iconst (M := MX3_roomTaken) (pc := 21) dX3_roomTaken_21 (by decide +kernel)
theorem sX3_roomTaken_22 : Snd MX3_roomTaken 22 (xStI 24 4) := snd_istore (M := MX3_roomTaken) (pc := 22) dX3_roomTaken_22 (by decide)
theorem sX3_roomTaken_24 : Snd MX3_roomTaken 24 (xLdI 26 4) := snd_iload (M := MX3_roomTaken) (pc := 24) dX3_roomTaken_24
theorem sX3_roomTaken_26 : Snd MX3_roomTaken 26 (xLdA 27 0) := snd_aload_n (M := MX3_roomTaken) (pc := 26) dX3_roomTaken_26
theorem sX3_roomTaken_27 : Snd MX3_roomTaken 27 (xGf 30 3 2) := snd_gf (M := MX3_roomTaken) (pc := 27) (C0 := RX3) (T0 := TX3) (N := 14) dX3_roomTaken_27 rfl tbX3 (by decide) w235
theorem sX3_roomTaken_30 : Snd MX3_roomTaken 30 (xC_ge 87 33) := snd_icmp_ge (M := MX3_roomTaken) (pc := 30) dX3_roomTaken_30 (by decide)
theorem sX3_roomTaken_33 : Snd MX3_roomTaken 33 (xLdI 34 1) := snd_iload_n (M := MX3_roomTaken) (pc := 33) dX3_roomTaken_33
theorem sX3_roomTaken_34 : Snd MX3_roomTaken 34 (xLdI 36 4) := snd_iload (M := MX3_roomTaken) (pc := 34) dX3_roomTaken_34
theorem sX3_roomTaken_36 : Snd MX3_roomTaken 36 (xCallS MX5_has 2 39) := snd_callSN (M := MX3_roomTaken) (pc := 36) (n := 2) dX3_roomTaken_36 nt8 w117 ⟨w115, w116, ⟨by decide, by decide, by decide +kernel⟩, by decide⟩ ⟨rfl, rfl⟩
theorem sX3_roomTaken_39 : Snd MX3_roomTaken 39 (xZ_eq 81 42) := snd_if_eq (M := MX3_roomTaken) (pc := 39) dX3_roomTaken_39 (by decide)
theorem sX3_roomTaken_42 : Snd MX3_roomTaken 42 (xLdA 43 0) := snd_aload_n (M := MX3_roomTaken) (pc := 42) dX3_roomTaken_42
theorem sX3_roomTaken_43 : Snd MX3_roomTaken 43 (xGf 46 3 8) := snd_gf (M := MX3_roomTaken) (pc := 43) (C0 := RX3) (T0 := TX3) (N := 14) dX3_roomTaken_43 rfl tbX3 (by decide) w227
theorem sX3_roomTaken_46 : Snd MX3_roomTaken 46 (xLdI 48 4) := snd_iload (M := MX3_roomTaken) (pc := 46) dX3_roomTaken_46
theorem sX3_roomTaken_48 : Snd MX3_roomTaken 48 (xCallS MX5_at 2 51) := snd_callSN (M := MX3_roomTaken) (pc := 48) (n := 2) dX3_roomTaken_48 nt4 w123 ⟨w115, w122, ⟨by decide, by decide, by decide +kernel⟩, by decide⟩ ⟨rfl, rfl⟩
theorem sX3_roomTaken_51 : Snd MX3_roomTaken 51 (xStI 53 5) := snd_istore (M := MX3_roomTaken) (pc := 51) dX3_roomTaken_51 (by decide)
theorem sX3_roomTaken_53 : Snd MX3_roomTaken 53 (xLdI 54 3) := snd_iload_n (M := MX3_roomTaken) (pc := 53) dX3_roomTaken_53
theorem sX3_roomTaken_54 : Snd MX3_roomTaken 54 (xLdI 55 2) := snd_iload_n (M := MX3_roomTaken) (pc := 54) dX3_roomTaken_54
theorem sX3_roomTaken_55 : Snd MX3_roomTaken 55 (xZ_eq 77 58) := snd_if_eq (M := MX3_roomTaken) (pc := 55) dX3_roomTaken_55 (by decide)
theorem sX3_roomTaken_58 : Snd MX3_roomTaken 58 (xLdA 59 0) := snd_aload_n (M := MX3_roomTaken) (pc := 58) dX3_roomTaken_58
theorem sX3_roomTaken_59 : Snd MX3_roomTaken 59 (xGf 62 3 6) := snd_gf (M := MX3_roomTaken) (pc := 59) (C0 := RX3) (T0 := TX3) (N := 14) dX3_roomTaken_59 rfl tbX3 (by decide) w239
theorem sX3_roomTaken_62 : Snd MX3_roomTaken 62 (xLdI 64 4) := snd_iload (M := MX3_roomTaken) (pc := 62) dX3_roomTaken_62
theorem sX3_roomTaken_64 : Snd MX3_roomTaken 64 (xCallS MX5_has 2 67) := snd_callSN (M := MX3_roomTaken) (pc := 64) (n := 2) dX3_roomTaken_64 nt8 w117 ⟨w115, w116, ⟨by decide, by decide, by decide +kernel⟩, by decide⟩ ⟨rfl, rfl⟩
theorem sX3_roomTaken_67 : Snd MX3_roomTaken 67 (xZ_eq 77 70) := snd_if_eq (M := MX3_roomTaken) (pc := 67) dX3_roomTaken_67 (by decide)
theorem sX3_roomTaken_70 : Snd MX3_roomTaken 70 (xLdI 72 5) := snd_iload (M := MX3_roomTaken) (pc := 70) dX3_roomTaken_70
theorem sX3_roomTaken_72 : Snd MX3_roomTaken 72 (xK 73 (nI 2)) := snd_iconst (M := MX3_roomTaken) (pc := 72) dX3_roomTaken_72 (by decide +kernel)
theorem sX3_roomTaken_73 : Snd MX3_roomTaken 73 (xDiv 74 f_idiv) := snd_idiv (M := MX3_roomTaken) (pc := 73) dX3_roomTaken_73
theorem sX3_roomTaken_74 : Snd MX3_roomTaken 74 (xGo 79) := snd_goto (M := MX3_roomTaken) (pc := 74) dX3_roomTaken_74 (by decide)
theorem sX3_roomTaken_77 : Snd MX3_roomTaken 77 (xLdI 79 5) := snd_iload (M := MX3_roomTaken) (pc := 77) dX3_roomTaken_77
theorem sX3_roomTaken_79 : Snd MX3_roomTaken 79 (xBin 80 f_iadd) := snd_iadd (M := MX3_roomTaken) (pc := 79) dX3_roomTaken_79
theorem sX3_roomTaken_80 : Snd MX3_roomTaken 80 (xStI 81 3) := snd_istore_n (M := MX3_roomTaken) (pc := 80) dX3_roomTaken_80 (by decide)
theorem sX3_roomTaken_81 : Snd MX3_roomTaken 81 (xInc 84 4 (nI 1)) := snd_iinc (M := MX3_roomTaken) (pc := 81) dX3_roomTaken_81 (by decide +kernel) (by decide)
theorem sX3_roomTaken_84 : Snd MX3_roomTaken 84 (xGo 24) := snd_goto (M := MX3_roomTaken) (pc := 84) dX3_roomTaken_84 (by decide)
theorem sX3_roomTaken_87 : Snd MX3_roomTaken 87 (xLdI 88 3) := snd_iload_n (M := MX3_roomTaken) (pc := 87) dX3_roomTaken_87
theorem sX3_roomTaken_88 : Snd MX3_roomTaken 88 (xRet) := snd_iret (M := MX3_roomTaken) (pc := 88) dX3_roomTaken_88 rfl
theorem VX3_roomTaken : Valid MX3_roomTaken LX3_roomTaken := va_lid sX3_roomTaken_0 (va_lid sX3_roomTaken_1 (va_lid sX3_roomTaken_2 (va_lid sX3_roomTaken_5 (va_lid sX3_roomTaken_6 (va_lid sX3_roomTaken_9 (va_lid sX3_roomTaken_10 (va_lid sX3_roomTaken_13 (va_lid sX3_roomTaken_14 (va_lid sX3_roomTaken_17 (va_lid sX3_roomTaken_18 (va_lid sX3_roomTaken_19 (va_lid sX3_roomTaken_20 (va_lid sX3_roomTaken_21 (va_lid sX3_roomTaken_22 (va_lid sX3_roomTaken_24 (va_lid sX3_roomTaken_26 (va_lid sX3_roomTaken_27 (va_lid sX3_roomTaken_30 (va_lid sX3_roomTaken_33 (va_lid sX3_roomTaken_34 (va_lid sX3_roomTaken_36 (va_lid sX3_roomTaken_39 (va_lid sX3_roomTaken_42 (va_lid sX3_roomTaken_43 (va_lid sX3_roomTaken_46 (va_lid sX3_roomTaken_48 (va_lid sX3_roomTaken_51 (va_lid sX3_roomTaken_53 (va_lid sX3_roomTaken_54 (va_lid sX3_roomTaken_55 (va_lid sX3_roomTaken_58 (va_lid sX3_roomTaken_59 (va_lid sX3_roomTaken_62 (va_lid sX3_roomTaken_64 (va_lid sX3_roomTaken_67 (va_lid sX3_roomTaken_70 (va_lid sX3_roomTaken_72 (va_lid sX3_roomTaken_73 (va_lid sX3_roomTaken_74 (va_lid sX3_roomTaken_77 (va_lid sX3_roomTaken_79 (va_lid sX3_roomTaken_80 (va_lid sX3_roomTaken_81 (va_lid sX3_roomTaken_84 (va_lid sX3_roomTaken_87 (va_lid sX3_roomTaken_88 (va_lid0)))))))))))))))))))))))))))))))))))))))))))))))
theorem kX3_roomTaken_0 : lk LX3_roomTaken 0 = some (xLdI 1 1) := rfl
theorem kX3_roomTaken_1 : lk LX3_roomTaken 1 = some (xLdA 2 0) := rfl
theorem kX3_roomTaken_2 : lk LX3_roomTaken 2 = some (xGf 5 3 6) := rfl
theorem kX3_roomTaken_5 : lk LX3_roomTaken 5 = some (xBin 6 f_iand) := rfl
theorem kX3_roomTaken_6 : lk LX3_roomTaken 6 = some (xCallS MJ6_bitCount_0f7a4 1 9) := rfl
theorem kX3_roomTaken_9 : lk LX3_roomTaken 9 = some (xK 10 (nI 2)) := rfl
theorem kX3_roomTaken_10 : lk LX3_roomTaken 10 = some (xC_lt 17 13) := rfl
theorem kX3_roomTaken_13 : lk LX3_roomTaken 13 = some (xK 14 (nI 1)) := rfl
theorem kX3_roomTaken_14 : lk LX3_roomTaken 14 = some (xGo 18) := rfl
theorem kX3_roomTaken_17 : lk LX3_roomTaken 17 = some (xK 18 (nI 0)) := rfl
theorem kX3_roomTaken_18 : lk LX3_roomTaken 18 = some (xStI 19 2) := rfl
theorem kX3_roomTaken_19 : lk LX3_roomTaken 19 = some (xK 20 (nI 0)) := rfl
theorem kX3_roomTaken_20 : lk LX3_roomTaken 20 = some (xStI 21 3) := rfl
theorem kX3_roomTaken_21 : lk LX3_roomTaken 21 = some (xK 22 (nI 0)) := rfl
theorem kX3_roomTaken_22 : lk LX3_roomTaken 22 = some (xStI 24 4) := rfl
theorem kX3_roomTaken_24 : lk LX3_roomTaken 24 = some (xLdI 26 4) := rfl
theorem kX3_roomTaken_26 : lk LX3_roomTaken 26 = some (xLdA 27 0) := rfl
theorem kX3_roomTaken_27 : lk LX3_roomTaken 27 = some (xGf 30 3 2) := rfl
theorem kX3_roomTaken_30 : lk LX3_roomTaken 30 = some (xC_ge 87 33) := rfl
theorem kX3_roomTaken_33 : lk LX3_roomTaken 33 = some (xLdI 34 1) := rfl
theorem kX3_roomTaken_34 : lk LX3_roomTaken 34 = some (xLdI 36 4) := rfl
theorem kX3_roomTaken_36 : lk LX3_roomTaken 36 = some (xCallS MX5_has 2 39) := rfl
theorem kX3_roomTaken_39 : lk LX3_roomTaken 39 = some (xZ_eq 81 42) := rfl
theorem kX3_roomTaken_42 : lk LX3_roomTaken 42 = some (xLdA 43 0) := rfl
theorem kX3_roomTaken_43 : lk LX3_roomTaken 43 = some (xGf 46 3 8) := rfl
theorem kX3_roomTaken_46 : lk LX3_roomTaken 46 = some (xLdI 48 4) := rfl
theorem kX3_roomTaken_48 : lk LX3_roomTaken 48 = some (xCallS MX5_at 2 51) := rfl
theorem kX3_roomTaken_51 : lk LX3_roomTaken 51 = some (xStI 53 5) := rfl
theorem kX3_roomTaken_53 : lk LX3_roomTaken 53 = some (xLdI 54 3) := rfl
theorem kX3_roomTaken_54 : lk LX3_roomTaken 54 = some (xLdI 55 2) := rfl
theorem kX3_roomTaken_55 : lk LX3_roomTaken 55 = some (xZ_eq 77 58) := rfl
theorem kX3_roomTaken_58 : lk LX3_roomTaken 58 = some (xLdA 59 0) := rfl
theorem kX3_roomTaken_59 : lk LX3_roomTaken 59 = some (xGf 62 3 6) := rfl
theorem kX3_roomTaken_62 : lk LX3_roomTaken 62 = some (xLdI 64 4) := rfl
theorem kX3_roomTaken_64 : lk LX3_roomTaken 64 = some (xCallS MX5_has 2 67) := rfl
theorem kX3_roomTaken_67 : lk LX3_roomTaken 67 = some (xZ_eq 77 70) := rfl
theorem kX3_roomTaken_70 : lk LX3_roomTaken 70 = some (xLdI 72 5) := rfl
theorem kX3_roomTaken_72 : lk LX3_roomTaken 72 = some (xK 73 (nI 2)) := rfl
theorem kX3_roomTaken_73 : lk LX3_roomTaken 73 = some (xDiv 74 f_idiv) := rfl
theorem kX3_roomTaken_74 : lk LX3_roomTaken 74 = some (xGo 79) := rfl
theorem kX3_roomTaken_77 : lk LX3_roomTaken 77 = some (xLdI 79 5) := rfl
theorem kX3_roomTaken_79 : lk LX3_roomTaken 79 = some (xBin 80 f_iadd) := rfl
theorem kX3_roomTaken_80 : lk LX3_roomTaken 80 = some (xStI 81 3) := rfl
theorem kX3_roomTaken_81 : lk LX3_roomTaken 81 = some (xInc 84 4 (nI 1)) := rfl
theorem kX3_roomTaken_84 : lk LX3_roomTaken 84 = some (xGo 24) := rfl
theorem kX3_roomTaken_87 : lk LX3_roomTaken 87 = some (xLdI 88 3) := rfl
theorem kX3_roomTaken_88 : lk LX3_roomTaken 88 = some (xRet) := rfl
def LX3_price : List (Nat × XI) := [(0, xK 1 (nI 0)),
  (1, xStI 2 2),
  (2, xK 3 (nI 0)),
  (3, xStI 4 3),
  (4, xLdI 5 3),
  (5, xLdA 6 0),
  (6, xGf 9 3 2),
  (9, xC_ge 37 12),
  (12, xLdI 13 1),
  (13, xLdI 14 3),
  (14, xCallS MX5_has 2 17),
  (17, xZ_eq 31 20),
  (20, xLdI 21 2),
  (21, xLdA 22 0),
  (22, xGf 25 3 9),
  (25, xLdI 26 3),
  (26, xCallS MX5_at 2 29),
  (29, xBin 30 f_iadd),
  (30, xStI 31 2),
  (31, xInc 34 3 (nI 1)),
  (34, xGo 4),
  (37, xLdI 38 2),
  (38, xRet)]
theorem sX3_price_0 : Snd MX3_price 0 (xK 1 (nI 0)) := snd_iconst (M := MX3_price) (pc := 0) dX3_price_0 (by decide +kernel)
theorem sX3_price_1 : Snd MX3_price 1 (xStI 2 2) := snd_istore_n (M := MX3_price) (pc := 1) dX3_price_1 (by decide)
theorem sX3_price_2 : Snd MX3_price 2 (xK 3 (nI 0)) := snd_iconst (M := MX3_price) (pc := 2) dX3_price_2 (by decide +kernel)
theorem sX3_price_3 : Snd MX3_price 3 (xStI 4 3) := snd_istore_n (M := MX3_price) (pc := 3) dX3_price_3 (by decide)
theorem sX3_price_4 : Snd MX3_price 4 (xLdI 5 3) := snd_iload_n (M := MX3_price) (pc := 4) dX3_price_4
theorem sX3_price_5 : Snd MX3_price 5 (xLdA 6 0) := snd_aload_n (M := MX3_price) (pc := 5) dX3_price_5
theorem sX3_price_6 : Snd MX3_price 6 (xGf 9 3 2) := snd_gf (M := MX3_price) (pc := 6) (C0 := RX3) (T0 := TX3) (N := 14) dX3_price_6 rfl tbX3 (by decide) w235
theorem sX3_price_9 : Snd MX3_price 9 (xC_ge 37 12) := snd_icmp_ge (M := MX3_price) (pc := 9) dX3_price_9 (by decide)
theorem sX3_price_12 : Snd MX3_price 12 (xLdI 13 1) := snd_iload_n (M := MX3_price) (pc := 12) dX3_price_12
theorem sX3_price_13 : Snd MX3_price 13 (xLdI 14 3) := snd_iload_n (M := MX3_price) (pc := 13) dX3_price_13
theorem sX3_price_14 : Snd MX3_price 14 (xCallS MX5_has 2 17) := snd_callSN (M := MX3_price) (pc := 14) (n := 2) dX3_price_14 nt8 w117 ⟨w115, w116, ⟨by decide, by decide, by decide +kernel⟩, by decide⟩ ⟨rfl, rfl⟩
theorem sX3_price_17 : Snd MX3_price 17 (xZ_eq 31 20) := snd_if_eq (M := MX3_price) (pc := 17) dX3_price_17 (by decide)
theorem sX3_price_20 : Snd MX3_price 20 (xLdI 21 2) := snd_iload_n (M := MX3_price) (pc := 20) dX3_price_20
theorem sX3_price_21 : Snd MX3_price 21 (xLdA 22 0) := snd_aload_n (M := MX3_price) (pc := 21) dX3_price_21
theorem sX3_price_22 : Snd MX3_price 22 (xGf 25 3 9) := snd_gf (M := MX3_price) (pc := 22) (C0 := RX3) (T0 := TX3) (N := 14) dX3_price_22 rfl tbX3 (by decide) w228
theorem sX3_price_25 : Snd MX3_price 25 (xLdI 26 3) := snd_iload_n (M := MX3_price) (pc := 25) dX3_price_25
theorem sX3_price_26 : Snd MX3_price 26 (xCallS MX5_at 2 29) := snd_callSN (M := MX3_price) (pc := 26) (n := 2) dX3_price_26 nt4 w123 ⟨w115, w122, ⟨by decide, by decide, by decide +kernel⟩, by decide⟩ ⟨rfl, rfl⟩
theorem sX3_price_29 : Snd MX3_price 29 (xBin 30 f_iadd) := snd_iadd (M := MX3_price) (pc := 29) dX3_price_29
theorem sX3_price_30 : Snd MX3_price 30 (xStI 31 2) := snd_istore_n (M := MX3_price) (pc := 30) dX3_price_30 (by decide)
theorem sX3_price_31 : Snd MX3_price 31 (xInc 34 3 (nI 1)) := snd_iinc (M := MX3_price) (pc := 31) dX3_price_31 (by decide +kernel) (by decide)
theorem sX3_price_34 : Snd MX3_price 34 (xGo 4) := snd_goto (M := MX3_price) (pc := 34) dX3_price_34 (by decide)
theorem sX3_price_37 : Snd MX3_price 37 (xLdI 38 2) := snd_iload_n (M := MX3_price) (pc := 37) dX3_price_37
theorem sX3_price_38 : Snd MX3_price 38 (xRet) := snd_iret (M := MX3_price) (pc := 38) dX3_price_38 rfl
theorem VX3_price : Valid MX3_price LX3_price := va_lid sX3_price_0 (va_lid sX3_price_1 (va_lid sX3_price_2 (va_lid sX3_price_3 (va_lid sX3_price_4 (va_lid sX3_price_5 (va_lid sX3_price_6 (va_lid sX3_price_9 (va_lid sX3_price_12 (va_lid sX3_price_13 (va_lid sX3_price_14 (va_lid sX3_price_17 (va_lid sX3_price_20 (va_lid sX3_price_21 (va_lid sX3_price_22 (va_lid sX3_price_25 (va_lid sX3_price_26 (va_lid sX3_price_29 (va_lid sX3_price_30 (va_lid sX3_price_31 (va_lid sX3_price_34 (va_lid sX3_price_37 (va_lid sX3_price_38 (va_lid0)))))))))))))))))))))))
theorem kX3_price_0 : lk LX3_price 0 = some (xK 1 (nI 0)) := rfl
theorem kX3_price_1 : lk LX3_price 1 = some (xStI 2 2) := rfl
theorem kX3_price_2 : lk LX3_price 2 = some (xK 3 (nI 0)) := rfl
theorem kX3_price_3 : lk LX3_price 3 = some (xStI 4 3) := rfl
theorem kX3_price_4 : lk LX3_price 4 = some (xLdI 5 3) := rfl
theorem kX3_price_5 : lk LX3_price 5 = some (xLdA 6 0) := rfl
theorem kX3_price_6 : lk LX3_price 6 = some (xGf 9 3 2) := rfl
theorem kX3_price_9 : lk LX3_price 9 = some (xC_ge 37 12) := rfl
theorem kX3_price_12 : lk LX3_price 12 = some (xLdI 13 1) := rfl
theorem kX3_price_13 : lk LX3_price 13 = some (xLdI 14 3) := rfl
theorem kX3_price_14 : lk LX3_price 14 = some (xCallS MX5_has 2 17) := rfl
theorem kX3_price_17 : lk LX3_price 17 = some (xZ_eq 31 20) := rfl
theorem kX3_price_20 : lk LX3_price 20 = some (xLdI 21 2) := rfl
theorem kX3_price_21 : lk LX3_price 21 = some (xLdA 22 0) := rfl
theorem kX3_price_22 : lk LX3_price 22 = some (xGf 25 3 9) := rfl
theorem kX3_price_25 : lk LX3_price 25 = some (xLdI 26 3) := rfl
theorem kX3_price_26 : lk LX3_price 26 = some (xCallS MX5_at 2 29) := rfl
theorem kX3_price_29 : lk LX3_price 29 = some (xBin 30 f_iadd) := rfl
theorem kX3_price_30 : lk LX3_price 30 = some (xStI 31 2) := rfl
theorem kX3_price_31 : lk LX3_price 31 = some (xInc 34 3 (nI 1)) := rfl
theorem kX3_price_34 : lk LX3_price 34 = some (xGo 4) := rfl
theorem kX3_price_37 : lk LX3_price 37 = some (xLdI 38 2) := rfl
theorem kX3_price_38 : lk LX3_price 38 = some (xRet) := rfl
def LX3_canBe : List (Nat × XI) := [(0, xLdA 1 0),
  (1, xGf 4 3 13),
  (4, xLdI 5 1),
  (5, xCallS MX5_at 2 8),
  (8, xStI 9 3),
  (9, xLdI 10 3),
  (10, xLdI 11 2),
  (11, xK 12 ((-1))),
  (12, xBin 13 f_ixor),
  (13, xBin 14 f_iand),
  (14, xCallS MJ6_bitCount_0f7a4 1 17),
  (17, xStI 19 4),
  (19, xLdI 21 4),
  (21, xZ_eq 43 24),
  (24, xLdI 26 4),
  (26, xK 27 (nI 1)),
  (27, xC_ne 47 30),
  (30, xLdI 31 2),
  (31, xLdA 32 0),
  (32, xGf 35 3 4),
  (35, xBin 36 f_iand),
  (36, xLdI 37 3),
  (37, xK 38 ((-1))),
  (38, xBin 39 f_ixor),
  (39, xBin 40 f_iand),
  (40, xZ_eq 47 43),
  (43, xK 44 (nI 1)),
  (44, xGo 48),
  (47, xK 48 (nI 0)),
  (48, xRetZ)]
theorem sX3_canBe_0 : Snd MX3_canBe 0 (xLdA 1 0) := snd_aload_n (M := MX3_canBe) (pc := 0) dX3_canBe_0
theorem sX3_canBe_1 : Snd MX3_canBe 1 (xGf 4 3 13) := snd_gf (M := MX3_canBe) (pc := 1) (C0 := RX3) (T0 := TX3) (N := 14) dX3_canBe_1 rfl tbX3 (by decide) w232
theorem sX3_canBe_4 : Snd MX3_canBe 4 (xLdI 5 1) := snd_iload_n (M := MX3_canBe) (pc := 4) dX3_canBe_4
theorem sX3_canBe_5 : Snd MX3_canBe 5 (xCallS MX5_at 2 8) := snd_callSN (M := MX3_canBe) (pc := 5) (n := 2) dX3_canBe_5 nt4 w123 ⟨w115, w122, ⟨by decide, by decide, by decide +kernel⟩, by decide⟩ ⟨rfl, rfl⟩
theorem sX3_canBe_8 : Snd MX3_canBe 8 (xStI 9 3) := snd_istore_n (M := MX3_canBe) (pc := 8) dX3_canBe_8 (by decide)
theorem sX3_canBe_9 : Snd MX3_canBe 9 (xLdI 10 3) := snd_iload_n (M := MX3_canBe) (pc := 9) dX3_canBe_9
theorem sX3_canBe_10 : Snd MX3_canBe 10 (xLdI 11 2) := snd_iload_n (M := MX3_canBe) (pc := 10) dX3_canBe_10
theorem sX3_canBe_11 : Snd MX3_canBe 11 (xK 12 ((-1))) := snd_iconst (M := MX3_canBe) (pc := 11) dX3_canBe_11 (by decide +kernel)
theorem sX3_canBe_12 : Snd MX3_canBe 12 (xBin 13 f_ixor) := snd_ixor (M := MX3_canBe) (pc := 12) dX3_canBe_12
theorem sX3_canBe_13 : Snd MX3_canBe 13 (xBin 14 f_iand) := snd_iand (M := MX3_canBe) (pc := 13) dX3_canBe_13
theorem sX3_canBe_14 : Snd MX3_canBe 14 (xCallS MJ6_bitCount_0f7a4 1 17) := snd_callS (M := MX3_canBe) (pc := 14) (n := 1) dX3_canBe_14 w250 w109 ⟨w106, w107, ⟨by decide, by decide, by decide +kernel⟩, by decide⟩ ⟨rfl, rfl⟩
theorem sX3_canBe_17 : Snd MX3_canBe 17 (xStI 19 4) := snd_istore (M := MX3_canBe) (pc := 17) dX3_canBe_17 (by decide)
theorem sX3_canBe_19 : Snd MX3_canBe 19 (xLdI 21 4) := snd_iload (M := MX3_canBe) (pc := 19) dX3_canBe_19
theorem sX3_canBe_21 : Snd MX3_canBe 21 (xZ_eq 43 24) := snd_if_eq (M := MX3_canBe) (pc := 21) dX3_canBe_21 (by decide)
theorem sX3_canBe_24 : Snd MX3_canBe 24 (xLdI 26 4) := snd_iload (M := MX3_canBe) (pc := 24) dX3_canBe_24
theorem sX3_canBe_26 : Snd MX3_canBe 26 (xK 27 (nI 1)) := snd_iconst (M := MX3_canBe) (pc := 26) dX3_canBe_26 (by decide +kernel)
theorem sX3_canBe_27 : Snd MX3_canBe 27 (xC_ne 47 30) := snd_icmp_ne (M := MX3_canBe) (pc := 27) dX3_canBe_27 (by decide)
theorem sX3_canBe_30 : Snd MX3_canBe 30 (xLdI 31 2) := snd_iload_n (M := MX3_canBe) (pc := 30) dX3_canBe_30
theorem sX3_canBe_31 : Snd MX3_canBe 31 (xLdA 32 0) := snd_aload_n (M := MX3_canBe) (pc := 31) dX3_canBe_31
theorem sX3_canBe_32 : Snd MX3_canBe 32 (xGf 35 3 4) := snd_gf (M := MX3_canBe) (pc := 32) (C0 := RX3) (T0 := TX3) (N := 14) dX3_canBe_32 rfl tbX3 (by decide) w237
theorem sX3_canBe_35 : Snd MX3_canBe 35 (xBin 36 f_iand) := snd_iand (M := MX3_canBe) (pc := 35) dX3_canBe_35
theorem sX3_canBe_36 : Snd MX3_canBe 36 (xLdI 37 3) := snd_iload_n (M := MX3_canBe) (pc := 36) dX3_canBe_36
theorem sX3_canBe_37 : Snd MX3_canBe 37 (xK 38 ((-1))) := snd_iconst (M := MX3_canBe) (pc := 37) dX3_canBe_37 (by decide +kernel)
theorem sX3_canBe_38 : Snd MX3_canBe 38 (xBin 39 f_ixor) := snd_ixor (M := MX3_canBe) (pc := 38) dX3_canBe_38
theorem sX3_canBe_39 : Snd MX3_canBe 39 (xBin 40 f_iand) := snd_iand (M := MX3_canBe) (pc := 39) dX3_canBe_39
theorem sX3_canBe_40 : Snd MX3_canBe 40 (xZ_eq 47 43) := snd_if_eq (M := MX3_canBe) (pc := 40) dX3_canBe_40 (by decide)
theorem sX3_canBe_43 : Snd MX3_canBe 43 (xK 44 (nI 1)) := snd_iconst (M := MX3_canBe) (pc := 43) dX3_canBe_43 (by decide +kernel)
theorem sX3_canBe_44 : Snd MX3_canBe 44 (xGo 48) := snd_goto (M := MX3_canBe) (pc := 44) dX3_canBe_44 (by decide)
theorem sX3_canBe_47 : Snd MX3_canBe 47 (xK 48 (nI 0)) := snd_iconst (M := MX3_canBe) (pc := 47) dX3_canBe_47 (by decide +kernel)
theorem sX3_canBe_48 : Snd MX3_canBe 48 (xRetZ) := snd_zret (M := MX3_canBe) (pc := 48) dX3_canBe_48 rfl
theorem VX3_canBe : Valid MX3_canBe LX3_canBe := va_lid sX3_canBe_0 (va_lid sX3_canBe_1 (va_lid sX3_canBe_4 (va_lid sX3_canBe_5 (va_lid sX3_canBe_8 (va_lid sX3_canBe_9 (va_lid sX3_canBe_10 (va_lid sX3_canBe_11 (va_lid sX3_canBe_12 (va_lid sX3_canBe_13 (va_lid sX3_canBe_14 (va_lid sX3_canBe_17 (va_lid sX3_canBe_19 (va_lid sX3_canBe_21 (va_lid sX3_canBe_24 (va_lid sX3_canBe_26 (va_lid sX3_canBe_27 (va_lid sX3_canBe_30 (va_lid sX3_canBe_31 (va_lid sX3_canBe_32 (va_lid sX3_canBe_35 (va_lid sX3_canBe_36 (va_lid sX3_canBe_37 (va_lid sX3_canBe_38 (va_lid sX3_canBe_39 (va_lid sX3_canBe_40 (va_lid sX3_canBe_43 (va_lid sX3_canBe_44 (va_lid sX3_canBe_47 (va_lid sX3_canBe_48 (va_lid0))))))))))))))))))))))))))))))
theorem kX3_canBe_0 : lk LX3_canBe 0 = some (xLdA 1 0) := rfl
theorem kX3_canBe_1 : lk LX3_canBe 1 = some (xGf 4 3 13) := rfl
theorem kX3_canBe_4 : lk LX3_canBe 4 = some (xLdI 5 1) := rfl
theorem kX3_canBe_5 : lk LX3_canBe 5 = some (xCallS MX5_at 2 8) := rfl
theorem kX3_canBe_8 : lk LX3_canBe 8 = some (xStI 9 3) := rfl
theorem kX3_canBe_9 : lk LX3_canBe 9 = some (xLdI 10 3) := rfl
theorem kX3_canBe_10 : lk LX3_canBe 10 = some (xLdI 11 2) := rfl
theorem kX3_canBe_11 : lk LX3_canBe 11 = some (xK 12 ((-1))) := rfl
theorem kX3_canBe_12 : lk LX3_canBe 12 = some (xBin 13 f_ixor) := rfl
theorem kX3_canBe_13 : lk LX3_canBe 13 = some (xBin 14 f_iand) := rfl
theorem kX3_canBe_14 : lk LX3_canBe 14 = some (xCallS MJ6_bitCount_0f7a4 1 17) := rfl
theorem kX3_canBe_17 : lk LX3_canBe 17 = some (xStI 19 4) := rfl
theorem kX3_canBe_19 : lk LX3_canBe 19 = some (xLdI 21 4) := rfl
theorem kX3_canBe_21 : lk LX3_canBe 21 = some (xZ_eq 43 24) := rfl
theorem kX3_canBe_24 : lk LX3_canBe 24 = some (xLdI 26 4) := rfl
theorem kX3_canBe_26 : lk LX3_canBe 26 = some (xK 27 (nI 1)) := rfl
theorem kX3_canBe_27 : lk LX3_canBe 27 = some (xC_ne 47 30) := rfl
theorem kX3_canBe_30 : lk LX3_canBe 30 = some (xLdI 31 2) := rfl
theorem kX3_canBe_31 : lk LX3_canBe 31 = some (xLdA 32 0) := rfl
theorem kX3_canBe_32 : lk LX3_canBe 32 = some (xGf 35 3 4) := rfl
theorem kX3_canBe_35 : lk LX3_canBe 35 = some (xBin 36 f_iand) := rfl
theorem kX3_canBe_36 : lk LX3_canBe 36 = some (xLdI 37 3) := rfl
theorem kX3_canBe_37 : lk LX3_canBe 37 = some (xK 38 ((-1))) := rfl
theorem kX3_canBe_38 : lk LX3_canBe 38 = some (xBin 39 f_ixor) := rfl
theorem kX3_canBe_39 : lk LX3_canBe 39 = some (xBin 40 f_iand) := rfl
theorem kX3_canBe_40 : lk LX3_canBe 40 = some (xZ_eq 47 43) := rfl
theorem kX3_canBe_43 : lk LX3_canBe 43 = some (xK 44 (nI 1)) := rfl
theorem kX3_canBe_44 : lk LX3_canBe 44 = some (xGo 48) := rfl
theorem kX3_canBe_47 : lk LX3_canBe 47 = some (xK 48 (nI 0)) := rfl
theorem kX3_canBe_48 : lk LX3_canBe 48 = some (xRetZ) := rfl
def LX3_livesBy : List (Nat × XI) := [(0, xK 1 (nI 0)),
  (1, xStI 2 2),
  (2, xK 3 (nI 0)),
  (3, xStI 4 3),
  (4, xLdI 5 3),
  (5, xLdA 6 0),
  (6, xGf 9 3 3),
  (9, xC_ge 32 12),
  (12, xLdI 13 2),
  (13, xLdA 14 0),
  (14, xLdI 15 3),
  (15, xLdI 16 1),
  (16, xCallV MX3_canBe 3 2 19),
  (19, xCallS MX5_bit 1 22),
  (22, xLdI 23 3),
  (23, xBin 24 f_ishl),
  (24, xBin 25 f_ior),
  (25, xStI 26 2),
  (26, xInc 29 3 (nI 1)),
  (29, xGo 4),
  (32, xLdI 33 2),
  (33, xRet)]
theorem sX3_livesBy_0 : Snd MX3_livesBy 0 (xK 1 (nI 0)) := snd_iconst (M := MX3_livesBy) (pc := 0) dX3_livesBy_0 (by decide +kernel)
theorem sX3_livesBy_1 : Snd MX3_livesBy 1 (xStI 2 2) := snd_istore_n (M := MX3_livesBy) (pc := 1) dX3_livesBy_1 (by decide)
theorem sX3_livesBy_2 : Snd MX3_livesBy 2 (xK 3 (nI 0)) := snd_iconst (M := MX3_livesBy) (pc := 2) dX3_livesBy_2 (by decide +kernel)
theorem sX3_livesBy_3 : Snd MX3_livesBy 3 (xStI 4 3) := snd_istore_n (M := MX3_livesBy) (pc := 3) dX3_livesBy_3 (by decide)
theorem sX3_livesBy_4 : Snd MX3_livesBy 4 (xLdI 5 3) := snd_iload_n (M := MX3_livesBy) (pc := 4) dX3_livesBy_4
theorem sX3_livesBy_5 : Snd MX3_livesBy 5 (xLdA 6 0) := snd_aload_n (M := MX3_livesBy) (pc := 5) dX3_livesBy_5
theorem sX3_livesBy_6 : Snd MX3_livesBy 6 (xGf 9 3 3) := snd_gf (M := MX3_livesBy) (pc := 6) (C0 := RX3) (T0 := TX3) (N := 14) dX3_livesBy_6 rfl tbX3 (by decide) w236
theorem sX3_livesBy_9 : Snd MX3_livesBy 9 (xC_ge 32 12) := snd_icmp_ge (M := MX3_livesBy) (pc := 9) dX3_livesBy_9 (by decide)
theorem sX3_livesBy_12 : Snd MX3_livesBy 12 (xLdI 13 2) := snd_iload_n (M := MX3_livesBy) (pc := 12) dX3_livesBy_12
theorem sX3_livesBy_13 : Snd MX3_livesBy 13 (xLdA 14 0) := snd_aload_n (M := MX3_livesBy) (pc := 13) dX3_livesBy_13
theorem sX3_livesBy_14 : Snd MX3_livesBy 14 (xLdI 15 3) := snd_iload_n (M := MX3_livesBy) (pc := 14) dX3_livesBy_14
theorem sX3_livesBy_15 : Snd MX3_livesBy 15 (xLdI 16 1) := snd_iload_n (M := MX3_livesBy) (pc := 15) dX3_livesBy_15
theorem sX3_livesBy_16 : Snd MX3_livesBy 16 (xCallV MX3_canBe 3 2 19) := snd_callV (M := MX3_livesBy) (pc := 16) (n := 2) dX3_livesBy_16 rfl w251 w149 w150 ⟨w83, w147, ⟨by decide, by decide, by decide +kernel⟩, by decide⟩ ⟨rfl, rfl⟩
theorem sX3_livesBy_19 : Snd MX3_livesBy 19 (xCallS MX5_bit 1 22) := snd_callSN (M := MX3_livesBy) (pc := 19) (n := 1) dX3_livesBy_19 nt3 w241 ⟨w115, w240, ⟨by decide, by decide, by decide +kernel⟩, by decide⟩ ⟨rfl, rfl⟩
theorem sX3_livesBy_22 : Snd MX3_livesBy 22 (xLdI 23 3) := snd_iload_n (M := MX3_livesBy) (pc := 22) dX3_livesBy_22
theorem sX3_livesBy_23 : Snd MX3_livesBy 23 (xBin 24 f_ishl) := snd_ishl (M := MX3_livesBy) (pc := 23) dX3_livesBy_23
theorem sX3_livesBy_24 : Snd MX3_livesBy 24 (xBin 25 f_ior) := snd_ior (M := MX3_livesBy) (pc := 24) dX3_livesBy_24
theorem sX3_livesBy_25 : Snd MX3_livesBy 25 (xStI 26 2) := snd_istore_n (M := MX3_livesBy) (pc := 25) dX3_livesBy_25 (by decide)
theorem sX3_livesBy_26 : Snd MX3_livesBy 26 (xInc 29 3 (nI 1)) := snd_iinc (M := MX3_livesBy) (pc := 26) dX3_livesBy_26 (by decide +kernel) (by decide)
theorem sX3_livesBy_29 : Snd MX3_livesBy 29 (xGo 4) := snd_goto (M := MX3_livesBy) (pc := 29) dX3_livesBy_29 (by decide)
theorem sX3_livesBy_32 : Snd MX3_livesBy 32 (xLdI 33 2) := snd_iload_n (M := MX3_livesBy) (pc := 32) dX3_livesBy_32
theorem sX3_livesBy_33 : Snd MX3_livesBy 33 (xRet) := snd_iret (M := MX3_livesBy) (pc := 33) dX3_livesBy_33 rfl
theorem VX3_livesBy : Valid MX3_livesBy LX3_livesBy := va_lid sX3_livesBy_0 (va_lid sX3_livesBy_1 (va_lid sX3_livesBy_2 (va_lid sX3_livesBy_3 (va_lid sX3_livesBy_4 (va_lid sX3_livesBy_5 (va_lid sX3_livesBy_6 (va_lid sX3_livesBy_9 (va_lid sX3_livesBy_12 (va_lid sX3_livesBy_13 (va_lid sX3_livesBy_14 (va_lid sX3_livesBy_15 (va_lid sX3_livesBy_16 (va_lid sX3_livesBy_19 (va_lid sX3_livesBy_22 (va_lid sX3_livesBy_23 (va_lid sX3_livesBy_24 (va_lid sX3_livesBy_25 (va_lid sX3_livesBy_26 (va_lid sX3_livesBy_29 (va_lid sX3_livesBy_32 (va_lid sX3_livesBy_33 (va_lid0))))))))))))))))))))))
theorem kX3_livesBy_0 : lk LX3_livesBy 0 = some (xK 1 (nI 0)) := rfl
theorem kX3_livesBy_1 : lk LX3_livesBy 1 = some (xStI 2 2) := rfl
theorem kX3_livesBy_2 : lk LX3_livesBy 2 = some (xK 3 (nI 0)) := rfl
theorem kX3_livesBy_3 : lk LX3_livesBy 3 = some (xStI 4 3) := rfl
theorem kX3_livesBy_4 : lk LX3_livesBy 4 = some (xLdI 5 3) := rfl
theorem kX3_livesBy_5 : lk LX3_livesBy 5 = some (xLdA 6 0) := rfl
theorem kX3_livesBy_6 : lk LX3_livesBy 6 = some (xGf 9 3 3) := rfl
theorem kX3_livesBy_9 : lk LX3_livesBy 9 = some (xC_ge 32 12) := rfl
theorem kX3_livesBy_12 : lk LX3_livesBy 12 = some (xLdI 13 2) := rfl
theorem kX3_livesBy_13 : lk LX3_livesBy 13 = some (xLdA 14 0) := rfl
theorem kX3_livesBy_14 : lk LX3_livesBy 14 = some (xLdI 15 3) := rfl
theorem kX3_livesBy_15 : lk LX3_livesBy 15 = some (xLdI 16 1) := rfl
theorem kX3_livesBy_16 : lk LX3_livesBy 16 = some (xCallV MX3_canBe 3 2 19) := rfl
theorem kX3_livesBy_19 : lk LX3_livesBy 19 = some (xCallS MX5_bit 1 22) := rfl
theorem kX3_livesBy_22 : lk LX3_livesBy 22 = some (xLdI 23 3) := rfl
theorem kX3_livesBy_23 : lk LX3_livesBy 23 = some (xBin 24 f_ishl) := rfl
theorem kX3_livesBy_24 : lk LX3_livesBy 24 = some (xBin 25 f_ior) := rfl
theorem kX3_livesBy_25 : lk LX3_livesBy 25 = some (xStI 26 2) := rfl
theorem kX3_livesBy_26 : lk LX3_livesBy 26 = some (xInc 29 3 (nI 1)) := rfl
theorem kX3_livesBy_29 : lk LX3_livesBy 29 = some (xGo 4) := rfl
theorem kX3_livesBy_32 : lk LX3_livesBy 32 = some (xLdI 33 2) := rfl
theorem kX3_livesBy_33 : lk LX3_livesBy 33 = some (xRet) := rfl
def LX3_gain : List (Nat × XI) := [(0, xK 1 (nI 0)),
  (1, xStI 2 2),
  (2, xK 3 (nI 0)),
  (3, xStI 4 3),
  (4, xLdI 5 3),
  (5, xLdA 6 0),
  (6, xGf 9 3 3),
  (9, xC_ge 47 12),
  (12, xLdA 13 0),
  (13, xLdI 14 3),
  (14, xLdI 15 1),
  (15, xCallV MX3_canBe 3 2 18),
  (18, xZ_eq 41 21),
  (21, xLdI 22 2),
  (22, xLdA 23 0),
  (23, xGf 26 3 10),
  (26, xLdI 27 3),
  (27, xCallS MX5_at 2 30),
  (30, xLdA 31 0),
  (31, xGf 34 3 11),
  (34, xLdI 35 3),
  (35, xCallS MX5_at 2 38),
  (38, xBin 39 f_imul),
  (39, xBin 40 f_iadd),
  (40, xStI 41 2),
  (41, xInc 44 3 (nI 1)),
  (44, xGo 4),
  (47, xLdI 48 2),
  (48, xRet)]
theorem sX3_gain_0 : Snd MX3_gain 0 (xK 1 (nI 0)) := snd_iconst (M := MX3_gain) (pc := 0) dX3_gain_0 (by decide +kernel)
theorem sX3_gain_1 : Snd MX3_gain 1 (xStI 2 2) := snd_istore_n (M := MX3_gain) (pc := 1) dX3_gain_1 (by decide)
theorem sX3_gain_2 : Snd MX3_gain 2 (xK 3 (nI 0)) := snd_iconst (M := MX3_gain) (pc := 2) dX3_gain_2 (by decide +kernel)
theorem sX3_gain_3 : Snd MX3_gain 3 (xStI 4 3) := snd_istore_n (M := MX3_gain) (pc := 3) dX3_gain_3 (by decide)
theorem sX3_gain_4 : Snd MX3_gain 4 (xLdI 5 3) := snd_iload_n (M := MX3_gain) (pc := 4) dX3_gain_4
theorem sX3_gain_5 : Snd MX3_gain 5 (xLdA 6 0) := snd_aload_n (M := MX3_gain) (pc := 5) dX3_gain_5
theorem sX3_gain_6 : Snd MX3_gain 6 (xGf 9 3 3) := snd_gf (M := MX3_gain) (pc := 6) (C0 := RX3) (T0 := TX3) (N := 14) dX3_gain_6 rfl tbX3 (by decide) w236
theorem sX3_gain_9 : Snd MX3_gain 9 (xC_ge 47 12) := snd_icmp_ge (M := MX3_gain) (pc := 9) dX3_gain_9 (by decide)
theorem sX3_gain_12 : Snd MX3_gain 12 (xLdA 13 0) := snd_aload_n (M := MX3_gain) (pc := 12) dX3_gain_12
theorem sX3_gain_13 : Snd MX3_gain 13 (xLdI 14 3) := snd_iload_n (M := MX3_gain) (pc := 13) dX3_gain_13
theorem sX3_gain_14 : Snd MX3_gain 14 (xLdI 15 1) := snd_iload_n (M := MX3_gain) (pc := 14) dX3_gain_14
theorem sX3_gain_15 : Snd MX3_gain 15 (xCallV MX3_canBe 3 2 18) := snd_callV (M := MX3_gain) (pc := 15) (n := 2) dX3_gain_15 rfl w251 w149 w150 ⟨w83, w147, ⟨by decide, by decide, by decide +kernel⟩, by decide⟩ ⟨rfl, rfl⟩
theorem sX3_gain_18 : Snd MX3_gain 18 (xZ_eq 41 21) := snd_if_eq (M := MX3_gain) (pc := 18) dX3_gain_18 (by decide)
theorem sX3_gain_21 : Snd MX3_gain 21 (xLdI 22 2) := snd_iload_n (M := MX3_gain) (pc := 21) dX3_gain_21
theorem sX3_gain_22 : Snd MX3_gain 22 (xLdA 23 0) := snd_aload_n (M := MX3_gain) (pc := 22) dX3_gain_22
theorem sX3_gain_23 : Snd MX3_gain 23 (xGf 26 3 10) := snd_gf (M := MX3_gain) (pc := 23) (C0 := RX3) (T0 := TX3) (N := 14) dX3_gain_23 rfl tbX3 (by decide) w229
theorem sX3_gain_26 : Snd MX3_gain 26 (xLdI 27 3) := snd_iload_n (M := MX3_gain) (pc := 26) dX3_gain_26
theorem sX3_gain_27 : Snd MX3_gain 27 (xCallS MX5_at 2 30) := snd_callSN (M := MX3_gain) (pc := 27) (n := 2) dX3_gain_27 nt4 w123 ⟨w115, w122, ⟨by decide, by decide, by decide +kernel⟩, by decide⟩ ⟨rfl, rfl⟩
theorem sX3_gain_30 : Snd MX3_gain 30 (xLdA 31 0) := snd_aload_n (M := MX3_gain) (pc := 30) dX3_gain_30
theorem sX3_gain_31 : Snd MX3_gain 31 (xGf 34 3 11) := snd_gf (M := MX3_gain) (pc := 31) (C0 := RX3) (T0 := TX3) (N := 14) dX3_gain_31 rfl tbX3 (by decide) w230
theorem sX3_gain_34 : Snd MX3_gain 34 (xLdI 35 3) := snd_iload_n (M := MX3_gain) (pc := 34) dX3_gain_34
theorem sX3_gain_35 : Snd MX3_gain 35 (xCallS MX5_at 2 38) := snd_callSN (M := MX3_gain) (pc := 35) (n := 2) dX3_gain_35 nt4 w123 ⟨w115, w122, ⟨by decide, by decide, by decide +kernel⟩, by decide⟩ ⟨rfl, rfl⟩
theorem sX3_gain_38 : Snd MX3_gain 38 (xBin 39 f_imul) := snd_imul (M := MX3_gain) (pc := 38) dX3_gain_38
theorem sX3_gain_39 : Snd MX3_gain 39 (xBin 40 f_iadd) := snd_iadd (M := MX3_gain) (pc := 39) dX3_gain_39
theorem sX3_gain_40 : Snd MX3_gain 40 (xStI 41 2) := snd_istore_n (M := MX3_gain) (pc := 40) dX3_gain_40 (by decide)
theorem sX3_gain_41 : Snd MX3_gain 41 (xInc 44 3 (nI 1)) := snd_iinc (M := MX3_gain) (pc := 41) dX3_gain_41 (by decide +kernel) (by decide)
theorem sX3_gain_44 : Snd MX3_gain 44 (xGo 4) := snd_goto (M := MX3_gain) (pc := 44) dX3_gain_44 (by decide)
theorem sX3_gain_47 : Snd MX3_gain 47 (xLdI 48 2) := snd_iload_n (M := MX3_gain) (pc := 47) dX3_gain_47
theorem sX3_gain_48 : Snd MX3_gain 48 (xRet) := snd_iret (M := MX3_gain) (pc := 48) dX3_gain_48 rfl
theorem VX3_gain : Valid MX3_gain LX3_gain := va_lid sX3_gain_0 (va_lid sX3_gain_1 (va_lid sX3_gain_2 (va_lid sX3_gain_3 (va_lid sX3_gain_4 (va_lid sX3_gain_5 (va_lid sX3_gain_6 (va_lid sX3_gain_9 (va_lid sX3_gain_12 (va_lid sX3_gain_13 (va_lid sX3_gain_14 (va_lid sX3_gain_15 (va_lid sX3_gain_18 (va_lid sX3_gain_21 (va_lid sX3_gain_22 (va_lid sX3_gain_23 (va_lid sX3_gain_26 (va_lid sX3_gain_27 (va_lid sX3_gain_30 (va_lid sX3_gain_31 (va_lid sX3_gain_34 (va_lid sX3_gain_35 (va_lid sX3_gain_38 (va_lid sX3_gain_39 (va_lid sX3_gain_40 (va_lid sX3_gain_41 (va_lid sX3_gain_44 (va_lid sX3_gain_47 (va_lid sX3_gain_48 (va_lid0)))))))))))))))))))))))))))))
theorem kX3_gain_0 : lk LX3_gain 0 = some (xK 1 (nI 0)) := rfl
theorem kX3_gain_1 : lk LX3_gain 1 = some (xStI 2 2) := rfl
theorem kX3_gain_2 : lk LX3_gain 2 = some (xK 3 (nI 0)) := rfl
theorem kX3_gain_3 : lk LX3_gain 3 = some (xStI 4 3) := rfl
theorem kX3_gain_4 : lk LX3_gain 4 = some (xLdI 5 3) := rfl
theorem kX3_gain_5 : lk LX3_gain 5 = some (xLdA 6 0) := rfl
theorem kX3_gain_6 : lk LX3_gain 6 = some (xGf 9 3 3) := rfl
theorem kX3_gain_9 : lk LX3_gain 9 = some (xC_ge 47 12) := rfl
theorem kX3_gain_12 : lk LX3_gain 12 = some (xLdA 13 0) := rfl
theorem kX3_gain_13 : lk LX3_gain 13 = some (xLdI 14 3) := rfl
theorem kX3_gain_14 : lk LX3_gain 14 = some (xLdI 15 1) := rfl
theorem kX3_gain_15 : lk LX3_gain 15 = some (xCallV MX3_canBe 3 2 18) := rfl
theorem kX3_gain_18 : lk LX3_gain 18 = some (xZ_eq 41 21) := rfl
theorem kX3_gain_21 : lk LX3_gain 21 = some (xLdI 22 2) := rfl
theorem kX3_gain_22 : lk LX3_gain 22 = some (xLdA 23 0) := rfl
theorem kX3_gain_23 : lk LX3_gain 23 = some (xGf 26 3 10) := rfl
theorem kX3_gain_26 : lk LX3_gain 26 = some (xLdI 27 3) := rfl
theorem kX3_gain_27 : lk LX3_gain 27 = some (xCallS MX5_at 2 30) := rfl
theorem kX3_gain_30 : lk LX3_gain 30 = some (xLdA 31 0) := rfl
theorem kX3_gain_31 : lk LX3_gain 31 = some (xGf 34 3 11) := rfl
theorem kX3_gain_34 : lk LX3_gain 34 = some (xLdI 35 3) := rfl
theorem kX3_gain_35 : lk LX3_gain 35 = some (xCallS MX5_at 2 38) := rfl
theorem kX3_gain_38 : lk LX3_gain 38 = some (xBin 39 f_imul) := rfl
theorem kX3_gain_39 : lk LX3_gain 39 = some (xBin 40 f_iadd) := rfl
theorem kX3_gain_40 : lk LX3_gain 40 = some (xStI 41 2) := rfl
theorem kX3_gain_41 : lk LX3_gain 41 = some (xInc 44 3 (nI 1)) := rfl
theorem kX3_gain_44 : lk LX3_gain 44 = some (xGo 4) := rfl
theorem kX3_gain_47 : lk LX3_gain 47 = some (xLdI 48 2) := rfl
theorem kX3_gain_48 : lk LX3_gain 48 = some (xRet) := rfl
def LX3_chanceOfAll : List (Nat × XI) := [(0, xK 1 (nI 0)),
  (1, xStI 2 1),
  (2, xK 3 (nI 0)),
  (3, xStI 4 2),
  (4, xLdI 5 2),
  (5, xLdA 6 0),
  (6, xGf 9 3 3),
  (9, xC_ge 29 12),
  (12, xLdI 13 1),
  (13, xLdA 14 0),
  (14, xGf 17 3 10),
  (17, xLdI 18 2),
  (18, xCallS MX5_at 2 21),
  (21, xBin 22 f_iadd),
  (22, xStI 23 1),
  (23, xInc 26 2 (nI 1)),
  (26, xGo 4),
  (29, xLdI 30 1),
  (30, xRet)]
theorem sX3_chanceOfAll_0 : Snd MX3_chanceOfAll 0 (xK 1 (nI 0)) := snd_iconst (M := MX3_chanceOfAll) (pc := 0) dX3_chanceOfAll_0 (by decide +kernel)
theorem sX3_chanceOfAll_1 : Snd MX3_chanceOfAll 1 (xStI 2 1) := snd_istore_n (M := MX3_chanceOfAll) (pc := 1) dX3_chanceOfAll_1 (by decide)
theorem sX3_chanceOfAll_2 : Snd MX3_chanceOfAll 2 (xK 3 (nI 0)) := snd_iconst (M := MX3_chanceOfAll) (pc := 2) dX3_chanceOfAll_2 (by decide +kernel)
theorem sX3_chanceOfAll_3 : Snd MX3_chanceOfAll 3 (xStI 4 2) := snd_istore_n (M := MX3_chanceOfAll) (pc := 3) dX3_chanceOfAll_3 (by decide)
theorem sX3_chanceOfAll_4 : Snd MX3_chanceOfAll 4 (xLdI 5 2) := snd_iload_n (M := MX3_chanceOfAll) (pc := 4) dX3_chanceOfAll_4
theorem sX3_chanceOfAll_5 : Snd MX3_chanceOfAll 5 (xLdA 6 0) := snd_aload_n (M := MX3_chanceOfAll) (pc := 5) dX3_chanceOfAll_5
theorem sX3_chanceOfAll_6 : Snd MX3_chanceOfAll 6 (xGf 9 3 3) := snd_gf (M := MX3_chanceOfAll) (pc := 6) (C0 := RX3) (T0 := TX3) (N := 14) dX3_chanceOfAll_6 rfl tbX3 (by decide) w236
theorem sX3_chanceOfAll_9 : Snd MX3_chanceOfAll 9 (xC_ge 29 12) := snd_icmp_ge (M := MX3_chanceOfAll) (pc := 9) dX3_chanceOfAll_9 (by decide)
theorem sX3_chanceOfAll_12 : Snd MX3_chanceOfAll 12 (xLdI 13 1) := snd_iload_n (M := MX3_chanceOfAll) (pc := 12) dX3_chanceOfAll_12
theorem sX3_chanceOfAll_13 : Snd MX3_chanceOfAll 13 (xLdA 14 0) := snd_aload_n (M := MX3_chanceOfAll) (pc := 13) dX3_chanceOfAll_13
theorem sX3_chanceOfAll_14 : Snd MX3_chanceOfAll 14 (xGf 17 3 10) := snd_gf (M := MX3_chanceOfAll) (pc := 14) (C0 := RX3) (T0 := TX3) (N := 14) dX3_chanceOfAll_14 rfl tbX3 (by decide) w229
theorem sX3_chanceOfAll_17 : Snd MX3_chanceOfAll 17 (xLdI 18 2) := snd_iload_n (M := MX3_chanceOfAll) (pc := 17) dX3_chanceOfAll_17
theorem sX3_chanceOfAll_18 : Snd MX3_chanceOfAll 18 (xCallS MX5_at 2 21) := snd_callSN (M := MX3_chanceOfAll) (pc := 18) (n := 2) dX3_chanceOfAll_18 nt4 w123 ⟨w115, w122, ⟨by decide, by decide, by decide +kernel⟩, by decide⟩ ⟨rfl, rfl⟩
theorem sX3_chanceOfAll_21 : Snd MX3_chanceOfAll 21 (xBin 22 f_iadd) := snd_iadd (M := MX3_chanceOfAll) (pc := 21) dX3_chanceOfAll_21
theorem sX3_chanceOfAll_22 : Snd MX3_chanceOfAll 22 (xStI 23 1) := snd_istore_n (M := MX3_chanceOfAll) (pc := 22) dX3_chanceOfAll_22 (by decide)
theorem sX3_chanceOfAll_23 : Snd MX3_chanceOfAll 23 (xInc 26 2 (nI 1)) := snd_iinc (M := MX3_chanceOfAll) (pc := 23) dX3_chanceOfAll_23 (by decide +kernel) (by decide)
theorem sX3_chanceOfAll_26 : Snd MX3_chanceOfAll 26 (xGo 4) := snd_goto (M := MX3_chanceOfAll) (pc := 26) dX3_chanceOfAll_26 (by decide)
theorem sX3_chanceOfAll_29 : Snd MX3_chanceOfAll 29 (xLdI 30 1) := snd_iload_n (M := MX3_chanceOfAll) (pc := 29) dX3_chanceOfAll_29
theorem sX3_chanceOfAll_30 : Snd MX3_chanceOfAll 30 (xRet) := snd_iret (M := MX3_chanceOfAll) (pc := 30) dX3_chanceOfAll_30 rfl
theorem VX3_chanceOfAll : Valid MX3_chanceOfAll LX3_chanceOfAll := va_lid sX3_chanceOfAll_0 (va_lid sX3_chanceOfAll_1 (va_lid sX3_chanceOfAll_2 (va_lid sX3_chanceOfAll_3 (va_lid sX3_chanceOfAll_4 (va_lid sX3_chanceOfAll_5 (va_lid sX3_chanceOfAll_6 (va_lid sX3_chanceOfAll_9 (va_lid sX3_chanceOfAll_12 (va_lid sX3_chanceOfAll_13 (va_lid sX3_chanceOfAll_14 (va_lid sX3_chanceOfAll_17 (va_lid sX3_chanceOfAll_18 (va_lid sX3_chanceOfAll_21 (va_lid sX3_chanceOfAll_22 (va_lid sX3_chanceOfAll_23 (va_lid sX3_chanceOfAll_26 (va_lid sX3_chanceOfAll_29 (va_lid sX3_chanceOfAll_30 (va_lid0)))))))))))))))))))
theorem kX3_chanceOfAll_0 : lk LX3_chanceOfAll 0 = some (xK 1 (nI 0)) := rfl
theorem kX3_chanceOfAll_1 : lk LX3_chanceOfAll 1 = some (xStI 2 1) := rfl
theorem kX3_chanceOfAll_2 : lk LX3_chanceOfAll 2 = some (xK 3 (nI 0)) := rfl
theorem kX3_chanceOfAll_3 : lk LX3_chanceOfAll 3 = some (xStI 4 2) := rfl
theorem kX3_chanceOfAll_4 : lk LX3_chanceOfAll 4 = some (xLdI 5 2) := rfl
theorem kX3_chanceOfAll_5 : lk LX3_chanceOfAll 5 = some (xLdA 6 0) := rfl
theorem kX3_chanceOfAll_6 : lk LX3_chanceOfAll 6 = some (xGf 9 3 3) := rfl
theorem kX3_chanceOfAll_9 : lk LX3_chanceOfAll 9 = some (xC_ge 29 12) := rfl
theorem kX3_chanceOfAll_12 : lk LX3_chanceOfAll 12 = some (xLdI 13 1) := rfl
theorem kX3_chanceOfAll_13 : lk LX3_chanceOfAll 13 = some (xLdA 14 0) := rfl
theorem kX3_chanceOfAll_14 : lk LX3_chanceOfAll 14 = some (xGf 17 3 10) := rfl
theorem kX3_chanceOfAll_17 : lk LX3_chanceOfAll 17 = some (xLdI 18 2) := rfl
theorem kX3_chanceOfAll_18 : lk LX3_chanceOfAll 18 = some (xCallS MX5_at 2 21) := rfl
theorem kX3_chanceOfAll_21 : lk LX3_chanceOfAll 21 = some (xBin 22 f_iadd) := rfl
theorem kX3_chanceOfAll_22 : lk LX3_chanceOfAll 22 = some (xStI 23 1) := rfl
theorem kX3_chanceOfAll_23 : lk LX3_chanceOfAll 23 = some (xInc 26 2 (nI 1)) := rfl
theorem kX3_chanceOfAll_26 : lk LX3_chanceOfAll 26 = some (xGo 4) := rfl
theorem kX3_chanceOfAll_29 : lk LX3_chanceOfAll 29 = some (xLdI 30 1) := rfl
theorem kX3_chanceOfAll_30 : lk LX3_chanceOfAll 30 = some (xRet) := rfl
def LX3_linenOf : List (Nat × XI) := [(0, xK 1 (nI 0)),
  (1, xStI 2 2),
  (2, xK 3 (nI 0)),
  (3, xStI 4 3),
  (4, xLdI 5 3),
  (5, xLdA 6 0),
  (6, xGf 9 3 3),
  (9, xC_ge 42 12),
  (12, xLdI 13 1),
  (13, xLdI 14 3),
  (14, xCallS MX5_has 2 17),
  (17, xZ_eq 36 20),
  (20, xLdI 21 2),
  (21, xLdA 22 0),
  (22, xGf 25 3 13),
  (25, xLdI 26 3),
  (26, xCallS MX5_at 2 29),
  (29, xLdA 30 0),
  (30, xGf 33 3 5),
  (33, xBin 34 f_iand),
  (34, xBin 35 f_ior),
  (35, xStI 36 2),
  (36, xInc 39 3 (nI 1)),
  (39, xGo 4),
  (42, xLdI 43 2),
  (43, xRet)]
theorem sX3_linenOf_0 : Snd MX3_linenOf 0 (xK 1 (nI 0)) := snd_iconst (M := MX3_linenOf) (pc := 0) dX3_linenOf_0 (by decide +kernel)
theorem sX3_linenOf_1 : Snd MX3_linenOf 1 (xStI 2 2) := snd_istore_n (M := MX3_linenOf) (pc := 1) dX3_linenOf_1 (by decide)
theorem sX3_linenOf_2 : Snd MX3_linenOf 2 (xK 3 (nI 0)) := snd_iconst (M := MX3_linenOf) (pc := 2) dX3_linenOf_2 (by decide +kernel)
theorem sX3_linenOf_3 : Snd MX3_linenOf 3 (xStI 4 3) := snd_istore_n (M := MX3_linenOf) (pc := 3) dX3_linenOf_3 (by decide)
theorem sX3_linenOf_4 : Snd MX3_linenOf 4 (xLdI 5 3) := snd_iload_n (M := MX3_linenOf) (pc := 4) dX3_linenOf_4
theorem sX3_linenOf_5 : Snd MX3_linenOf 5 (xLdA 6 0) := snd_aload_n (M := MX3_linenOf) (pc := 5) dX3_linenOf_5
theorem sX3_linenOf_6 : Snd MX3_linenOf 6 (xGf 9 3 3) := snd_gf (M := MX3_linenOf) (pc := 6) (C0 := RX3) (T0 := TX3) (N := 14) dX3_linenOf_6 rfl tbX3 (by decide) w236
theorem sX3_linenOf_9 : Snd MX3_linenOf 9 (xC_ge 42 12) := snd_icmp_ge (M := MX3_linenOf) (pc := 9) dX3_linenOf_9 (by decide)
theorem sX3_linenOf_12 : Snd MX3_linenOf 12 (xLdI 13 1) := snd_iload_n (M := MX3_linenOf) (pc := 12) dX3_linenOf_12
theorem sX3_linenOf_13 : Snd MX3_linenOf 13 (xLdI 14 3) := snd_iload_n (M := MX3_linenOf) (pc := 13) dX3_linenOf_13
theorem sX3_linenOf_14 : Snd MX3_linenOf 14 (xCallS MX5_has 2 17) := snd_callSN (M := MX3_linenOf) (pc := 14) (n := 2) dX3_linenOf_14 nt8 w117 ⟨w115, w116, ⟨by decide, by decide, by decide +kernel⟩, by decide⟩ ⟨rfl, rfl⟩
theorem sX3_linenOf_17 : Snd MX3_linenOf 17 (xZ_eq 36 20) := snd_if_eq (M := MX3_linenOf) (pc := 17) dX3_linenOf_17 (by decide)
theorem sX3_linenOf_20 : Snd MX3_linenOf 20 (xLdI 21 2) := snd_iload_n (M := MX3_linenOf) (pc := 20) dX3_linenOf_20
theorem sX3_linenOf_21 : Snd MX3_linenOf 21 (xLdA 22 0) := snd_aload_n (M := MX3_linenOf) (pc := 21) dX3_linenOf_21
theorem sX3_linenOf_22 : Snd MX3_linenOf 22 (xGf 25 3 13) := snd_gf (M := MX3_linenOf) (pc := 22) (C0 := RX3) (T0 := TX3) (N := 14) dX3_linenOf_22 rfl tbX3 (by decide) w232
theorem sX3_linenOf_25 : Snd MX3_linenOf 25 (xLdI 26 3) := snd_iload_n (M := MX3_linenOf) (pc := 25) dX3_linenOf_25
theorem sX3_linenOf_26 : Snd MX3_linenOf 26 (xCallS MX5_at 2 29) := snd_callSN (M := MX3_linenOf) (pc := 26) (n := 2) dX3_linenOf_26 nt4 w123 ⟨w115, w122, ⟨by decide, by decide, by decide +kernel⟩, by decide⟩ ⟨rfl, rfl⟩
theorem sX3_linenOf_29 : Snd MX3_linenOf 29 (xLdA 30 0) := snd_aload_n (M := MX3_linenOf) (pc := 29) dX3_linenOf_29
theorem sX3_linenOf_30 : Snd MX3_linenOf 30 (xGf 33 3 5) := snd_gf (M := MX3_linenOf) (pc := 30) (C0 := RX3) (T0 := TX3) (N := 14) dX3_linenOf_30 rfl tbX3 (by decide) w238
theorem sX3_linenOf_33 : Snd MX3_linenOf 33 (xBin 34 f_iand) := snd_iand (M := MX3_linenOf) (pc := 33) dX3_linenOf_33
theorem sX3_linenOf_34 : Snd MX3_linenOf 34 (xBin 35 f_ior) := snd_ior (M := MX3_linenOf) (pc := 34) dX3_linenOf_34
theorem sX3_linenOf_35 : Snd MX3_linenOf 35 (xStI 36 2) := snd_istore_n (M := MX3_linenOf) (pc := 35) dX3_linenOf_35 (by decide)
theorem sX3_linenOf_36 : Snd MX3_linenOf 36 (xInc 39 3 (nI 1)) := snd_iinc (M := MX3_linenOf) (pc := 36) dX3_linenOf_36 (by decide +kernel) (by decide)
theorem sX3_linenOf_39 : Snd MX3_linenOf 39 (xGo 4) := snd_goto (M := MX3_linenOf) (pc := 39) dX3_linenOf_39 (by decide)
theorem sX3_linenOf_42 : Snd MX3_linenOf 42 (xLdI 43 2) := snd_iload_n (M := MX3_linenOf) (pc := 42) dX3_linenOf_42
theorem sX3_linenOf_43 : Snd MX3_linenOf 43 (xRet) := snd_iret (M := MX3_linenOf) (pc := 43) dX3_linenOf_43 rfl
theorem VX3_linenOf : Valid MX3_linenOf LX3_linenOf := va_lid sX3_linenOf_0 (va_lid sX3_linenOf_1 (va_lid sX3_linenOf_2 (va_lid sX3_linenOf_3 (va_lid sX3_linenOf_4 (va_lid sX3_linenOf_5 (va_lid sX3_linenOf_6 (va_lid sX3_linenOf_9 (va_lid sX3_linenOf_12 (va_lid sX3_linenOf_13 (va_lid sX3_linenOf_14 (va_lid sX3_linenOf_17 (va_lid sX3_linenOf_20 (va_lid sX3_linenOf_21 (va_lid sX3_linenOf_22 (va_lid sX3_linenOf_25 (va_lid sX3_linenOf_26 (va_lid sX3_linenOf_29 (va_lid sX3_linenOf_30 (va_lid sX3_linenOf_33 (va_lid sX3_linenOf_34 (va_lid sX3_linenOf_35 (va_lid sX3_linenOf_36 (va_lid sX3_linenOf_39 (va_lid sX3_linenOf_42 (va_lid sX3_linenOf_43 (va_lid0))))))))))))))))))))))))))
theorem kX3_linenOf_0 : lk LX3_linenOf 0 = some (xK 1 (nI 0)) := rfl
theorem kX3_linenOf_1 : lk LX3_linenOf 1 = some (xStI 2 2) := rfl
theorem kX3_linenOf_2 : lk LX3_linenOf 2 = some (xK 3 (nI 0)) := rfl
theorem kX3_linenOf_3 : lk LX3_linenOf 3 = some (xStI 4 3) := rfl
theorem kX3_linenOf_4 : lk LX3_linenOf 4 = some (xLdI 5 3) := rfl
theorem kX3_linenOf_5 : lk LX3_linenOf 5 = some (xLdA 6 0) := rfl
theorem kX3_linenOf_6 : lk LX3_linenOf 6 = some (xGf 9 3 3) := rfl
theorem kX3_linenOf_9 : lk LX3_linenOf 9 = some (xC_ge 42 12) := rfl
theorem kX3_linenOf_12 : lk LX3_linenOf 12 = some (xLdI 13 1) := rfl
theorem kX3_linenOf_13 : lk LX3_linenOf 13 = some (xLdI 14 3) := rfl
theorem kX3_linenOf_14 : lk LX3_linenOf 14 = some (xCallS MX5_has 2 17) := rfl
theorem kX3_linenOf_17 : lk LX3_linenOf 17 = some (xZ_eq 36 20) := rfl
theorem kX3_linenOf_20 : lk LX3_linenOf 20 = some (xLdI 21 2) := rfl
theorem kX3_linenOf_21 : lk LX3_linenOf 21 = some (xLdA 22 0) := rfl
theorem kX3_linenOf_22 : lk LX3_linenOf 22 = some (xGf 25 3 13) := rfl
theorem kX3_linenOf_25 : lk LX3_linenOf 25 = some (xLdI 26 3) := rfl
theorem kX3_linenOf_26 : lk LX3_linenOf 26 = some (xCallS MX5_at 2 29) := rfl
theorem kX3_linenOf_29 : lk LX3_linenOf 29 = some (xLdA 30 0) := rfl
theorem kX3_linenOf_30 : lk LX3_linenOf 30 = some (xGf 33 3 5) := rfl
theorem kX3_linenOf_33 : lk LX3_linenOf 33 = some (xBin 34 f_iand) := rfl
theorem kX3_linenOf_34 : lk LX3_linenOf 34 = some (xBin 35 f_ior) := rfl
theorem kX3_linenOf_35 : lk LX3_linenOf 35 = some (xStI 36 2) := rfl
theorem kX3_linenOf_36 : lk LX3_linenOf 36 = some (xInc 39 3 (nI 1)) := rfl
theorem kX3_linenOf_39 : lk LX3_linenOf 39 = some (xGo 4) := rfl
theorem kX3_linenOf_42 : lk LX3_linenOf 42 = some (xLdI 43 2) := rfl
theorem kX3_linenOf_43 : lk LX3_linenOf 43 = some (xRet) := rfl
def LX4_init : List (Nat × XI) := [(0, xLdA 1 0),
  (1, xObj 4),
  (4, xLdA 5 0),
  (5, xK 6 (nI 3)),
  (8, xPfR 11 4 0),
  (11, xRetV)]
theorem sX4_init_0 : Snd MX4_init 0 (xLdA 1 0) := snd_aload_n (M := MX4_init) (pc := 0) dX4_init_0
theorem sX4_init_1 : Snd MX4_init 1 (xObj 4) := snd_obj (M := MX4_init) (pc := 1) dX4_init_1 w252 w74 w75 (by decide)
theorem sX4_init_4 : Snd MX4_init 4 (xLdA 5 0) := snd_aload_n (M := MX4_init) (pc := 4) dX4_init_4
theorem sX4_init_5 : Snd MX4_init 5 (xK 6 (nI 3)) := snd_iconst (M := MX4_init) (pc := 5) dX4_init_5 (by decide +kernel)
theorem sX4_init_8 : Snd MX4_init 8 (xPfR 11 4 0) := snd_pfRF (M := MX4_init) (pc := 8) (C0 := RX4) (T0 := TX4) (N := 2) dX4_init_8 rfl tbX4 tyX4 tyX4_ok nmX4 (by decide) w253 rfl rfl rfl (tyX4_ok 0 (by decide)) (fun _ => rfl) (fun _ => rfl)
theorem sX4_init_11 : Snd MX4_init 11 (xRetV) := snd_vret (M := MX4_init) (pc := 11) dX4_init_11 rfl
theorem VX4_init : Valid MX4_init LX4_init := va_lid sX4_init_0 (va_lid sX4_init_1 (va_lid sX4_init_4 (va_lid sX4_init_5 (va_lid sX4_init_8 (va_lid sX4_init_11 (va_lid0))))))
theorem kX4_init_0 : lk LX4_init 0 = some (xLdA 1 0) := rfl
theorem kX4_init_1 : lk LX4_init 1 = some (xObj 4) := rfl
theorem kX4_init_4 : lk LX4_init 4 = some (xLdA 5 0) := rfl
theorem kX4_init_5 : lk LX4_init 5 = some (xK 6 (nI 3)) := rfl
theorem kX4_init_8 : lk LX4_init 8 = some (xPfR 11 4 0) := rfl
theorem kX4_init_11 : lk LX4_init 11 = some (xRetV) := rfl
def LX4_firstFault : List (Nat × XI) := [(0, xLdA 1 3),
  (1, xCallV MX3_begin 3 0 4),
  (4, xK 5 (nI 0)),
  (5, xStI 7 4),
  (7, xK 8 (nI 0)),
  (8, xStI 10 5),
  (10, xLdI 12 5),
  (12, xK 15 (nI 200)),
  (15, xC_ge 71 18),
  (18, xLdI 20 4),
  (20, xLdI 21 2),
  (21, xC_ge 71 24),
  (24, xLdA 25 0),
  (25, xLdA 26 1),
  (26, xLdI 27 2),
  (27, xLdI 29 4),
  (29, xK 30 (nI 1)),
  (30, xBin 31 f_iadd),
  (31, xCallV MX4_readNumbers 4 3 34),
  (34, xStI 36 6),
  (36, xLdI 38 6),
  (38, xK 40 ((-4))),
  (40, xC_eq 58 43),
  (43, xLdA 44 0),
  (44, xLdA 45 1),
  (45, xLdI 46 2),
  (46, xLdI 48 4),
  (48, xCallS MX4_letter 3 51),
  (51, xLdA 52 3),
  (52, xCallV MX4_tellItem 4 2 55),
  (55, xZ_ne 61 58),
  (58, xLdI 60 4),
  (60, xRet),
  (61, xLdI 63 6),
  (63, xStI 65 4),
  (65, xInc 68 5 (nI 1)),
  (68, xGo 10),
  (71, xK 73 ((-4))),
  (73, xRet)]
theorem sX4_firstFault_0 : Snd MX4_firstFault 0 (xLdA 1 3) := snd_aload_n (M := MX4_firstFault) (pc := 0) dX4_firstFault_0
theorem sX4_firstFault_1 : Snd MX4_firstFault 1 (xCallV MX3_begin 3 0 4) := snd_callV (M := MX4_firstFault) (pc := 1) (n := 0) dX4_firstFault_1 rfl w255 w256 w257 ⟨w83, w254, ⟨by decide, by decide, by decide +kernel⟩, by decide⟩ ⟨rfl, rfl⟩
theorem sX4_firstFault_4 : Snd MX4_firstFault 4 (xK 5 (nI 0)) := snd_iconst (M := MX4_firstFault) (pc := 4) dX4_firstFault_4 (by decide +kernel)
theorem sX4_firstFault_5 : Snd MX4_firstFault 5 (xStI 7 4) := snd_istore (M := MX4_firstFault) (pc := 5) dX4_firstFault_5 (by decide)
theorem sX4_firstFault_7 : Snd MX4_firstFault 7 (xK 8 (nI 0)) := snd_iconst (M := MX4_firstFault) (pc := 7) dX4_firstFault_7 (by decide +kernel)
theorem sX4_firstFault_8 : Snd MX4_firstFault 8 (xStI 10 5) := snd_istore (M := MX4_firstFault) (pc := 8) dX4_firstFault_8 (by decide)
theorem sX4_firstFault_10 : Snd MX4_firstFault 10 (xLdI 12 5) := snd_iload (M := MX4_firstFault) (pc := 10) dX4_firstFault_10
theorem sX4_firstFault_12 : Snd MX4_firstFault 12 (xK 15 (nI 200)) := snd_sipush (M := MX4_firstFault) (pc := 12) dX4_firstFault_12 (by decide +kernel)
theorem sX4_firstFault_15 : Snd MX4_firstFault 15 (xC_ge 71 18) := snd_icmp_ge (M := MX4_firstFault) (pc := 15) dX4_firstFault_15 (by decide)
theorem sX4_firstFault_18 : Snd MX4_firstFault 18 (xLdI 20 4) := snd_iload (M := MX4_firstFault) (pc := 18) dX4_firstFault_18
theorem sX4_firstFault_20 : Snd MX4_firstFault 20 (xLdI 21 2) := snd_iload_n (M := MX4_firstFault) (pc := 20) dX4_firstFault_20
theorem sX4_firstFault_21 : Snd MX4_firstFault 21 (xC_ge 71 24) := snd_icmp_ge (M := MX4_firstFault) (pc := 21) dX4_firstFault_21 (by decide)
theorem sX4_firstFault_24 : Snd MX4_firstFault 24 (xLdA 25 0) := snd_aload_n (M := MX4_firstFault) (pc := 24) dX4_firstFault_24
theorem sX4_firstFault_25 : Snd MX4_firstFault 25 (xLdA 26 1) := snd_aload_n (M := MX4_firstFault) (pc := 25) dX4_firstFault_25
theorem sX4_firstFault_26 : Snd MX4_firstFault 26 (xLdI 27 2) := snd_iload_n (M := MX4_firstFault) (pc := 26) dX4_firstFault_26
theorem sX4_firstFault_27 : Snd MX4_firstFault 27 (xLdI 29 4) := snd_iload (M := MX4_firstFault) (pc := 27) dX4_firstFault_27
theorem sX4_firstFault_29 : Snd MX4_firstFault 29 (xK 30 (nI 1)) := snd_iconst (M := MX4_firstFault) (pc := 29) dX4_firstFault_29 (by decide +kernel)
theorem sX4_firstFault_30 : Snd MX4_firstFault 30 (xBin 31 f_iadd) := snd_iadd (M := MX4_firstFault) (pc := 30) dX4_firstFault_30
theorem sX4_firstFault_31 : Snd MX4_firstFault 31 (xCallV MX4_readNumbers 4 3 34) := snd_callV (M := MX4_firstFault) (pc := 31) (n := 3) dX4_firstFault_31 rfl w260 w261 w262 ⟨w258, w259, ⟨by decide, by decide, by decide +kernel⟩, by decide⟩ ⟨rfl, rfl⟩
theorem sX4_firstFault_34 : Snd MX4_firstFault 34 (xStI 36 6) := snd_istore (M := MX4_firstFault) (pc := 34) dX4_firstFault_34 (by decide)
theorem sX4_firstFault_36 : Snd MX4_firstFault 36 (xLdI 38 6) := snd_iload (M := MX4_firstFault) (pc := 36) dX4_firstFault_36
theorem sX4_firstFault_38 : Snd MX4_firstFault 38 (xK 40 ((-4))) := snd_bipush (M := MX4_firstFault) (pc := 38) dX4_firstFault_38 (by decide +kernel)
theorem sX4_firstFault_40 : Snd MX4_firstFault 40 (xC_eq 58 43) := snd_icmp_eq (M := MX4_firstFault) (pc := 40) dX4_firstFault_40 (by decide)
theorem sX4_firstFault_43 : Snd MX4_firstFault 43 (xLdA 44 0) := snd_aload_n (M := MX4_firstFault) (pc := 43) dX4_firstFault_43
theorem sX4_firstFault_44 : Snd MX4_firstFault 44 (xLdA 45 1) := snd_aload_n (M := MX4_firstFault) (pc := 44) dX4_firstFault_44
theorem sX4_firstFault_45 : Snd MX4_firstFault 45 (xLdI 46 2) := snd_iload_n (M := MX4_firstFault) (pc := 45) dX4_firstFault_45
theorem sX4_firstFault_46 : Snd MX4_firstFault 46 (xLdI 48 4) := snd_iload (M := MX4_firstFault) (pc := 46) dX4_firstFault_46
theorem sX4_firstFault_48 : Snd MX4_firstFault 48 (xCallS MX4_letter 3 51) := snd_callS (M := MX4_firstFault) (pc := 48) (n := 3) dX4_firstFault_48 w264 w265 ⟨w258, w263, ⟨by decide, by decide, by decide +kernel⟩, by decide⟩ ⟨rfl, rfl⟩
theorem sX4_firstFault_51 : Snd MX4_firstFault 51 (xLdA 52 3) := snd_aload_n (M := MX4_firstFault) (pc := 51) dX4_firstFault_51
theorem sX4_firstFault_52 : Snd MX4_firstFault 52 (xCallV MX4_tellItem 4 2 55) := snd_callV (M := MX4_firstFault) (pc := 52) (n := 2) dX4_firstFault_52 rfl w267 w268 w269 ⟨w258, w266, ⟨by decide, by decide, by decide +kernel⟩, by decide⟩ ⟨rfl, rfl⟩
theorem sX4_firstFault_55 : Snd MX4_firstFault 55 (xZ_ne 61 58) := snd_if_ne (M := MX4_firstFault) (pc := 55) dX4_firstFault_55 (by decide)
theorem sX4_firstFault_58 : Snd MX4_firstFault 58 (xLdI 60 4) := snd_iload (M := MX4_firstFault) (pc := 58) dX4_firstFault_58
theorem sX4_firstFault_60 : Snd MX4_firstFault 60 (xRet) := snd_iret (M := MX4_firstFault) (pc := 60) dX4_firstFault_60 rfl
theorem sX4_firstFault_61 : Snd MX4_firstFault 61 (xLdI 63 6) := snd_iload (M := MX4_firstFault) (pc := 61) dX4_firstFault_61
theorem sX4_firstFault_63 : Snd MX4_firstFault 63 (xStI 65 4) := snd_istore (M := MX4_firstFault) (pc := 63) dX4_firstFault_63 (by decide)
theorem sX4_firstFault_65 : Snd MX4_firstFault 65 (xInc 68 5 (nI 1)) := snd_iinc (M := MX4_firstFault) (pc := 65) dX4_firstFault_65 (by decide +kernel) (by decide)
theorem sX4_firstFault_68 : Snd MX4_firstFault 68 (xGo 10) := snd_goto (M := MX4_firstFault) (pc := 68) dX4_firstFault_68 (by decide)
theorem sX4_firstFault_71 : Snd MX4_firstFault 71 (xK 73 ((-4))) := snd_bipush (M := MX4_firstFault) (pc := 71) dX4_firstFault_71 (by decide +kernel)
theorem sX4_firstFault_73 : Snd MX4_firstFault 73 (xRet) := snd_iret (M := MX4_firstFault) (pc := 73) dX4_firstFault_73 rfl
theorem VX4_firstFault : Valid MX4_firstFault LX4_firstFault := va_lid sX4_firstFault_0 (va_lid sX4_firstFault_1 (va_lid sX4_firstFault_4 (va_lid sX4_firstFault_5 (va_lid sX4_firstFault_7 (va_lid sX4_firstFault_8 (va_lid sX4_firstFault_10 (va_lid sX4_firstFault_12 (va_lid sX4_firstFault_15 (va_lid sX4_firstFault_18 (va_lid sX4_firstFault_20 (va_lid sX4_firstFault_21 (va_lid sX4_firstFault_24 (va_lid sX4_firstFault_25 (va_lid sX4_firstFault_26 (va_lid sX4_firstFault_27 (va_lid sX4_firstFault_29 (va_lid sX4_firstFault_30 (va_lid sX4_firstFault_31 (va_lid sX4_firstFault_34 (va_lid sX4_firstFault_36 (va_lid sX4_firstFault_38 (va_lid sX4_firstFault_40 (va_lid sX4_firstFault_43 (va_lid sX4_firstFault_44 (va_lid sX4_firstFault_45 (va_lid sX4_firstFault_46 (va_lid sX4_firstFault_48 (va_lid sX4_firstFault_51 (va_lid sX4_firstFault_52 (va_lid sX4_firstFault_55 (va_lid sX4_firstFault_58 (va_lid sX4_firstFault_60 (va_lid sX4_firstFault_61 (va_lid sX4_firstFault_63 (va_lid sX4_firstFault_65 (va_lid sX4_firstFault_68 (va_lid sX4_firstFault_71 (va_lid sX4_firstFault_73 (va_lid0)))))))))))))))))))))))))))))))))))))))
theorem kX4_firstFault_0 : lk LX4_firstFault 0 = some (xLdA 1 3) := rfl
theorem kX4_firstFault_1 : lk LX4_firstFault 1 = some (xCallV MX3_begin 3 0 4) := rfl
theorem kX4_firstFault_4 : lk LX4_firstFault 4 = some (xK 5 (nI 0)) := rfl
theorem kX4_firstFault_5 : lk LX4_firstFault 5 = some (xStI 7 4) := rfl
theorem kX4_firstFault_7 : lk LX4_firstFault 7 = some (xK 8 (nI 0)) := rfl
theorem kX4_firstFault_8 : lk LX4_firstFault 8 = some (xStI 10 5) := rfl
theorem kX4_firstFault_10 : lk LX4_firstFault 10 = some (xLdI 12 5) := rfl
theorem kX4_firstFault_12 : lk LX4_firstFault 12 = some (xK 15 (nI 200)) := rfl
theorem kX4_firstFault_15 : lk LX4_firstFault 15 = some (xC_ge 71 18) := rfl
theorem kX4_firstFault_18 : lk LX4_firstFault 18 = some (xLdI 20 4) := rfl
theorem kX4_firstFault_20 : lk LX4_firstFault 20 = some (xLdI 21 2) := rfl
theorem kX4_firstFault_21 : lk LX4_firstFault 21 = some (xC_ge 71 24) := rfl
theorem kX4_firstFault_24 : lk LX4_firstFault 24 = some (xLdA 25 0) := rfl
theorem kX4_firstFault_25 : lk LX4_firstFault 25 = some (xLdA 26 1) := rfl
theorem kX4_firstFault_26 : lk LX4_firstFault 26 = some (xLdI 27 2) := rfl
theorem kX4_firstFault_27 : lk LX4_firstFault 27 = some (xLdI 29 4) := rfl
theorem kX4_firstFault_29 : lk LX4_firstFault 29 = some (xK 30 (nI 1)) := rfl
theorem kX4_firstFault_30 : lk LX4_firstFault 30 = some (xBin 31 f_iadd) := rfl
theorem kX4_firstFault_31 : lk LX4_firstFault 31 = some (xCallV MX4_readNumbers 4 3 34) := rfl
theorem kX4_firstFault_34 : lk LX4_firstFault 34 = some (xStI 36 6) := rfl
theorem kX4_firstFault_36 : lk LX4_firstFault 36 = some (xLdI 38 6) := rfl
theorem kX4_firstFault_38 : lk LX4_firstFault 38 = some (xK 40 ((-4))) := rfl
theorem kX4_firstFault_40 : lk LX4_firstFault 40 = some (xC_eq 58 43) := rfl
theorem kX4_firstFault_43 : lk LX4_firstFault 43 = some (xLdA 44 0) := rfl
theorem kX4_firstFault_44 : lk LX4_firstFault 44 = some (xLdA 45 1) := rfl
theorem kX4_firstFault_45 : lk LX4_firstFault 45 = some (xLdI 46 2) := rfl
theorem kX4_firstFault_46 : lk LX4_firstFault 46 = some (xLdI 48 4) := rfl
theorem kX4_firstFault_48 : lk LX4_firstFault 48 = some (xCallS MX4_letter 3 51) := rfl
theorem kX4_firstFault_51 : lk LX4_firstFault 51 = some (xLdA 52 3) := rfl
theorem kX4_firstFault_52 : lk LX4_firstFault 52 = some (xCallV MX4_tellItem 4 2 55) := rfl
theorem kX4_firstFault_55 : lk LX4_firstFault 55 = some (xZ_ne 61 58) := rfl
theorem kX4_firstFault_58 : lk LX4_firstFault 58 = some (xLdI 60 4) := rfl
theorem kX4_firstFault_60 : lk LX4_firstFault 60 = some (xRet) := rfl
theorem kX4_firstFault_61 : lk LX4_firstFault 61 = some (xLdI 63 6) := rfl
theorem kX4_firstFault_63 : lk LX4_firstFault 63 = some (xStI 65 4) := rfl
theorem kX4_firstFault_65 : lk LX4_firstFault 65 = some (xInc 68 5 (nI 1)) := rfl
theorem kX4_firstFault_68 : lk LX4_firstFault 68 = some (xGo 10) := rfl
theorem kX4_firstFault_71 : lk LX4_firstFault 71 = some (xK 73 ((-4))) := rfl
theorem kX4_firstFault_73 : lk LX4_firstFault 73 = some (xRet) := rfl
def LX4_readNumbers : List (Nat × XI) := [(0, xLdI 1 3),
  (1, xStI 3 4),
  (3, xK 4 (nI 0)),
  (4, xStI 6 5),
  (6, xLdI 8 5),
  (8, xLdA 9 0),
  (9, xGf 12 4 0),
  (12, xAlen 13),
  (13, xC_ge 124 16),
  (16, xLdA 17 1),
  (17, xLdI 18 2),
  (18, xLdI 20 4),
  (20, xCallS MX4_figure 3 23),
  (23, xStI 25 6),
  (25, xLdI 27 6),
  (27, xK 29 ((-4))),
  (29, xC_ne 35 32),
  (32, xK 34 ((-4))),
  (34, xRet),
  (35, xInc 38 4 (nI 1)),
  (38, xLdA 39 1),
  (39, xLdI 40 2),
  (40, xLdI 42 4),
  (42, xCallS MX4_figure 3 45),
  (45, xStI 47 7),
  (47, xLdI 49 7),
  (49, xK 51 ((-4))),
  (51, xC_eq 67 54),
  (54, xK 56 (nI 10)),
  (56, xLdI 58 6),
  (58, xBin 59 f_imul),
  (59, xLdI 61 7),
  (61, xBin 62 f_iadd),
  (62, xStI 64 6),
  (64, xInc 67 4 (nI 1)),
  (67, xLdA 68 0),
  (68, xGf 71 4 0),
  (71, xLdI 73 5),
  (73, xLdI 75 6),
  (75, xCallS MX5_store 3 78),
  (78, xLdA 79 0),
  (79, xLdI 81 5),
  (81, xK 82 (nI 1)),
  (82, xBin 83 f_iadd),
  (83, xPfI 86 4 1),
  (86, xLdA 87 1),
  (87, xLdI 88 2),
  (88, xLdI 90 4),
  (90, xCallS MX4_letter 3 93),
  (93, xStI 95 8),
  (95, xInc 98 4 (nI 1)),
  (98, xLdI 100 8),
  (100, xK 102 (nI 59)),
  (102, xC_ne 108 105),
  (105, xLdI 107 4),
  (107, xRet),
  (108, xLdI 110 8),
  (110, xK 112 (nI 44)),
  (112, xC_eq 118 115),
  (115, xK 117 ((-4))),
  (117, xRet),
  (118, xInc 121 5 (nI 1)),
  (121, xGo 6),
  (124, xK 126 ((-4))),
  (126, xRet)]
theorem sX4_readNumbers_0 : Snd MX4_readNumbers 0 (xLdI 1 3) := snd_iload_n (M := MX4_readNumbers) (pc := 0) dX4_readNumbers_0
theorem sX4_readNumbers_1 : Snd MX4_readNumbers 1 (xStI 3 4) := snd_istore (M := MX4_readNumbers) (pc := 1) dX4_readNumbers_1 (by decide)
theorem sX4_readNumbers_3 : Snd MX4_readNumbers 3 (xK 4 (nI 0)) := snd_iconst (M := MX4_readNumbers) (pc := 3) dX4_readNumbers_3 (by decide +kernel)
theorem sX4_readNumbers_4 : Snd MX4_readNumbers 4 (xStI 6 5) := snd_istore (M := MX4_readNumbers) (pc := 4) dX4_readNumbers_4 (by decide)
theorem sX4_readNumbers_6 : Snd MX4_readNumbers 6 (xLdI 8 5) := snd_iload (M := MX4_readNumbers) (pc := 6) dX4_readNumbers_6
theorem sX4_readNumbers_8 : Snd MX4_readNumbers 8 (xLdA 9 0) := snd_aload_n (M := MX4_readNumbers) (pc := 8) dX4_readNumbers_8
theorem sX4_readNumbers_9 : Snd MX4_readNumbers 9 (xGf 12 4 0) := snd_gf (M := MX4_readNumbers) (pc := 9) (C0 := RX4) (T0 := TX4) (N := 2) dX4_readNumbers_9 rfl tbX4 (by decide) w253
theorem sX4_readNumbers_12 : Snd MX4_readNumbers 12 (xAlen 13) := snd_alen (M := MX4_readNumbers) (pc := 12) dX4_readNumbers_12
theorem sX4_readNumbers_13 : Snd MX4_readNumbers 13 (xC_ge 124 16) := snd_icmp_ge (M := MX4_readNumbers) (pc := 13) dX4_readNumbers_13 (by decide)
theorem sX4_readNumbers_16 : Snd MX4_readNumbers 16 (xLdA 17 1) := snd_aload_n (M := MX4_readNumbers) (pc := 16) dX4_readNumbers_16
theorem sX4_readNumbers_17 : Snd MX4_readNumbers 17 (xLdI 18 2) := snd_iload_n (M := MX4_readNumbers) (pc := 17) dX4_readNumbers_17
theorem sX4_readNumbers_18 : Snd MX4_readNumbers 18 (xLdI 20 4) := snd_iload (M := MX4_readNumbers) (pc := 18) dX4_readNumbers_18
theorem sX4_readNumbers_20 : Snd MX4_readNumbers 20 (xCallS MX4_figure 3 23) := snd_callS (M := MX4_readNumbers) (pc := 20) (n := 3) dX4_readNumbers_20 w271 w272 ⟨w258, w270, ⟨by decide, by decide, by decide +kernel⟩, by decide⟩ ⟨rfl, rfl⟩
theorem sX4_readNumbers_23 : Snd MX4_readNumbers 23 (xStI 25 6) := snd_istore (M := MX4_readNumbers) (pc := 23) dX4_readNumbers_23 (by decide)
theorem sX4_readNumbers_25 : Snd MX4_readNumbers 25 (xLdI 27 6) := snd_iload (M := MX4_readNumbers) (pc := 25) dX4_readNumbers_25
theorem sX4_readNumbers_27 : Snd MX4_readNumbers 27 (xK 29 ((-4))) := snd_bipush (M := MX4_readNumbers) (pc := 27) dX4_readNumbers_27 (by decide +kernel)
theorem sX4_readNumbers_29 : Snd MX4_readNumbers 29 (xC_ne 35 32) := snd_icmp_ne (M := MX4_readNumbers) (pc := 29) dX4_readNumbers_29 (by decide)
theorem sX4_readNumbers_32 : Snd MX4_readNumbers 32 (xK 34 ((-4))) := snd_bipush (M := MX4_readNumbers) (pc := 32) dX4_readNumbers_32 (by decide +kernel)
theorem sX4_readNumbers_34 : Snd MX4_readNumbers 34 (xRet) := snd_iret (M := MX4_readNumbers) (pc := 34) dX4_readNumbers_34 rfl
theorem sX4_readNumbers_35 : Snd MX4_readNumbers 35 (xInc 38 4 (nI 1)) := snd_iinc (M := MX4_readNumbers) (pc := 35) dX4_readNumbers_35 (by decide +kernel) (by decide)
theorem sX4_readNumbers_38 : Snd MX4_readNumbers 38 (xLdA 39 1) := snd_aload_n (M := MX4_readNumbers) (pc := 38) dX4_readNumbers_38
theorem sX4_readNumbers_39 : Snd MX4_readNumbers 39 (xLdI 40 2) := snd_iload_n (M := MX4_readNumbers) (pc := 39) dX4_readNumbers_39
theorem sX4_readNumbers_40 : Snd MX4_readNumbers 40 (xLdI 42 4) := snd_iload (M := MX4_readNumbers) (pc := 40) dX4_readNumbers_40
theorem sX4_readNumbers_42 : Snd MX4_readNumbers 42 (xCallS MX4_figure 3 45) := snd_callS (M := MX4_readNumbers) (pc := 42) (n := 3) dX4_readNumbers_42 w271 w272 ⟨w258, w270, ⟨by decide, by decide, by decide +kernel⟩, by decide⟩ ⟨rfl, rfl⟩
theorem sX4_readNumbers_45 : Snd MX4_readNumbers 45 (xStI 47 7) := snd_istore (M := MX4_readNumbers) (pc := 45) dX4_readNumbers_45 (by decide)
theorem sX4_readNumbers_47 : Snd MX4_readNumbers 47 (xLdI 49 7) := snd_iload (M := MX4_readNumbers) (pc := 47) dX4_readNumbers_47
theorem sX4_readNumbers_49 : Snd MX4_readNumbers 49 (xK 51 ((-4))) := snd_bipush (M := MX4_readNumbers) (pc := 49) dX4_readNumbers_49 (by decide +kernel)
theorem sX4_readNumbers_51 : Snd MX4_readNumbers 51 (xC_eq 67 54) := snd_icmp_eq (M := MX4_readNumbers) (pc := 51) dX4_readNumbers_51 (by decide)
theorem sX4_readNumbers_54 : Snd MX4_readNumbers 54 (xK 56 (nI 10)) := snd_bipush (M := MX4_readNumbers) (pc := 54) dX4_readNumbers_54 (by decide +kernel)
theorem sX4_readNumbers_56 : Snd MX4_readNumbers 56 (xLdI 58 6) := snd_iload (M := MX4_readNumbers) (pc := 56) dX4_readNumbers_56
theorem sX4_readNumbers_58 : Snd MX4_readNumbers 58 (xBin 59 f_imul) := snd_imul (M := MX4_readNumbers) (pc := 58) dX4_readNumbers_58
theorem sX4_readNumbers_59 : Snd MX4_readNumbers 59 (xLdI 61 7) := snd_iload (M := MX4_readNumbers) (pc := 59) dX4_readNumbers_59
theorem sX4_readNumbers_61 : Snd MX4_readNumbers 61 (xBin 62 f_iadd) := snd_iadd (M := MX4_readNumbers) (pc := 61) dX4_readNumbers_61
theorem sX4_readNumbers_62 : Snd MX4_readNumbers 62 (xStI 64 6) := snd_istore (M := MX4_readNumbers) (pc := 62) dX4_readNumbers_62 (by decide)
theorem sX4_readNumbers_64 : Snd MX4_readNumbers 64 (xInc 67 4 (nI 1)) := snd_iinc (M := MX4_readNumbers) (pc := 64) dX4_readNumbers_64 (by decide +kernel) (by decide)
theorem sX4_readNumbers_67 : Snd MX4_readNumbers 67 (xLdA 68 0) := snd_aload_n (M := MX4_readNumbers) (pc := 67) dX4_readNumbers_67
theorem sX4_readNumbers_68 : Snd MX4_readNumbers 68 (xGf 71 4 0) := snd_gf (M := MX4_readNumbers) (pc := 68) (C0 := RX4) (T0 := TX4) (N := 2) dX4_readNumbers_68 rfl tbX4 (by decide) w253
theorem sX4_readNumbers_71 : Snd MX4_readNumbers 71 (xLdI 73 5) := snd_iload (M := MX4_readNumbers) (pc := 71) dX4_readNumbers_71
theorem sX4_readNumbers_73 : Snd MX4_readNumbers 73 (xLdI 75 6) := snd_iload (M := MX4_readNumbers) (pc := 73) dX4_readNumbers_73
theorem sX4_readNumbers_75 : Snd MX4_readNumbers 75 (xCallS MX5_store 3 78) := snd_callSN (M := MX4_readNumbers) (pc := 75) (n := 3) dX4_readNumbers_75 nt0 w141 ⟨w115, w140, ⟨by decide, by decide, by decide +kernel⟩, by decide⟩ ⟨rfl, rfl⟩
theorem sX4_readNumbers_78 : Snd MX4_readNumbers 78 (xLdA 79 0) := snd_aload_n (M := MX4_readNumbers) (pc := 78) dX4_readNumbers_78
theorem sX4_readNumbers_79 : Snd MX4_readNumbers 79 (xLdI 81 5) := snd_iload (M := MX4_readNumbers) (pc := 79) dX4_readNumbers_79
theorem sX4_readNumbers_81 : Snd MX4_readNumbers 81 (xK 82 (nI 1)) := snd_iconst (M := MX4_readNumbers) (pc := 81) dX4_readNumbers_81 (by decide +kernel)
theorem sX4_readNumbers_82 : Snd MX4_readNumbers 82 (xBin 83 f_iadd) := snd_iadd (M := MX4_readNumbers) (pc := 82) dX4_readNumbers_82
theorem sX4_readNumbers_83 : Snd MX4_readNumbers 83 (xPfI 86 4 1) := snd_pfI (M := MX4_readNumbers) (pc := 83) (C0 := RX4) (T0 := TX4) (N := 2) dX4_readNumbers_83 rfl tbX4 tyX4 tyX4_ok nmX4 (by decide) w273 rfl (by decide +kernel)
theorem sX4_readNumbers_86 : Snd MX4_readNumbers 86 (xLdA 87 1) := snd_aload_n (M := MX4_readNumbers) (pc := 86) dX4_readNumbers_86
theorem sX4_readNumbers_87 : Snd MX4_readNumbers 87 (xLdI 88 2) := snd_iload_n (M := MX4_readNumbers) (pc := 87) dX4_readNumbers_87
theorem sX4_readNumbers_88 : Snd MX4_readNumbers 88 (xLdI 90 4) := snd_iload (M := MX4_readNumbers) (pc := 88) dX4_readNumbers_88
theorem sX4_readNumbers_90 : Snd MX4_readNumbers 90 (xCallS MX4_letter 3 93) := snd_callS (M := MX4_readNumbers) (pc := 90) (n := 3) dX4_readNumbers_90 w264 w265 ⟨w258, w263, ⟨by decide, by decide, by decide +kernel⟩, by decide⟩ ⟨rfl, rfl⟩
theorem sX4_readNumbers_93 : Snd MX4_readNumbers 93 (xStI 95 8) := snd_istore (M := MX4_readNumbers) (pc := 93) dX4_readNumbers_93 (by decide)
theorem sX4_readNumbers_95 : Snd MX4_readNumbers 95 (xInc 98 4 (nI 1)) := snd_iinc (M := MX4_readNumbers) (pc := 95) dX4_readNumbers_95 (by decide +kernel) (by decide)
theorem sX4_readNumbers_98 : Snd MX4_readNumbers 98 (xLdI 100 8) := snd_iload (M := MX4_readNumbers) (pc := 98) dX4_readNumbers_98
theorem sX4_readNumbers_100 : Snd MX4_readNumbers 100 (xK 102 (nI 59)) := snd_bipush (M := MX4_readNumbers) (pc := 100) dX4_readNumbers_100 (by decide +kernel)
theorem sX4_readNumbers_102 : Snd MX4_readNumbers 102 (xC_ne 108 105) := snd_icmp_ne (M := MX4_readNumbers) (pc := 102) dX4_readNumbers_102 (by decide)
theorem sX4_readNumbers_105 : Snd MX4_readNumbers 105 (xLdI 107 4) := snd_iload (M := MX4_readNumbers) (pc := 105) dX4_readNumbers_105
theorem sX4_readNumbers_107 : Snd MX4_readNumbers 107 (xRet) := snd_iret (M := MX4_readNumbers) (pc := 107) dX4_readNumbers_107 rfl
theorem sX4_readNumbers_108 : Snd MX4_readNumbers 108 (xLdI 110 8) := snd_iload (M := MX4_readNumbers) (pc := 108) dX4_readNumbers_108
theorem sX4_readNumbers_110 : Snd MX4_readNumbers 110 (xK 112 (nI 44)) := snd_bipush (M := MX4_readNumbers) (pc := 110) dX4_readNumbers_110 (by decide +kernel)
theorem sX4_readNumbers_112 : Snd MX4_readNumbers 112 (xC_eq 118 115) := snd_icmp_eq (M := MX4_readNumbers) (pc := 112) dX4_readNumbers_112 (by decide)
theorem sX4_readNumbers_115 : Snd MX4_readNumbers 115 (xK 117 ((-4))) := snd_bipush (M := MX4_readNumbers) (pc := 115) dX4_readNumbers_115 (by decide +kernel)
theorem sX4_readNumbers_117 : Snd MX4_readNumbers 117 (xRet) := snd_iret (M := MX4_readNumbers) (pc := 117) dX4_readNumbers_117 rfl
theorem sX4_readNumbers_118 : Snd MX4_readNumbers 118 (xInc 121 5 (nI 1)) := snd_iinc (M := MX4_readNumbers) (pc := 118) dX4_readNumbers_118 (by decide +kernel) (by decide)
theorem sX4_readNumbers_121 : Snd MX4_readNumbers 121 (xGo 6) := snd_goto (M := MX4_readNumbers) (pc := 121) dX4_readNumbers_121 (by decide)
theorem sX4_readNumbers_124 : Snd MX4_readNumbers 124 (xK 126 ((-4))) := snd_bipush (M := MX4_readNumbers) (pc := 124) dX4_readNumbers_124 (by decide +kernel)
theorem sX4_readNumbers_126 : Snd MX4_readNumbers 126 (xRet) := snd_iret (M := MX4_readNumbers) (pc := 126) dX4_readNumbers_126 rfl
theorem VX4_readNumbers : Valid MX4_readNumbers LX4_readNumbers := va_lid sX4_readNumbers_0 (va_lid sX4_readNumbers_1 (va_lid sX4_readNumbers_3 (va_lid sX4_readNumbers_4 (va_lid sX4_readNumbers_6 (va_lid sX4_readNumbers_8 (va_lid sX4_readNumbers_9 (va_lid sX4_readNumbers_12 (va_lid sX4_readNumbers_13 (va_lid sX4_readNumbers_16 (va_lid sX4_readNumbers_17 (va_lid sX4_readNumbers_18 (va_lid sX4_readNumbers_20 (va_lid sX4_readNumbers_23 (va_lid sX4_readNumbers_25 (va_lid sX4_readNumbers_27 (va_lid sX4_readNumbers_29 (va_lid sX4_readNumbers_32 (va_lid sX4_readNumbers_34 (va_lid sX4_readNumbers_35 (va_lid sX4_readNumbers_38 (va_lid sX4_readNumbers_39 (va_lid sX4_readNumbers_40 (va_lid sX4_readNumbers_42 (va_lid sX4_readNumbers_45 (va_lid sX4_readNumbers_47 (va_lid sX4_readNumbers_49 (va_lid sX4_readNumbers_51 (va_lid sX4_readNumbers_54 (va_lid sX4_readNumbers_56 (va_lid sX4_readNumbers_58 (va_lid sX4_readNumbers_59 (va_lid sX4_readNumbers_61 (va_lid sX4_readNumbers_62 (va_lid sX4_readNumbers_64 (va_lid sX4_readNumbers_67 (va_lid sX4_readNumbers_68 (va_lid sX4_readNumbers_71 (va_lid sX4_readNumbers_73 (va_lid sX4_readNumbers_75 (va_lid sX4_readNumbers_78 (va_lid sX4_readNumbers_79 (va_lid sX4_readNumbers_81 (va_lid sX4_readNumbers_82 (va_lid sX4_readNumbers_83 (va_lid sX4_readNumbers_86 (va_lid sX4_readNumbers_87 (va_lid sX4_readNumbers_88 (va_lid sX4_readNumbers_90 (va_lid sX4_readNumbers_93 (va_lid sX4_readNumbers_95 (va_lid sX4_readNumbers_98 (va_lid sX4_readNumbers_100 (va_lid sX4_readNumbers_102 (va_lid sX4_readNumbers_105 (va_lid sX4_readNumbers_107 (va_lid sX4_readNumbers_108 (va_lid sX4_readNumbers_110 (va_lid sX4_readNumbers_112 (va_lid sX4_readNumbers_115 (va_lid sX4_readNumbers_117 (va_lid sX4_readNumbers_118 (va_lid sX4_readNumbers_121 (va_lid sX4_readNumbers_124 (va_lid sX4_readNumbers_126 (va_lid0)))))))))))))))))))))))))))))))))))))))))))))))))))))))))))))))))
theorem kX4_readNumbers_0 : lk LX4_readNumbers 0 = some (xLdI 1 3) := rfl
theorem kX4_readNumbers_1 : lk LX4_readNumbers 1 = some (xStI 3 4) := rfl
theorem kX4_readNumbers_3 : lk LX4_readNumbers 3 = some (xK 4 (nI 0)) := rfl
theorem kX4_readNumbers_4 : lk LX4_readNumbers 4 = some (xStI 6 5) := rfl
theorem kX4_readNumbers_6 : lk LX4_readNumbers 6 = some (xLdI 8 5) := rfl
theorem kX4_readNumbers_8 : lk LX4_readNumbers 8 = some (xLdA 9 0) := rfl
theorem kX4_readNumbers_9 : lk LX4_readNumbers 9 = some (xGf 12 4 0) := rfl
theorem kX4_readNumbers_12 : lk LX4_readNumbers 12 = some (xAlen 13) := rfl
theorem kX4_readNumbers_13 : lk LX4_readNumbers 13 = some (xC_ge 124 16) := rfl
theorem kX4_readNumbers_16 : lk LX4_readNumbers 16 = some (xLdA 17 1) := rfl
theorem kX4_readNumbers_17 : lk LX4_readNumbers 17 = some (xLdI 18 2) := rfl
theorem kX4_readNumbers_18 : lk LX4_readNumbers 18 = some (xLdI 20 4) := rfl
theorem kX4_readNumbers_20 : lk LX4_readNumbers 20 = some (xCallS MX4_figure 3 23) := rfl
theorem kX4_readNumbers_23 : lk LX4_readNumbers 23 = some (xStI 25 6) := rfl
theorem kX4_readNumbers_25 : lk LX4_readNumbers 25 = some (xLdI 27 6) := rfl
theorem kX4_readNumbers_27 : lk LX4_readNumbers 27 = some (xK 29 ((-4))) := rfl
theorem kX4_readNumbers_29 : lk LX4_readNumbers 29 = some (xC_ne 35 32) := rfl
theorem kX4_readNumbers_32 : lk LX4_readNumbers 32 = some (xK 34 ((-4))) := rfl
theorem kX4_readNumbers_34 : lk LX4_readNumbers 34 = some (xRet) := rfl
theorem kX4_readNumbers_35 : lk LX4_readNumbers 35 = some (xInc 38 4 (nI 1)) := rfl
theorem kX4_readNumbers_38 : lk LX4_readNumbers 38 = some (xLdA 39 1) := rfl
theorem kX4_readNumbers_39 : lk LX4_readNumbers 39 = some (xLdI 40 2) := rfl
theorem kX4_readNumbers_40 : lk LX4_readNumbers 40 = some (xLdI 42 4) := rfl
theorem kX4_readNumbers_42 : lk LX4_readNumbers 42 = some (xCallS MX4_figure 3 45) := rfl
theorem kX4_readNumbers_45 : lk LX4_readNumbers 45 = some (xStI 47 7) := rfl
theorem kX4_readNumbers_47 : lk LX4_readNumbers 47 = some (xLdI 49 7) := rfl
theorem kX4_readNumbers_49 : lk LX4_readNumbers 49 = some (xK 51 ((-4))) := rfl
theorem kX4_readNumbers_51 : lk LX4_readNumbers 51 = some (xC_eq 67 54) := rfl
theorem kX4_readNumbers_54 : lk LX4_readNumbers 54 = some (xK 56 (nI 10)) := rfl
theorem kX4_readNumbers_56 : lk LX4_readNumbers 56 = some (xLdI 58 6) := rfl
theorem kX4_readNumbers_58 : lk LX4_readNumbers 58 = some (xBin 59 f_imul) := rfl
theorem kX4_readNumbers_59 : lk LX4_readNumbers 59 = some (xLdI 61 7) := rfl
theorem kX4_readNumbers_61 : lk LX4_readNumbers 61 = some (xBin 62 f_iadd) := rfl
theorem kX4_readNumbers_62 : lk LX4_readNumbers 62 = some (xStI 64 6) := rfl
theorem kX4_readNumbers_64 : lk LX4_readNumbers 64 = some (xInc 67 4 (nI 1)) := rfl
theorem kX4_readNumbers_67 : lk LX4_readNumbers 67 = some (xLdA 68 0) := rfl
theorem kX4_readNumbers_68 : lk LX4_readNumbers 68 = some (xGf 71 4 0) := rfl
theorem kX4_readNumbers_71 : lk LX4_readNumbers 71 = some (xLdI 73 5) := rfl
theorem kX4_readNumbers_73 : lk LX4_readNumbers 73 = some (xLdI 75 6) := rfl
theorem kX4_readNumbers_75 : lk LX4_readNumbers 75 = some (xCallS MX5_store 3 78) := rfl
theorem kX4_readNumbers_78 : lk LX4_readNumbers 78 = some (xLdA 79 0) := rfl
theorem kX4_readNumbers_79 : lk LX4_readNumbers 79 = some (xLdI 81 5) := rfl
theorem kX4_readNumbers_81 : lk LX4_readNumbers 81 = some (xK 82 (nI 1)) := rfl
theorem kX4_readNumbers_82 : lk LX4_readNumbers 82 = some (xBin 83 f_iadd) := rfl
theorem kX4_readNumbers_83 : lk LX4_readNumbers 83 = some (xPfI 86 4 1) := rfl
theorem kX4_readNumbers_86 : lk LX4_readNumbers 86 = some (xLdA 87 1) := rfl
theorem kX4_readNumbers_87 : lk LX4_readNumbers 87 = some (xLdI 88 2) := rfl
theorem kX4_readNumbers_88 : lk LX4_readNumbers 88 = some (xLdI 90 4) := rfl
theorem kX4_readNumbers_90 : lk LX4_readNumbers 90 = some (xCallS MX4_letter 3 93) := rfl
theorem kX4_readNumbers_93 : lk LX4_readNumbers 93 = some (xStI 95 8) := rfl
theorem kX4_readNumbers_95 : lk LX4_readNumbers 95 = some (xInc 98 4 (nI 1)) := rfl
theorem kX4_readNumbers_98 : lk LX4_readNumbers 98 = some (xLdI 100 8) := rfl
theorem kX4_readNumbers_100 : lk LX4_readNumbers 100 = some (xK 102 (nI 59)) := rfl
theorem kX4_readNumbers_102 : lk LX4_readNumbers 102 = some (xC_ne 108 105) := rfl
theorem kX4_readNumbers_105 : lk LX4_readNumbers 105 = some (xLdI 107 4) := rfl
theorem kX4_readNumbers_107 : lk LX4_readNumbers 107 = some (xRet) := rfl
theorem kX4_readNumbers_108 : lk LX4_readNumbers 108 = some (xLdI 110 8) := rfl
theorem kX4_readNumbers_110 : lk LX4_readNumbers 110 = some (xK 112 (nI 44)) := rfl
theorem kX4_readNumbers_112 : lk LX4_readNumbers 112 = some (xC_eq 118 115) := rfl
theorem kX4_readNumbers_115 : lk LX4_readNumbers 115 = some (xK 117 ((-4))) := rfl
theorem kX4_readNumbers_117 : lk LX4_readNumbers 117 = some (xRet) := rfl
theorem kX4_readNumbers_118 : lk LX4_readNumbers 118 = some (xInc 121 5 (nI 1)) := rfl
theorem kX4_readNumbers_121 : lk LX4_readNumbers 121 = some (xGo 6) := rfl
theorem kX4_readNumbers_124 : lk LX4_readNumbers 124 = some (xK 126 ((-4))) := rfl
theorem kX4_readNumbers_126 : lk LX4_readNumbers 126 = some (xRet) := rfl
def LX4_tellItem : List (Nat × XI) := [(0, xLdA 1 0),
  (1, xGf 4 4 0),
  (4, xK 5 (nI 0)),
  (5, xCallS MX5_at 2 8),
  (8, xStI 9 3),
  (9, xLdA 10 0),
  (10, xGf 13 4 0),
  (13, xK 14 (nI 1)),
  (14, xCallS MX5_at 2 17),
  (17, xStI 19 4),
  (19, xLdA 20 0),
  (20, xGf 23 4 0),
  (23, xK 24 (nI 2)),
  (24, xCallS MX5_at 2 27),
  (27, xStI 29 5),
  (29, xLdI 30 1),
  (30, xTsw 180 108 [130, 180, 156, 180, 180, 180, 80, 180, 104]),
  (80, xLdA 81 0),
  (81, xGf 84 4 1),
  (84, xK 85 (nI 2)),
  (85, xC_ne 102 88),
  (88, xLdA 89 2),
  (89, xLdI 90 3),
  (90, xLdI 92 4),
  (92, xCallV MX3_tellRoom 3 2 95),
  (95, xZ_eq 102 98),
  (98, xK 99 (nI 1)),
  (99, xGo 103),
  (102, xK 103 (nI 0)),
  (103, xRetZ),
  (104, xLdA 105 0),
  (105, xGf 108 4 1),
  (108, xK 109 (nI 3)),
  (109, xC_ne 128 112),
  (112, xLdA 113 2),
  (113, xLdI 114 3),
  (114, xLdI 116 4),
  (116, xLdI 118 5),
  (118, xCallV MX3_tellThing 3 3 121),
  (121, xZ_eq 128 124),
  (124, xK 125 (nI 1)),
  (125, xGo 129),
  (128, xK 129 (nI 0)),
  (129, xRetZ),
  (130, xLdA 131 0),
  (131, xGf 134 4 1),
  (134, xK 135 (nI 3)),
  (135, xC_ne 154 138),
  (138, xLdA 139 2),
  (139, xLdI 140 3),
  (140, xLdI 142 4),
  (142, xLdI 144 5),
  (144, xCallV MX3_tellLife 3 3 147),
  (147, xZ_eq 154 150),
  (150, xK 151 (nI 1)),
  (151, xGo 155),
  (154, xK 155 (nI 0)),
  (155, xRetZ),
  (156, xLdA 157 0),
  (157, xGf 160 4 1),
  (160, xK 161 (nI 2)),
  (161, xC_ne 178 164),
  (164, xLdA 165 2),
  (165, xLdI 166 3),
  (166, xLdI 168 4),
  (168, xCallV MX3_tellNeed 3 2 171),
  (171, xZ_eq 178 174),
  (174, xK 175 (nI 1)),
  (175, xGo 179),
  (178, xK 179 (nI 0)),
  (179, xRetZ),
  (180, xK 181 (nI 0)),
  (181, xRetZ)]
theorem sX4_tellItem_0 : Snd MX4_tellItem 0 (xLdA 1 0) := snd_aload_n (M := MX4_tellItem) (pc := 0) dX4_tellItem_0
theorem sX4_tellItem_1 : Snd MX4_tellItem 1 (xGf 4 4 0) := snd_gf (M := MX4_tellItem) (pc := 1) (C0 := RX4) (T0 := TX4) (N := 2) dX4_tellItem_1 rfl tbX4 (by decide) w253
theorem sX4_tellItem_4 : Snd MX4_tellItem 4 (xK 5 (nI 0)) := snd_iconst (M := MX4_tellItem) (pc := 4) dX4_tellItem_4 (by decide +kernel)
theorem sX4_tellItem_5 : Snd MX4_tellItem 5 (xCallS MX5_at 2 8) := snd_callSN (M := MX4_tellItem) (pc := 5) (n := 2) dX4_tellItem_5 nt1 w123 ⟨w115, w122, ⟨by decide, by decide, by decide +kernel⟩, by decide⟩ ⟨rfl, rfl⟩
theorem sX4_tellItem_8 : Snd MX4_tellItem 8 (xStI 9 3) := snd_istore_n (M := MX4_tellItem) (pc := 8) dX4_tellItem_8 (by decide)
theorem sX4_tellItem_9 : Snd MX4_tellItem 9 (xLdA 10 0) := snd_aload_n (M := MX4_tellItem) (pc := 9) dX4_tellItem_9
theorem sX4_tellItem_10 : Snd MX4_tellItem 10 (xGf 13 4 0) := snd_gf (M := MX4_tellItem) (pc := 10) (C0 := RX4) (T0 := TX4) (N := 2) dX4_tellItem_10 rfl tbX4 (by decide) w253
theorem sX4_tellItem_13 : Snd MX4_tellItem 13 (xK 14 (nI 1)) := snd_iconst (M := MX4_tellItem) (pc := 13) dX4_tellItem_13 (by decide +kernel)
theorem sX4_tellItem_14 : Snd MX4_tellItem 14 (xCallS MX5_at 2 17) := snd_callSN (M := MX4_tellItem) (pc := 14) (n := 2) dX4_tellItem_14 nt1 w123 ⟨w115, w122, ⟨by decide, by decide, by decide +kernel⟩, by decide⟩ ⟨rfl, rfl⟩
theorem sX4_tellItem_17 : Snd MX4_tellItem 17 (xStI 19 4) := snd_istore (M := MX4_tellItem) (pc := 17) dX4_tellItem_17 (by decide)
theorem sX4_tellItem_19 : Snd MX4_tellItem 19 (xLdA 20 0) := snd_aload_n (M := MX4_tellItem) (pc := 19) dX4_tellItem_19
theorem sX4_tellItem_20 : Snd MX4_tellItem 20 (xGf 23 4 0) := snd_gf (M := MX4_tellItem) (pc := 20) (C0 := RX4) (T0 := TX4) (N := 2) dX4_tellItem_20 rfl tbX4 (by decide) w253
theorem sX4_tellItem_23 : Snd MX4_tellItem 23 (xK 24 (nI 2)) := snd_iconst (M := MX4_tellItem) (pc := 23) dX4_tellItem_23 (by decide +kernel)
theorem sX4_tellItem_24 : Snd MX4_tellItem 24 (xCallS MX5_at 2 27) := snd_callSN (M := MX4_tellItem) (pc := 24) (n := 2) dX4_tellItem_24 nt1 w123 ⟨w115, w122, ⟨by decide, by decide, by decide +kernel⟩, by decide⟩ ⟨rfl, rfl⟩
theorem sX4_tellItem_27 : Snd MX4_tellItem 27 (xStI 29 5) := snd_istore (M := MX4_tellItem) (pc := 27) dX4_tellItem_27 (by decide)
theorem sX4_tellItem_29 : Snd MX4_tellItem 29 (xLdI 30 1) := snd_iload_n (M := MX4_tellItem) (pc := 29) dX4_tellItem_29
theorem sX4_tellItem_30 : Snd MX4_tellItem 30 (xTsw 180 108 [130, 180, 156, 180, 180, 180, 80, 180, 104]) := snd_tsw (M := MX4_tellItem) (pc := 30) dX4_tellItem_30 rfl (by decide) (by decide) (by decide) (by decide +kernel)
theorem sX4_tellItem_80 : Snd MX4_tellItem 80 (xLdA 81 0) := snd_aload_n (M := MX4_tellItem) (pc := 80) dX4_tellItem_80
theorem sX4_tellItem_81 : Snd MX4_tellItem 81 (xGf 84 4 1) := snd_gf (M := MX4_tellItem) (pc := 81) (C0 := RX4) (T0 := TX4) (N := 2) dX4_tellItem_81 rfl tbX4 (by decide) w273
theorem sX4_tellItem_84 : Snd MX4_tellItem 84 (xK 85 (nI 2)) := snd_iconst (M := MX4_tellItem) (pc := 84) dX4_tellItem_84 (by decide +kernel)
theorem sX4_tellItem_85 : Snd MX4_tellItem 85 (xC_ne 102 88) := snd_icmp_ne (M := MX4_tellItem) (pc := 85) dX4_tellItem_85 (by decide)
theorem sX4_tellItem_88 : Snd MX4_tellItem 88 (xLdA 89 2) := snd_aload_n (M := MX4_tellItem) (pc := 88) dX4_tellItem_88
theorem sX4_tellItem_89 : Snd MX4_tellItem 89 (xLdI 90 3) := snd_iload_n (M := MX4_tellItem) (pc := 89) dX4_tellItem_89
theorem sX4_tellItem_90 : Snd MX4_tellItem 90 (xLdI 92 4) := snd_iload (M := MX4_tellItem) (pc := 90) dX4_tellItem_90
theorem sX4_tellItem_92 : Snd MX4_tellItem 92 (xCallV MX3_tellRoom 3 2 95) := snd_callV (M := MX4_tellItem) (pc := 92) (n := 2) dX4_tellItem_92 rfl w275 w276 w277 ⟨w83, w274, ⟨by decide, by decide, by decide +kernel⟩, by decide⟩ ⟨rfl, rfl⟩
theorem sX4_tellItem_95 : Snd MX4_tellItem 95 (xZ_eq 102 98) := snd_if_eq (M := MX4_tellItem) (pc := 95) dX4_tellItem_95 (by decide)
theorem sX4_tellItem_98 : Snd MX4_tellItem 98 (xK 99 (nI 1)) := snd_iconst (M := MX4_tellItem) (pc := 98) dX4_tellItem_98 (by decide +kernel)
theorem sX4_tellItem_99 : Snd MX4_tellItem 99 (xGo 103) := snd_goto (M := MX4_tellItem) (pc := 99) dX4_tellItem_99 (by decide)
theorem sX4_tellItem_102 : Snd MX4_tellItem 102 (xK 103 (nI 0)) := snd_iconst (M := MX4_tellItem) (pc := 102) dX4_tellItem_102 (by decide +kernel)
theorem sX4_tellItem_103 : Snd MX4_tellItem 103 (xRetZ) := snd_zret (M := MX4_tellItem) (pc := 103) dX4_tellItem_103 rfl
theorem sX4_tellItem_104 : Snd MX4_tellItem 104 (xLdA 105 0) := snd_aload_n (M := MX4_tellItem) (pc := 104) dX4_tellItem_104
theorem sX4_tellItem_105 : Snd MX4_tellItem 105 (xGf 108 4 1) := snd_gf (M := MX4_tellItem) (pc := 105) (C0 := RX4) (T0 := TX4) (N := 2) dX4_tellItem_105 rfl tbX4 (by decide) w273
theorem sX4_tellItem_108 : Snd MX4_tellItem 108 (xK 109 (nI 3)) := snd_iconst (M := MX4_tellItem) (pc := 108) dX4_tellItem_108 (by decide +kernel)
theorem sX4_tellItem_109 : Snd MX4_tellItem 109 (xC_ne 128 112) := snd_icmp_ne (M := MX4_tellItem) (pc := 109) dX4_tellItem_109 (by decide)
theorem sX4_tellItem_112 : Snd MX4_tellItem 112 (xLdA 113 2) := snd_aload_n (M := MX4_tellItem) (pc := 112) dX4_tellItem_112
theorem sX4_tellItem_113 : Snd MX4_tellItem 113 (xLdI 114 3) := snd_iload_n (M := MX4_tellItem) (pc := 113) dX4_tellItem_113
theorem sX4_tellItem_114 : Snd MX4_tellItem 114 (xLdI 116 4) := snd_iload (M := MX4_tellItem) (pc := 114) dX4_tellItem_114
theorem sX4_tellItem_116 : Snd MX4_tellItem 116 (xLdI 118 5) := snd_iload (M := MX4_tellItem) (pc := 116) dX4_tellItem_116
theorem sX4_tellItem_118 : Snd MX4_tellItem 118 (xCallV MX3_tellThing 3 3 121) := snd_callV (M := MX4_tellItem) (pc := 118) (n := 3) dX4_tellItem_118 rfl w279 w280 w281 ⟨w83, w278, ⟨by decide, by decide, by decide +kernel⟩, by decide⟩ ⟨rfl, rfl⟩
theorem sX4_tellItem_121 : Snd MX4_tellItem 121 (xZ_eq 128 124) := snd_if_eq (M := MX4_tellItem) (pc := 121) dX4_tellItem_121 (by decide)
theorem sX4_tellItem_124 : Snd MX4_tellItem 124 (xK 125 (nI 1)) := snd_iconst (M := MX4_tellItem) (pc := 124) dX4_tellItem_124 (by decide +kernel)
theorem sX4_tellItem_125 : Snd MX4_tellItem 125 (xGo 129) := snd_goto (M := MX4_tellItem) (pc := 125) dX4_tellItem_125 (by decide)
theorem sX4_tellItem_128 : Snd MX4_tellItem 128 (xK 129 (nI 0)) := snd_iconst (M := MX4_tellItem) (pc := 128) dX4_tellItem_128 (by decide +kernel)
theorem sX4_tellItem_129 : Snd MX4_tellItem 129 (xRetZ) := snd_zret (M := MX4_tellItem) (pc := 129) dX4_tellItem_129 rfl
theorem sX4_tellItem_130 : Snd MX4_tellItem 130 (xLdA 131 0) := snd_aload_n (M := MX4_tellItem) (pc := 130) dX4_tellItem_130
theorem sX4_tellItem_131 : Snd MX4_tellItem 131 (xGf 134 4 1) := snd_gf (M := MX4_tellItem) (pc := 131) (C0 := RX4) (T0 := TX4) (N := 2) dX4_tellItem_131 rfl tbX4 (by decide) w273
theorem sX4_tellItem_134 : Snd MX4_tellItem 134 (xK 135 (nI 3)) := snd_iconst (M := MX4_tellItem) (pc := 134) dX4_tellItem_134 (by decide +kernel)
theorem sX4_tellItem_135 : Snd MX4_tellItem 135 (xC_ne 154 138) := snd_icmp_ne (M := MX4_tellItem) (pc := 135) dX4_tellItem_135 (by decide)
theorem sX4_tellItem_138 : Snd MX4_tellItem 138 (xLdA 139 2) := snd_aload_n (M := MX4_tellItem) (pc := 138) dX4_tellItem_138
theorem sX4_tellItem_139 : Snd MX4_tellItem 139 (xLdI 140 3) := snd_iload_n (M := MX4_tellItem) (pc := 139) dX4_tellItem_139
theorem sX4_tellItem_140 : Snd MX4_tellItem 140 (xLdI 142 4) := snd_iload (M := MX4_tellItem) (pc := 140) dX4_tellItem_140
theorem sX4_tellItem_142 : Snd MX4_tellItem 142 (xLdI 144 5) := snd_iload (M := MX4_tellItem) (pc := 142) dX4_tellItem_142
theorem sX4_tellItem_144 : Snd MX4_tellItem 144 (xCallV MX3_tellLife 3 3 147) := snd_callV (M := MX4_tellItem) (pc := 144) (n := 3) dX4_tellItem_144 rfl w283 w284 w285 ⟨w83, w282, ⟨by decide, by decide, by decide +kernel⟩, by decide⟩ ⟨rfl, rfl⟩
theorem sX4_tellItem_147 : Snd MX4_tellItem 147 (xZ_eq 154 150) := snd_if_eq (M := MX4_tellItem) (pc := 147) dX4_tellItem_147 (by decide)
theorem sX4_tellItem_150 : Snd MX4_tellItem 150 (xK 151 (nI 1)) := snd_iconst (M := MX4_tellItem) (pc := 150) dX4_tellItem_150 (by decide +kernel)
theorem sX4_tellItem_151 : Snd MX4_tellItem 151 (xGo 155) := snd_goto (M := MX4_tellItem) (pc := 151) dX4_tellItem_151 (by decide)
theorem sX4_tellItem_154 : Snd MX4_tellItem 154 (xK 155 (nI 0)) := snd_iconst (M := MX4_tellItem) (pc := 154) dX4_tellItem_154 (by decide +kernel)
theorem sX4_tellItem_155 : Snd MX4_tellItem 155 (xRetZ) := snd_zret (M := MX4_tellItem) (pc := 155) dX4_tellItem_155 rfl
theorem sX4_tellItem_156 : Snd MX4_tellItem 156 (xLdA 157 0) := snd_aload_n (M := MX4_tellItem) (pc := 156) dX4_tellItem_156
theorem sX4_tellItem_157 : Snd MX4_tellItem 157 (xGf 160 4 1) := snd_gf (M := MX4_tellItem) (pc := 157) (C0 := RX4) (T0 := TX4) (N := 2) dX4_tellItem_157 rfl tbX4 (by decide) w273
theorem sX4_tellItem_160 : Snd MX4_tellItem 160 (xK 161 (nI 2)) := snd_iconst (M := MX4_tellItem) (pc := 160) dX4_tellItem_160 (by decide +kernel)
theorem sX4_tellItem_161 : Snd MX4_tellItem 161 (xC_ne 178 164) := snd_icmp_ne (M := MX4_tellItem) (pc := 161) dX4_tellItem_161 (by decide)
theorem sX4_tellItem_164 : Snd MX4_tellItem 164 (xLdA 165 2) := snd_aload_n (M := MX4_tellItem) (pc := 164) dX4_tellItem_164
theorem sX4_tellItem_165 : Snd MX4_tellItem 165 (xLdI 166 3) := snd_iload_n (M := MX4_tellItem) (pc := 165) dX4_tellItem_165
theorem sX4_tellItem_166 : Snd MX4_tellItem 166 (xLdI 168 4) := snd_iload (M := MX4_tellItem) (pc := 166) dX4_tellItem_166
theorem sX4_tellItem_168 : Snd MX4_tellItem 168 (xCallV MX3_tellNeed 3 2 171) := snd_callV (M := MX4_tellItem) (pc := 168) (n := 2) dX4_tellItem_168 rfl w287 w288 w289 ⟨w83, w286, ⟨by decide, by decide, by decide +kernel⟩, by decide⟩ ⟨rfl, rfl⟩
theorem sX4_tellItem_171 : Snd MX4_tellItem 171 (xZ_eq 178 174) := snd_if_eq (M := MX4_tellItem) (pc := 171) dX4_tellItem_171 (by decide)
theorem sX4_tellItem_174 : Snd MX4_tellItem 174 (xK 175 (nI 1)) := snd_iconst (M := MX4_tellItem) (pc := 174) dX4_tellItem_174 (by decide +kernel)
theorem sX4_tellItem_175 : Snd MX4_tellItem 175 (xGo 179) := snd_goto (M := MX4_tellItem) (pc := 175) dX4_tellItem_175 (by decide)
theorem sX4_tellItem_178 : Snd MX4_tellItem 178 (xK 179 (nI 0)) := snd_iconst (M := MX4_tellItem) (pc := 178) dX4_tellItem_178 (by decide +kernel)
theorem sX4_tellItem_179 : Snd MX4_tellItem 179 (xRetZ) := snd_zret (M := MX4_tellItem) (pc := 179) dX4_tellItem_179 rfl
theorem sX4_tellItem_180 : Snd MX4_tellItem 180 (xK 181 (nI 0)) := snd_iconst (M := MX4_tellItem) (pc := 180) dX4_tellItem_180 (by decide +kernel)
theorem sX4_tellItem_181 : Snd MX4_tellItem 181 (xRetZ) := snd_zret (M := MX4_tellItem) (pc := 181) dX4_tellItem_181 rfl
theorem VX4_tellItem : Valid MX4_tellItem LX4_tellItem := va_lid sX4_tellItem_0 (va_lid sX4_tellItem_1 (va_lid sX4_tellItem_4 (va_lid sX4_tellItem_5 (va_lid sX4_tellItem_8 (va_lid sX4_tellItem_9 (va_lid sX4_tellItem_10 (va_lid sX4_tellItem_13 (va_lid sX4_tellItem_14 (va_lid sX4_tellItem_17 (va_lid sX4_tellItem_19 (va_lid sX4_tellItem_20 (va_lid sX4_tellItem_23 (va_lid sX4_tellItem_24 (va_lid sX4_tellItem_27 (va_lid sX4_tellItem_29 (va_lid sX4_tellItem_30 (va_lid sX4_tellItem_80 (va_lid sX4_tellItem_81 (va_lid sX4_tellItem_84 (va_lid sX4_tellItem_85 (va_lid sX4_tellItem_88 (va_lid sX4_tellItem_89 (va_lid sX4_tellItem_90 (va_lid sX4_tellItem_92 (va_lid sX4_tellItem_95 (va_lid sX4_tellItem_98 (va_lid sX4_tellItem_99 (va_lid sX4_tellItem_102 (va_lid sX4_tellItem_103 (va_lid sX4_tellItem_104 (va_lid sX4_tellItem_105 (va_lid sX4_tellItem_108 (va_lid sX4_tellItem_109 (va_lid sX4_tellItem_112 (va_lid sX4_tellItem_113 (va_lid sX4_tellItem_114 (va_lid sX4_tellItem_116 (va_lid sX4_tellItem_118 (va_lid sX4_tellItem_121 (va_lid sX4_tellItem_124 (va_lid sX4_tellItem_125 (va_lid sX4_tellItem_128 (va_lid sX4_tellItem_129 (va_lid sX4_tellItem_130 (va_lid sX4_tellItem_131 (va_lid sX4_tellItem_134 (va_lid sX4_tellItem_135 (va_lid sX4_tellItem_138 (va_lid sX4_tellItem_139 (va_lid sX4_tellItem_140 (va_lid sX4_tellItem_142 (va_lid sX4_tellItem_144 (va_lid sX4_tellItem_147 (va_lid sX4_tellItem_150 (va_lid sX4_tellItem_151 (va_lid sX4_tellItem_154 (va_lid sX4_tellItem_155 (va_lid sX4_tellItem_156 (va_lid sX4_tellItem_157 (va_lid sX4_tellItem_160 (va_lid sX4_tellItem_161 (va_lid sX4_tellItem_164 (va_lid sX4_tellItem_165 (va_lid sX4_tellItem_166 (va_lid sX4_tellItem_168 (va_lid sX4_tellItem_171 (va_lid sX4_tellItem_174 (va_lid sX4_tellItem_175 (va_lid sX4_tellItem_178 (va_lid sX4_tellItem_179 (va_lid sX4_tellItem_180 (va_lid sX4_tellItem_181 (va_lid0)))))))))))))))))))))))))))))))))))))))))))))))))))))))))))))))))))))))))
theorem kX4_tellItem_0 : lk LX4_tellItem 0 = some (xLdA 1 0) := rfl
theorem kX4_tellItem_1 : lk LX4_tellItem 1 = some (xGf 4 4 0) := rfl
theorem kX4_tellItem_4 : lk LX4_tellItem 4 = some (xK 5 (nI 0)) := rfl
theorem kX4_tellItem_5 : lk LX4_tellItem 5 = some (xCallS MX5_at 2 8) := rfl
theorem kX4_tellItem_8 : lk LX4_tellItem 8 = some (xStI 9 3) := rfl
theorem kX4_tellItem_9 : lk LX4_tellItem 9 = some (xLdA 10 0) := rfl
theorem kX4_tellItem_10 : lk LX4_tellItem 10 = some (xGf 13 4 0) := rfl
theorem kX4_tellItem_13 : lk LX4_tellItem 13 = some (xK 14 (nI 1)) := rfl
theorem kX4_tellItem_14 : lk LX4_tellItem 14 = some (xCallS MX5_at 2 17) := rfl
theorem kX4_tellItem_17 : lk LX4_tellItem 17 = some (xStI 19 4) := rfl
theorem kX4_tellItem_19 : lk LX4_tellItem 19 = some (xLdA 20 0) := rfl
theorem kX4_tellItem_20 : lk LX4_tellItem 20 = some (xGf 23 4 0) := rfl
theorem kX4_tellItem_23 : lk LX4_tellItem 23 = some (xK 24 (nI 2)) := rfl
theorem kX4_tellItem_24 : lk LX4_tellItem 24 = some (xCallS MX5_at 2 27) := rfl
theorem kX4_tellItem_27 : lk LX4_tellItem 27 = some (xStI 29 5) := rfl
theorem kX4_tellItem_29 : lk LX4_tellItem 29 = some (xLdI 30 1) := rfl
theorem kX4_tellItem_30 : lk LX4_tellItem 30 = some (xTsw 180 108 [130, 180, 156, 180, 180, 180, 80, 180, 104]) := rfl
theorem kX4_tellItem_80 : lk LX4_tellItem 80 = some (xLdA 81 0) := rfl
theorem kX4_tellItem_81 : lk LX4_tellItem 81 = some (xGf 84 4 1) := rfl
theorem kX4_tellItem_84 : lk LX4_tellItem 84 = some (xK 85 (nI 2)) := rfl
theorem kX4_tellItem_85 : lk LX4_tellItem 85 = some (xC_ne 102 88) := rfl
theorem kX4_tellItem_88 : lk LX4_tellItem 88 = some (xLdA 89 2) := rfl
theorem kX4_tellItem_89 : lk LX4_tellItem 89 = some (xLdI 90 3) := rfl
theorem kX4_tellItem_90 : lk LX4_tellItem 90 = some (xLdI 92 4) := rfl
theorem kX4_tellItem_92 : lk LX4_tellItem 92 = some (xCallV MX3_tellRoom 3 2 95) := rfl
theorem kX4_tellItem_95 : lk LX4_tellItem 95 = some (xZ_eq 102 98) := rfl
theorem kX4_tellItem_98 : lk LX4_tellItem 98 = some (xK 99 (nI 1)) := rfl
theorem kX4_tellItem_99 : lk LX4_tellItem 99 = some (xGo 103) := rfl
theorem kX4_tellItem_102 : lk LX4_tellItem 102 = some (xK 103 (nI 0)) := rfl
theorem kX4_tellItem_103 : lk LX4_tellItem 103 = some (xRetZ) := rfl
theorem kX4_tellItem_104 : lk LX4_tellItem 104 = some (xLdA 105 0) := rfl
theorem kX4_tellItem_105 : lk LX4_tellItem 105 = some (xGf 108 4 1) := rfl
theorem kX4_tellItem_108 : lk LX4_tellItem 108 = some (xK 109 (nI 3)) := rfl
theorem kX4_tellItem_109 : lk LX4_tellItem 109 = some (xC_ne 128 112) := rfl
theorem kX4_tellItem_112 : lk LX4_tellItem 112 = some (xLdA 113 2) := rfl
theorem kX4_tellItem_113 : lk LX4_tellItem 113 = some (xLdI 114 3) := rfl
theorem kX4_tellItem_114 : lk LX4_tellItem 114 = some (xLdI 116 4) := rfl
theorem kX4_tellItem_116 : lk LX4_tellItem 116 = some (xLdI 118 5) := rfl
theorem kX4_tellItem_118 : lk LX4_tellItem 118 = some (xCallV MX3_tellThing 3 3 121) := rfl
theorem kX4_tellItem_121 : lk LX4_tellItem 121 = some (xZ_eq 128 124) := rfl
theorem kX4_tellItem_124 : lk LX4_tellItem 124 = some (xK 125 (nI 1)) := rfl
theorem kX4_tellItem_125 : lk LX4_tellItem 125 = some (xGo 129) := rfl
theorem kX4_tellItem_128 : lk LX4_tellItem 128 = some (xK 129 (nI 0)) := rfl
theorem kX4_tellItem_129 : lk LX4_tellItem 129 = some (xRetZ) := rfl
theorem kX4_tellItem_130 : lk LX4_tellItem 130 = some (xLdA 131 0) := rfl
theorem kX4_tellItem_131 : lk LX4_tellItem 131 = some (xGf 134 4 1) := rfl
theorem kX4_tellItem_134 : lk LX4_tellItem 134 = some (xK 135 (nI 3)) := rfl
theorem kX4_tellItem_135 : lk LX4_tellItem 135 = some (xC_ne 154 138) := rfl
theorem kX4_tellItem_138 : lk LX4_tellItem 138 = some (xLdA 139 2) := rfl
theorem kX4_tellItem_139 : lk LX4_tellItem 139 = some (xLdI 140 3) := rfl
theorem kX4_tellItem_140 : lk LX4_tellItem 140 = some (xLdI 142 4) := rfl
theorem kX4_tellItem_142 : lk LX4_tellItem 142 = some (xLdI 144 5) := rfl
theorem kX4_tellItem_144 : lk LX4_tellItem 144 = some (xCallV MX3_tellLife 3 3 147) := rfl
theorem kX4_tellItem_147 : lk LX4_tellItem 147 = some (xZ_eq 154 150) := rfl
theorem kX4_tellItem_150 : lk LX4_tellItem 150 = some (xK 151 (nI 1)) := rfl
theorem kX4_tellItem_151 : lk LX4_tellItem 151 = some (xGo 155) := rfl
theorem kX4_tellItem_154 : lk LX4_tellItem 154 = some (xK 155 (nI 0)) := rfl
theorem kX4_tellItem_155 : lk LX4_tellItem 155 = some (xRetZ) := rfl
theorem kX4_tellItem_156 : lk LX4_tellItem 156 = some (xLdA 157 0) := rfl
theorem kX4_tellItem_157 : lk LX4_tellItem 157 = some (xGf 160 4 1) := rfl
theorem kX4_tellItem_160 : lk LX4_tellItem 160 = some (xK 161 (nI 2)) := rfl
theorem kX4_tellItem_161 : lk LX4_tellItem 161 = some (xC_ne 178 164) := rfl
theorem kX4_tellItem_164 : lk LX4_tellItem 164 = some (xLdA 165 2) := rfl
theorem kX4_tellItem_165 : lk LX4_tellItem 165 = some (xLdI 166 3) := rfl
theorem kX4_tellItem_166 : lk LX4_tellItem 166 = some (xLdI 168 4) := rfl
theorem kX4_tellItem_168 : lk LX4_tellItem 168 = some (xCallV MX3_tellNeed 3 2 171) := rfl
theorem kX4_tellItem_171 : lk LX4_tellItem 171 = some (xZ_eq 178 174) := rfl
theorem kX4_tellItem_174 : lk LX4_tellItem 174 = some (xK 175 (nI 1)) := rfl
theorem kX4_tellItem_175 : lk LX4_tellItem 175 = some (xGo 179) := rfl
theorem kX4_tellItem_178 : lk LX4_tellItem 178 = some (xK 179 (nI 0)) := rfl
theorem kX4_tellItem_179 : lk LX4_tellItem 179 = some (xRetZ) := rfl
theorem kX4_tellItem_180 : lk LX4_tellItem 180 = some (xK 181 (nI 0)) := rfl
theorem kX4_tellItem_181 : lk LX4_tellItem 181 = some (xRetZ) := rfl
def LX4_figure : List (Nat × XI) := [(0, xLdA 1 0),
  (1, xLdI 2 1),
  (2, xLdI 3 2),
  (3, xCallS MX4_letter 3 6),
  (6, xStI 7 3),
  (7, xLdI 8 3),
  (8, xK 10 (nI 48)),
  (10, xC_lt 26 13),
  (13, xLdI 14 3),
  (14, xK 16 (nI 57)),
  (16, xC_gt 26 19),
  (19, xLdI 20 3),
  (20, xK 22 (nI 48)),
  (22, xBin 23 f_isub),
  (23, xGo 28),
  (26, xK 28 ((-4))),
  (28, xRet)]
theorem sX4_figure_0 : Snd MX4_figure 0 (xLdA 1 0) := snd_aload_n (M := MX4_figure) (pc := 0) dX4_figure_0
theorem sX4_figure_1 : Snd MX4_figure 1 (xLdI 2 1) := snd_iload_n (M := MX4_figure) (pc := 1) dX4_figure_1
theorem sX4_figure_2 : Snd MX4_figure 2 (xLdI 3 2) := snd_iload_n (M := MX4_figure) (pc := 2) dX4_figure_2
theorem sX4_figure_3 : Snd MX4_figure 3 (xCallS MX4_letter 3 6) := snd_callS (M := MX4_figure) (pc := 3) (n := 3) dX4_figure_3 w264 w265 ⟨w258, w263, ⟨by decide, by decide, by decide +kernel⟩, by decide⟩ ⟨rfl, rfl⟩
theorem sX4_figure_6 : Snd MX4_figure 6 (xStI 7 3) := snd_istore_n (M := MX4_figure) (pc := 6) dX4_figure_6 (by decide)
theorem sX4_figure_7 : Snd MX4_figure 7 (xLdI 8 3) := snd_iload_n (M := MX4_figure) (pc := 7) dX4_figure_7
theorem sX4_figure_8 : Snd MX4_figure 8 (xK 10 (nI 48)) := snd_bipush (M := MX4_figure) (pc := 8) dX4_figure_8 (by decide +kernel)
theorem sX4_figure_10 : Snd MX4_figure 10 (xC_lt 26 13) := snd_icmp_lt (M := MX4_figure) (pc := 10) dX4_figure_10 (by decide)
theorem sX4_figure_13 : Snd MX4_figure 13 (xLdI 14 3) := snd_iload_n (M := MX4_figure) (pc := 13) dX4_figure_13
theorem sX4_figure_14 : Snd MX4_figure 14 (xK 16 (nI 57)) := snd_bipush (M := MX4_figure) (pc := 14) dX4_figure_14 (by decide +kernel)
theorem sX4_figure_16 : Snd MX4_figure 16 (xC_gt 26 19) := snd_icmp_gt (M := MX4_figure) (pc := 16) dX4_figure_16 (by decide)
theorem sX4_figure_19 : Snd MX4_figure 19 (xLdI 20 3) := snd_iload_n (M := MX4_figure) (pc := 19) dX4_figure_19
theorem sX4_figure_20 : Snd MX4_figure 20 (xK 22 (nI 48)) := snd_bipush (M := MX4_figure) (pc := 20) dX4_figure_20 (by decide +kernel)
theorem sX4_figure_22 : Snd MX4_figure 22 (xBin 23 f_isub) := snd_isub (M := MX4_figure) (pc := 22) dX4_figure_22
theorem sX4_figure_23 : Snd MX4_figure 23 (xGo 28) := snd_goto (M := MX4_figure) (pc := 23) dX4_figure_23 (by decide)
theorem sX4_figure_26 : Snd MX4_figure 26 (xK 28 ((-4))) := snd_bipush (M := MX4_figure) (pc := 26) dX4_figure_26 (by decide +kernel)
theorem sX4_figure_28 : Snd MX4_figure 28 (xRet) := snd_iret (M := MX4_figure) (pc := 28) dX4_figure_28 rfl
theorem VX4_figure : Valid MX4_figure LX4_figure := va_lid sX4_figure_0 (va_lid sX4_figure_1 (va_lid sX4_figure_2 (va_lid sX4_figure_3 (va_lid sX4_figure_6 (va_lid sX4_figure_7 (va_lid sX4_figure_8 (va_lid sX4_figure_10 (va_lid sX4_figure_13 (va_lid sX4_figure_14 (va_lid sX4_figure_16 (va_lid sX4_figure_19 (va_lid sX4_figure_20 (va_lid sX4_figure_22 (va_lid sX4_figure_23 (va_lid sX4_figure_26 (va_lid sX4_figure_28 (va_lid0)))))))))))))))))
theorem kX4_figure_0 : lk LX4_figure 0 = some (xLdA 1 0) := rfl
theorem kX4_figure_1 : lk LX4_figure 1 = some (xLdI 2 1) := rfl
theorem kX4_figure_2 : lk LX4_figure 2 = some (xLdI 3 2) := rfl
theorem kX4_figure_3 : lk LX4_figure 3 = some (xCallS MX4_letter 3 6) := rfl
theorem kX4_figure_6 : lk LX4_figure 6 = some (xStI 7 3) := rfl
theorem kX4_figure_7 : lk LX4_figure 7 = some (xLdI 8 3) := rfl
theorem kX4_figure_8 : lk LX4_figure 8 = some (xK 10 (nI 48)) := rfl
theorem kX4_figure_10 : lk LX4_figure 10 = some (xC_lt 26 13) := rfl
theorem kX4_figure_13 : lk LX4_figure 13 = some (xLdI 14 3) := rfl
theorem kX4_figure_14 : lk LX4_figure 14 = some (xK 16 (nI 57)) := rfl
theorem kX4_figure_16 : lk LX4_figure 16 = some (xC_gt 26 19) := rfl
theorem kX4_figure_19 : lk LX4_figure 19 = some (xLdI 20 3) := rfl
theorem kX4_figure_20 : lk LX4_figure 20 = some (xK 22 (nI 48)) := rfl
theorem kX4_figure_22 : lk LX4_figure 22 = some (xBin 23 f_isub) := rfl
theorem kX4_figure_23 : lk LX4_figure 23 = some (xGo 28) := rfl
theorem kX4_figure_26 : lk LX4_figure 26 = some (xK 28 ((-4))) := rfl
theorem kX4_figure_28 : lk LX4_figure 28 = some (xRet) := rfl
def LX4_letter : List (Nat × XI) := [(0, xLdI 1 2),
  (1, xZ_lt 21 4),
  (4, xLdI 5 2),
  (5, xLdI 6 1),
  (6, xC_ge 21 9),
  (9, xLdI 10 2),
  (10, xLdA 11 0),
  (11, xAlen 12),
  (12, xC_ge 21 15),
  (15, xLdA 16 0),
  (16, xLdI 17 2),
  (17, xcaload 18),
  (18, xGo 23),
  (21, xK 23 ((-4))),
  (23, xRet)]
theorem sX4_letter_0 : Snd MX4_letter 0 (xLdI 1 2) := snd_iload_n (M := MX4_letter) (pc := 0) dX4_letter_0
theorem sX4_letter_1 : Snd MX4_letter 1 (xZ_lt 21 4) := snd_if_lt (M := MX4_letter) (pc := 1) dX4_letter_1 (by decide)
theorem sX4_letter_4 : Snd MX4_letter 4 (xLdI 5 2) := snd_iload_n (M := MX4_letter) (pc := 4) dX4_letter_4
theorem sX4_letter_5 : Snd MX4_letter 5 (xLdI 6 1) := snd_iload_n (M := MX4_letter) (pc := 5) dX4_letter_5
theorem sX4_letter_6 : Snd MX4_letter 6 (xC_ge 21 9) := snd_icmp_ge (M := MX4_letter) (pc := 6) dX4_letter_6 (by decide)
theorem sX4_letter_9 : Snd MX4_letter 9 (xLdI 10 2) := snd_iload_n (M := MX4_letter) (pc := 9) dX4_letter_9
theorem sX4_letter_10 : Snd MX4_letter 10 (xLdA 11 0) := snd_aload_n (M := MX4_letter) (pc := 10) dX4_letter_10
theorem sX4_letter_11 : Snd MX4_letter 11 (xAlen 12) := snd_alen (M := MX4_letter) (pc := 11) dX4_letter_11
theorem sX4_letter_12 : Snd MX4_letter 12 (xC_ge 21 15) := snd_icmp_ge (M := MX4_letter) (pc := 12) dX4_letter_12 (by decide)
theorem sX4_letter_15 : Snd MX4_letter 15 (xLdA 16 0) := snd_aload_n (M := MX4_letter) (pc := 15) dX4_letter_15
theorem sX4_letter_16 : Snd MX4_letter 16 (xLdI 17 2) := snd_iload_n (M := MX4_letter) (pc := 16) dX4_letter_16
theorem sX4_letter_17 : Snd MX4_letter 17 (xcaload 18) := snd_caload (M := MX4_letter) (pc := 17) dX4_letter_17
theorem sX4_letter_18 : Snd MX4_letter 18 (xGo 23) := snd_goto (M := MX4_letter) (pc := 18) dX4_letter_18 (by decide)
theorem sX4_letter_21 : Snd MX4_letter 21 (xK 23 ((-4))) := snd_bipush (M := MX4_letter) (pc := 21) dX4_letter_21 (by decide +kernel)
theorem sX4_letter_23 : Snd MX4_letter 23 (xRet) := snd_iret (M := MX4_letter) (pc := 23) dX4_letter_23 rfl
theorem VX4_letter : Valid MX4_letter LX4_letter := va_lid sX4_letter_0 (va_lid sX4_letter_1 (va_lid sX4_letter_4 (va_lid sX4_letter_5 (va_lid sX4_letter_6 (va_lid sX4_letter_9 (va_lid sX4_letter_10 (va_lid sX4_letter_11 (va_lid sX4_letter_12 (va_lid sX4_letter_15 (va_lid sX4_letter_16 (va_lid sX4_letter_17 (va_lid sX4_letter_18 (va_lid sX4_letter_21 (va_lid sX4_letter_23 (va_lid0)))))))))))))))
theorem kX4_letter_0 : lk LX4_letter 0 = some (xLdI 1 2) := rfl
theorem kX4_letter_1 : lk LX4_letter 1 = some (xZ_lt 21 4) := rfl
theorem kX4_letter_4 : lk LX4_letter 4 = some (xLdI 5 2) := rfl
theorem kX4_letter_5 : lk LX4_letter 5 = some (xLdI 6 1) := rfl
theorem kX4_letter_6 : lk LX4_letter 6 = some (xC_ge 21 9) := rfl
theorem kX4_letter_9 : lk LX4_letter 9 = some (xLdI 10 2) := rfl
theorem kX4_letter_10 : lk LX4_letter 10 = some (xLdA 11 0) := rfl
theorem kX4_letter_11 : lk LX4_letter 11 = some (xAlen 12) := rfl
theorem kX4_letter_12 : lk LX4_letter 12 = some (xC_ge 21 15) := rfl
theorem kX4_letter_15 : lk LX4_letter 15 = some (xLdA 16 0) := rfl
theorem kX4_letter_16 : lk LX4_letter 16 = some (xLdI 17 2) := rfl
theorem kX4_letter_17 : lk LX4_letter 17 = some (xcaload 18) := rfl
theorem kX4_letter_18 : lk LX4_letter 18 = some (xGo 23) := rfl
theorem kX4_letter_21 : lk LX4_letter 21 = some (xK 23 ((-4))) := rfl
theorem kX4_letter_23 : lk LX4_letter 23 = some (xRet) := rfl
def LX5_init : List (Nat × XI) := [(0, xLdA 1 0),
  (1, xObj 4),
  (4, xLdA 5 0),
  (5, xK 8 (nI 200)),
  (10, xPfR 13 5 0),
  (13, xLdA 14 0),
  (14, xK 15 (nI 0)),
  (15, xPfI 18 5 1),
  (21, xDup 22),
  (25, xStA 26 1),
  (29, xDup 30),
  (33, xStA 34 2),
  (39, xStA 40 3),
  (40, xLdA 41 1),
  (41, xLdA 42 3),
  (42, xLdA 43 3),
  (43, xAlen 44),
  (44, xLdA 45 2),
  (45, xCallV MX4_firstFault 4 3 48),
  (48, xPop 49),
  (52, xDup 53),
  (53, xCallI MX1_init 0 56),
  (56, xStA 58 4),
  (58, xLdA 60 4),
  (60, xLdA 61 2),
  (61, xCallV MX1_begin 1 1 64),
  (64, xLdA 65 0),
  (65, xLdA 66 1),
  (66, xPfR 69 5 2),
  (69, xLdA 70 0),
  (73, xDup 74),
  (77, xPfR 80 5 3),
  (80, xLdA 81 0),
  (81, xLdA 82 2),
  (82, xPfR 85 5 4),
  (85, xLdA 86 0),
  (89, xDup 90),
  (93, xPfR 96 5 5),
  (96, xLdA 97 0),
  (97, xLdA 99 4),
  (99, xPfR 102 5 6),
  (102, xLdA 103 0),
  (106, xDup 107),
  (107, xCallI MX1_init 0 110),
  (110, xPfR 113 5 7),
  (113, xLdA 114 0),
  (117, xDup 118),
  (118, xK 120 (nI 8)),
  (123, xPfR 126 5 8),
  (126, xLdA 127 0),
  (130, xDup 131),
  (131, xK 132 (nI 2)),
  (135, xPfR 138 5 9),
  (138, xRetV)]
theorem sX5_init_0 : Snd MX5_init 0 (xLdA 1 0) := snd_aload_n (M := MX5_init) (pc := 0) dX5_init_0
theorem sX5_init_1 : Snd MX5_init 1 (xObj 4) := snd_obj (M := MX5_init) (pc := 1) dX5_init_1 w290 w74 w75 (by decide)
theorem sX5_init_4 : Snd MX5_init 4 (xLdA 5 0) := snd_aload_n (M := MX5_init) (pc := 4) dX5_init_4
theorem sX5_init_5 : Snd MX5_init 5 (xK 8 (nI 200)) := snd_sipush (M := MX5_init) (pc := 5) dX5_init_5 (by decide +kernel)
theorem sX5_init_10 : Snd MX5_init 10 (xPfR 13 5 0) := snd_pfRF (M := MX5_init) (pc := 10) (C0 := RX5) (T0 := TX5) (N := 13) dX5_init_10 rfl tbX5 tyX5 tyX5_ok nmX5 (by decide) w291 rfl rfl rfl (tyX5_ok 0 (by decide)) (fun _ => rfl) (fun _ => rfl)
theorem sX5_init_13 : Snd MX5_init 13 (xLdA 14 0) := snd_aload_n (M := MX5_init) (pc := 13) dX5_init_13
theorem sX5_init_14 : Snd MX5_init 14 (xK 15 (nI 0)) := snd_iconst (M := MX5_init) (pc := 14) dX5_init_14 (by decide +kernel)
theorem sX5_init_15 : Snd MX5_init 15 (xPfI 18 5 1) := snd_pfI (M := MX5_init) (pc := 15) (C0 := RX5) (T0 := TX5) (N := 13) dX5_init_15 rfl tbX5 tyX5 tyX5_ok nmX5 (by decide) w292 rfl (by decide +kernel)
theorem sX5_init_21 : Snd MX5_init 21 (xDup 22) := snd_dup (M := MX5_init) (pc := 21) dX5_init_21
theorem sX5_init_25 : Snd MX5_init 25 (xStA 26 1) := snd_astore_n (M := MX5_init) (pc := 25) dX5_init_25 (by decide)
theorem sX5_init_29 : Snd MX5_init 29 (xDup 30) := snd_dup (M := MX5_init) (pc := 29) dX5_init_29
theorem sX5_init_33 : Snd MX5_init 33 (xStA 34 2) := snd_astore_n (M := MX5_init) (pc := 33) dX5_init_33 (by decide)
theorem sX5_init_39 : Snd MX5_init 39 (xStA 40 3) := snd_astore_n (M := MX5_init) (pc := 39) dX5_init_39 (by decide)
theorem sX5_init_40 : Snd MX5_init 40 (xLdA 41 1) := snd_aload_n (M := MX5_init) (pc := 40) dX5_init_40
theorem sX5_init_41 : Snd MX5_init 41 (xLdA 42 3) := snd_aload_n (M := MX5_init) (pc := 41) dX5_init_41
theorem sX5_init_42 : Snd MX5_init 42 (xLdA 43 3) := snd_aload_n (M := MX5_init) (pc := 42) dX5_init_42
theorem sX5_init_43 : Snd MX5_init 43 (xAlen 44) := snd_alen (M := MX5_init) (pc := 43) dX5_init_43
theorem sX5_init_44 : Snd MX5_init 44 (xLdA 45 2) := snd_aload_n (M := MX5_init) (pc := 44) dX5_init_44
theorem sX5_init_45 : Snd MX5_init 45 (xCallV MX4_firstFault 4 3 48) := snd_callV (M := MX5_init) (pc := 45) (n := 3) dX5_init_45 rfl w294 w295 w296 ⟨w258, w293, ⟨by decide, by decide, by decide +kernel⟩, by decide⟩ ⟨rfl, rfl⟩
theorem sX5_init_48 : Snd MX5_init 48 (xPop 49) := snd_pop (M := MX5_init) (pc := 48) dX5_init_48
theorem sX5_init_52 : Snd MX5_init 52 (xDup 53) := snd_dup (M := MX5_init) (pc := 52) dX5_init_52
theorem sX5_init_53 : Snd MX5_init 53 (xCallI MX1_init 0 56) := snd_callIN (M := MX5_init) (pc := 53) (n := 0) dX5_init_53 nt5 w298 rfl rfl ⟨w78, w297, ⟨by decide, by decide, by decide +kernel⟩, by decide⟩ ⟨rfl, rfl⟩
theorem sX5_init_56 : Snd MX5_init 56 (xStA 58 4) := snd_astore (M := MX5_init) (pc := 56) dX5_init_56 (by decide)
theorem sX5_init_58 : Snd MX5_init 58 (xLdA 60 4) := snd_aload (M := MX5_init) (pc := 58) dX5_init_58
theorem sX5_init_60 : Snd MX5_init 60 (xLdA 61 2) := snd_aload_n (M := MX5_init) (pc := 60) dX5_init_60
theorem sX5_init_61 : Snd MX5_init 61 (xCallV MX1_begin 1 1 64) := snd_callV (M := MX5_init) (pc := 61) (n := 1) dX5_init_61 rfl w300 w301 w302 ⟨w78, w299, ⟨by decide, by decide, by decide +kernel⟩, by decide⟩ ⟨rfl, rfl⟩
theorem sX5_init_64 : Snd MX5_init 64 (xLdA 65 0) := snd_aload_n (M := MX5_init) (pc := 64) dX5_init_64
theorem sX5_init_65 : Snd MX5_init 65 (xLdA 66 1) := snd_aload_n (M := MX5_init) (pc := 65) dX5_init_65
theorem sX5_init_66 : Snd MX5_init 66 (xPfR 69 5 2) := snd_pfRF (M := MX5_init) (pc := 66) (C0 := RX5) (T0 := TX5) (N := 13) dX5_init_66 rfl tbX5 tyX5 tyX5_ok nmX5 (by decide) w303 rfl rfl rfl (tyX5_ok 2 (by decide)) (fun _ => rfl) (fun _ => rfl)
theorem sX5_init_69 : Snd MX5_init 69 (xLdA 70 0) := snd_aload_n (M := MX5_init) (pc := 69) dX5_init_69
theorem sX5_init_73 : Snd MX5_init 73 (xDup 74) := snd_dup (M := MX5_init) (pc := 73) dX5_init_73
theorem sX5_init_77 : Snd MX5_init 77 (xPfR 80 5 3) := snd_pfRF (M := MX5_init) (pc := 77) (C0 := RX5) (T0 := TX5) (N := 13) dX5_init_77 rfl tbX5 tyX5 tyX5_ok nmX5 (by decide) w304 rfl rfl rfl (tyX5_ok 3 (by decide)) (fun _ => rfl) (fun _ => rfl)
theorem sX5_init_80 : Snd MX5_init 80 (xLdA 81 0) := snd_aload_n (M := MX5_init) (pc := 80) dX5_init_80
theorem sX5_init_81 : Snd MX5_init 81 (xLdA 82 2) := snd_aload_n (M := MX5_init) (pc := 81) dX5_init_81
theorem sX5_init_82 : Snd MX5_init 82 (xPfR 85 5 4) := snd_pfR (M := MX5_init) (pc := 82) (C0 := RX5) (T0 := TX5) (N := 13) dX5_init_82 rfl tbX5 tyX5 tyX5_ok nmX5 (by decide) w305 rfl (tyX5_ok 4 (by decide)) (fun _ => rfl) (fun _ => rfl)
theorem sX5_init_85 : Snd MX5_init 85 (xLdA 86 0) := snd_aload_n (M := MX5_init) (pc := 85) dX5_init_85
theorem sX5_init_89 : Snd MX5_init 89 (xDup 90) := snd_dup (M := MX5_init) (pc := 89) dX5_init_89
theorem sX5_init_93 : Snd MX5_init 93 (xPfR 96 5 5) := snd_pfR (M := MX5_init) (pc := 93) (C0 := RX5) (T0 := TX5) (N := 13) dX5_init_93 rfl tbX5 tyX5 tyX5_ok nmX5 (by decide) w306 rfl (tyX5_ok 5 (by decide)) (fun _ => rfl) (fun _ => rfl)
theorem sX5_init_96 : Snd MX5_init 96 (xLdA 97 0) := snd_aload_n (M := MX5_init) (pc := 96) dX5_init_96
theorem sX5_init_97 : Snd MX5_init 97 (xLdA 99 4) := snd_aload (M := MX5_init) (pc := 97) dX5_init_97
theorem sX5_init_99 : Snd MX5_init 99 (xPfR 102 5 6) := snd_pfRF (M := MX5_init) (pc := 99) (C0 := RX5) (T0 := TX5) (N := 13) dX5_init_99 rfl tbX5 tyX5 tyX5_ok nmX5 (by decide) w307 rfl rfl rfl (tyX5_ok 6 (by decide)) (fun _ => rfl) (fun _ => rfl)
theorem sX5_init_102 : Snd MX5_init 102 (xLdA 103 0) := snd_aload_n (M := MX5_init) (pc := 102) dX5_init_102
theorem sX5_init_106 : Snd MX5_init 106 (xDup 107) := snd_dup (M := MX5_init) (pc := 106) dX5_init_106
theorem sX5_init_107 : Snd MX5_init 107 (xCallI MX1_init 0 110) := snd_callIN (M := MX5_init) (pc := 107) (n := 0) dX5_init_107 nt5 w298 rfl rfl ⟨w78, w297, ⟨by decide, by decide, by decide +kernel⟩, by decide⟩ ⟨rfl, rfl⟩
theorem sX5_init_110 : Snd MX5_init 110 (xPfR 113 5 7) := snd_pfRF (M := MX5_init) (pc := 110) (C0 := RX5) (T0 := TX5) (N := 13) dX5_init_110 rfl tbX5 tyX5 tyX5_ok nmX5 (by decide) w308 rfl rfl rfl (tyX5_ok 7 (by decide)) (fun _ => rfl) (fun _ => rfl)
theorem sX5_init_113 : Snd MX5_init 113 (xLdA 114 0) := snd_aload_n (M := MX5_init) (pc := 113) dX5_init_113
theorem sX5_init_117 : Snd MX5_init 117 (xDup 118) := snd_dup (M := MX5_init) (pc := 117) dX5_init_117
theorem sX5_init_118 : Snd MX5_init 118 (xK 120 (nI 8)) := snd_bipush (M := MX5_init) (pc := 118) dX5_init_118 (by decide +kernel)
theorem sX5_init_123 : Snd MX5_init 123 (xPfR 126 5 8) := snd_pfRF (M := MX5_init) (pc := 123) (C0 := RX5) (T0 := TX5) (N := 13) dX5_init_123 rfl tbX5 tyX5 tyX5_ok nmX5 (by decide) w309 rfl rfl rfl (tyX5_ok 8 (by decide)) (fun _ => rfl) (fun _ => rfl)
theorem sX5_init_126 : Snd MX5_init 126 (xLdA 127 0) := snd_aload_n (M := MX5_init) (pc := 126) dX5_init_126
theorem sX5_init_130 : Snd MX5_init 130 (xDup 131) := snd_dup (M := MX5_init) (pc := 130) dX5_init_130
theorem sX5_init_131 : Snd MX5_init 131 (xK 132 (nI 2)) := snd_iconst (M := MX5_init) (pc := 131) dX5_init_131 (by decide +kernel)
theorem sX5_init_135 : Snd MX5_init 135 (xPfR 138 5 9) := snd_pfRF (M := MX5_init) (pc := 135) (C0 := RX5) (T0 := TX5) (N := 13) dX5_init_135 rfl tbX5 tyX5 tyX5_ok nmX5 (by decide) w310 rfl rfl rfl (tyX5_ok 9 (by decide)) (fun _ => rfl) (fun _ => rfl)
theorem sX5_init_138 : Snd MX5_init 138 (xRetV) := snd_vret (M := MX5_init) (pc := 138) dX5_init_138 rfl
theorem VX5_init : Valid MX5_init LX5_init := va_lid sX5_init_0 (va_lid sX5_init_1 (va_lid sX5_init_4 (va_lid sX5_init_5 (va_lid sX5_init_10 (va_lid sX5_init_13 (va_lid sX5_init_14 (va_lid sX5_init_15 (va_lid sX5_init_21 (va_lid sX5_init_25 (va_lid sX5_init_29 (va_lid sX5_init_33 (va_lid sX5_init_39 (va_lid sX5_init_40 (va_lid sX5_init_41 (va_lid sX5_init_42 (va_lid sX5_init_43 (va_lid sX5_init_44 (va_lid sX5_init_45 (va_lid sX5_init_48 (va_lid sX5_init_52 (va_lid sX5_init_53 (va_lid sX5_init_56 (va_lid sX5_init_58 (va_lid sX5_init_60 (va_lid sX5_init_61 (va_lid sX5_init_64 (va_lid sX5_init_65 (va_lid sX5_init_66 (va_lid sX5_init_69 (va_lid sX5_init_73 (va_lid sX5_init_77 (va_lid sX5_init_80 (va_lid sX5_init_81 (va_lid sX5_init_82 (va_lid sX5_init_85 (va_lid sX5_init_89 (va_lid sX5_init_93 (va_lid sX5_init_96 (va_lid sX5_init_97 (va_lid sX5_init_99 (va_lid sX5_init_102 (va_lid sX5_init_106 (va_lid sX5_init_107 (va_lid sX5_init_110 (va_lid sX5_init_113 (va_lid sX5_init_117 (va_lid sX5_init_118 (va_lid sX5_init_123 (va_lid sX5_init_126 (va_lid sX5_init_130 (va_lid sX5_init_131 (va_lid sX5_init_135 (va_lid sX5_init_138 (va_lid0))))))))))))))))))))))))))))))))))))))))))))))))))))))
theorem kX5_init_0 : lk LX5_init 0 = some (xLdA 1 0) := rfl
theorem kX5_init_1 : lk LX5_init 1 = some (xObj 4) := rfl
theorem kX5_init_4 : lk LX5_init 4 = some (xLdA 5 0) := rfl
theorem kX5_init_5 : lk LX5_init 5 = some (xK 8 (nI 200)) := rfl
theorem kX5_init_10 : lk LX5_init 10 = some (xPfR 13 5 0) := rfl
theorem kX5_init_13 : lk LX5_init 13 = some (xLdA 14 0) := rfl
theorem kX5_init_14 : lk LX5_init 14 = some (xK 15 (nI 0)) := rfl
theorem kX5_init_15 : lk LX5_init 15 = some (xPfI 18 5 1) := rfl
theorem kX5_init_21 : lk LX5_init 21 = some (xDup 22) := rfl
theorem kX5_init_25 : lk LX5_init 25 = some (xStA 26 1) := rfl
theorem kX5_init_29 : lk LX5_init 29 = some (xDup 30) := rfl
theorem kX5_init_33 : lk LX5_init 33 = some (xStA 34 2) := rfl
theorem kX5_init_39 : lk LX5_init 39 = some (xStA 40 3) := rfl
theorem kX5_init_40 : lk LX5_init 40 = some (xLdA 41 1) := rfl
theorem kX5_init_41 : lk LX5_init 41 = some (xLdA 42 3) := rfl
theorem kX5_init_42 : lk LX5_init 42 = some (xLdA 43 3) := rfl
theorem kX5_init_43 : lk LX5_init 43 = some (xAlen 44) := rfl
theorem kX5_init_44 : lk LX5_init 44 = some (xLdA 45 2) := rfl
theorem kX5_init_45 : lk LX5_init 45 = some (xCallV MX4_firstFault 4 3 48) := rfl
theorem kX5_init_48 : lk LX5_init 48 = some (xPop 49) := rfl
theorem kX5_init_52 : lk LX5_init 52 = some (xDup 53) := rfl
theorem kX5_init_53 : lk LX5_init 53 = some (xCallI MX1_init 0 56) := rfl
theorem kX5_init_56 : lk LX5_init 56 = some (xStA 58 4) := rfl
theorem kX5_init_58 : lk LX5_init 58 = some (xLdA 60 4) := rfl
theorem kX5_init_60 : lk LX5_init 60 = some (xLdA 61 2) := rfl
theorem kX5_init_61 : lk LX5_init 61 = some (xCallV MX1_begin 1 1 64) := rfl
theorem kX5_init_64 : lk LX5_init 64 = some (xLdA 65 0) := rfl
theorem kX5_init_65 : lk LX5_init 65 = some (xLdA 66 1) := rfl
theorem kX5_init_66 : lk LX5_init 66 = some (xPfR 69 5 2) := rfl
theorem kX5_init_69 : lk LX5_init 69 = some (xLdA 70 0) := rfl
theorem kX5_init_73 : lk LX5_init 73 = some (xDup 74) := rfl
theorem kX5_init_77 : lk LX5_init 77 = some (xPfR 80 5 3) := rfl
theorem kX5_init_80 : lk LX5_init 80 = some (xLdA 81 0) := rfl
theorem kX5_init_81 : lk LX5_init 81 = some (xLdA 82 2) := rfl
theorem kX5_init_82 : lk LX5_init 82 = some (xPfR 85 5 4) := rfl
theorem kX5_init_85 : lk LX5_init 85 = some (xLdA 86 0) := rfl
theorem kX5_init_89 : lk LX5_init 89 = some (xDup 90) := rfl
theorem kX5_init_93 : lk LX5_init 93 = some (xPfR 96 5 5) := rfl
theorem kX5_init_96 : lk LX5_init 96 = some (xLdA 97 0) := rfl
theorem kX5_init_97 : lk LX5_init 97 = some (xLdA 99 4) := rfl
theorem kX5_init_99 : lk LX5_init 99 = some (xPfR 102 5 6) := rfl
theorem kX5_init_102 : lk LX5_init 102 = some (xLdA 103 0) := rfl
theorem kX5_init_106 : lk LX5_init 106 = some (xDup 107) := rfl
theorem kX5_init_107 : lk LX5_init 107 = some (xCallI MX1_init 0 110) := rfl
theorem kX5_init_110 : lk LX5_init 110 = some (xPfR 113 5 7) := rfl
theorem kX5_init_113 : lk LX5_init 113 = some (xLdA 114 0) := rfl
theorem kX5_init_117 : lk LX5_init 117 = some (xDup 118) := rfl
theorem kX5_init_118 : lk LX5_init 118 = some (xK 120 (nI 8)) := rfl
theorem kX5_init_123 : lk LX5_init 123 = some (xPfR 126 5 8) := rfl
theorem kX5_init_126 : lk LX5_init 126 = some (xLdA 127 0) := rfl
theorem kX5_init_130 : lk LX5_init 130 = some (xDup 131) := rfl
theorem kX5_init_131 : lk LX5_init 131 = some (xK 132 (nI 2)) := rfl
theorem kX5_init_135 : lk LX5_init 135 = some (xPfR 138 5 9) := rfl
theorem kX5_init_138 : lk LX5_init 138 = some (xRetV) := rfl
def LX5_write : List (Nat × XI) := [(0, xLdI 1 1),
  (1, xK 3 (nI 32)),
  (3, xC_lt 12 6),
  (6, xLdI 7 1),
  (7, xK 9 (nI 126)),
  (9, xC_le 14 12),
  (12, xK 13 ((-1))),
  (13, xRet),
  (14, xLdA 15 0),
  (15, xGf 18 5 1),
  (18, xZ_lt 33 21),
  (21, xLdA 22 0),
  (22, xGf 25 5 1),
  (25, xLdA 26 0),
  (26, xGf 29 5 0),
  (29, xAlen 30),
  (30, xC_lt 36 33),
  (33, xK 35 ((-3))),
  (35, xRet),
  (36, xLdA 37 0),
  (37, xGf 40 5 0),
  (40, xLdA 41 0),
  (41, xGf 44 5 1),
  (44, xLdI 45 1),
  (45, xI2c 46),
  (46, xcastore 47),
  (47, xLdA 48 0),
  (48, xDup 49),
  (49, xGf 52 5 1),
  (52, xK 53 (nI 1)),
  (53, xBin 54 f_iadd),
  (54, xPfI 57 5 1),
  (57, xLdA 58 0),
  (58, xGf 61 5 1),
  (61, xRet)]
theorem sX5_write_0 : Snd MX5_write 0 (xLdI 1 1) := snd_iload_n (M := MX5_write) (pc := 0) dX5_write_0
theorem sX5_write_1 : Snd MX5_write 1 (xK 3 (nI 32)) := snd_bipush (M := MX5_write) (pc := 1) dX5_write_1 (by decide +kernel)
theorem sX5_write_3 : Snd MX5_write 3 (xC_lt 12 6) := snd_icmp_lt (M := MX5_write) (pc := 3) dX5_write_3 (by decide)
theorem sX5_write_6 : Snd MX5_write 6 (xLdI 7 1) := snd_iload_n (M := MX5_write) (pc := 6) dX5_write_6
theorem sX5_write_7 : Snd MX5_write 7 (xK 9 (nI 126)) := snd_bipush (M := MX5_write) (pc := 7) dX5_write_7 (by decide +kernel)
theorem sX5_write_9 : Snd MX5_write 9 (xC_le 14 12) := snd_icmp_le (M := MX5_write) (pc := 9) dX5_write_9 (by decide)
theorem sX5_write_12 : Snd MX5_write 12 (xK 13 ((-1))) := snd_iconst (M := MX5_write) (pc := 12) dX5_write_12 (by decide +kernel)
theorem sX5_write_13 : Snd MX5_write 13 (xRet) := snd_iret (M := MX5_write) (pc := 13) dX5_write_13 rfl
theorem sX5_write_14 : Snd MX5_write 14 (xLdA 15 0) := snd_aload_n (M := MX5_write) (pc := 14) dX5_write_14
theorem sX5_write_15 : Snd MX5_write 15 (xGf 18 5 1) := snd_gf (M := MX5_write) (pc := 15) (C0 := RX5) (T0 := TX5) (N := 13) dX5_write_15 rfl tbX5 (by decide) w292
theorem sX5_write_18 : Snd MX5_write 18 (xZ_lt 33 21) := snd_if_lt (M := MX5_write) (pc := 18) dX5_write_18 (by decide)
theorem sX5_write_21 : Snd MX5_write 21 (xLdA 22 0) := snd_aload_n (M := MX5_write) (pc := 21) dX5_write_21
theorem sX5_write_22 : Snd MX5_write 22 (xGf 25 5 1) := snd_gf (M := MX5_write) (pc := 22) (C0 := RX5) (T0 := TX5) (N := 13) dX5_write_22 rfl tbX5 (by decide) w292
theorem sX5_write_25 : Snd MX5_write 25 (xLdA 26 0) := snd_aload_n (M := MX5_write) (pc := 25) dX5_write_25
theorem sX5_write_26 : Snd MX5_write 26 (xGf 29 5 0) := snd_gf (M := MX5_write) (pc := 26) (C0 := RX5) (T0 := TX5) (N := 13) dX5_write_26 rfl tbX5 (by decide) w291
theorem sX5_write_29 : Snd MX5_write 29 (xAlen 30) := snd_alen (M := MX5_write) (pc := 29) dX5_write_29
theorem sX5_write_30 : Snd MX5_write 30 (xC_lt 36 33) := snd_icmp_lt (M := MX5_write) (pc := 30) dX5_write_30 (by decide)
theorem sX5_write_33 : Snd MX5_write 33 (xK 35 ((-3))) := snd_bipush (M := MX5_write) (pc := 33) dX5_write_33 (by decide +kernel)
theorem sX5_write_35 : Snd MX5_write 35 (xRet) := snd_iret (M := MX5_write) (pc := 35) dX5_write_35 rfl
theorem sX5_write_36 : Snd MX5_write 36 (xLdA 37 0) := snd_aload_n (M := MX5_write) (pc := 36) dX5_write_36
theorem sX5_write_37 : Snd MX5_write 37 (xGf 40 5 0) := snd_gf (M := MX5_write) (pc := 37) (C0 := RX5) (T0 := TX5) (N := 13) dX5_write_37 rfl tbX5 (by decide) w291
theorem sX5_write_40 : Snd MX5_write 40 (xLdA 41 0) := snd_aload_n (M := MX5_write) (pc := 40) dX5_write_40
theorem sX5_write_41 : Snd MX5_write 41 (xGf 44 5 1) := snd_gf (M := MX5_write) (pc := 41) (C0 := RX5) (T0 := TX5) (N := 13) dX5_write_41 rfl tbX5 (by decide) w292
theorem sX5_write_44 : Snd MX5_write 44 (xLdI 45 1) := snd_iload_n (M := MX5_write) (pc := 44) dX5_write_44
theorem sX5_write_45 : Snd MX5_write 45 (xI2c 46) := snd_i2c (M := MX5_write) (pc := 45) dX5_write_45
theorem sX5_write_46 : Snd MX5_write 46 (xcastore 47) := snd_castore (M := MX5_write) (pc := 46) dX5_write_46
theorem sX5_write_47 : Snd MX5_write 47 (xLdA 48 0) := snd_aload_n (M := MX5_write) (pc := 47) dX5_write_47
theorem sX5_write_48 : Snd MX5_write 48 (xDup 49) := snd_dup (M := MX5_write) (pc := 48) dX5_write_48
theorem sX5_write_49 : Snd MX5_write 49 (xGf 52 5 1) := snd_gf (M := MX5_write) (pc := 49) (C0 := RX5) (T0 := TX5) (N := 13) dX5_write_49 rfl tbX5 (by decide) w292
theorem sX5_write_52 : Snd MX5_write 52 (xK 53 (nI 1)) := snd_iconst (M := MX5_write) (pc := 52) dX5_write_52 (by decide +kernel)
theorem sX5_write_53 : Snd MX5_write 53 (xBin 54 f_iadd) := snd_iadd (M := MX5_write) (pc := 53) dX5_write_53
theorem sX5_write_54 : Snd MX5_write 54 (xPfI 57 5 1) := snd_pfI (M := MX5_write) (pc := 54) (C0 := RX5) (T0 := TX5) (N := 13) dX5_write_54 rfl tbX5 tyX5 tyX5_ok nmX5 (by decide) w292 rfl (by decide +kernel)
theorem sX5_write_57 : Snd MX5_write 57 (xLdA 58 0) := snd_aload_n (M := MX5_write) (pc := 57) dX5_write_57
theorem sX5_write_58 : Snd MX5_write 58 (xGf 61 5 1) := snd_gf (M := MX5_write) (pc := 58) (C0 := RX5) (T0 := TX5) (N := 13) dX5_write_58 rfl tbX5 (by decide) w292
theorem sX5_write_61 : Snd MX5_write 61 (xRet) := snd_iret (M := MX5_write) (pc := 61) dX5_write_61 rfl
theorem VX5_write : Valid MX5_write LX5_write := va_lid sX5_write_0 (va_lid sX5_write_1 (va_lid sX5_write_3 (va_lid sX5_write_6 (va_lid sX5_write_7 (va_lid sX5_write_9 (va_lid sX5_write_12 (va_lid sX5_write_13 (va_lid sX5_write_14 (va_lid sX5_write_15 (va_lid sX5_write_18 (va_lid sX5_write_21 (va_lid sX5_write_22 (va_lid sX5_write_25 (va_lid sX5_write_26 (va_lid sX5_write_29 (va_lid sX5_write_30 (va_lid sX5_write_33 (va_lid sX5_write_35 (va_lid sX5_write_36 (va_lid sX5_write_37 (va_lid sX5_write_40 (va_lid sX5_write_41 (va_lid sX5_write_44 (va_lid sX5_write_45 (va_lid sX5_write_46 (va_lid sX5_write_47 (va_lid sX5_write_48 (va_lid sX5_write_49 (va_lid sX5_write_52 (va_lid sX5_write_53 (va_lid sX5_write_54 (va_lid sX5_write_57 (va_lid sX5_write_58 (va_lid sX5_write_61 (va_lid0)))))))))))))))))))))))))))))))))))
theorem kX5_write_0 : lk LX5_write 0 = some (xLdI 1 1) := rfl
theorem kX5_write_1 : lk LX5_write 1 = some (xK 3 (nI 32)) := rfl
theorem kX5_write_3 : lk LX5_write 3 = some (xC_lt 12 6) := rfl
theorem kX5_write_6 : lk LX5_write 6 = some (xLdI 7 1) := rfl
theorem kX5_write_7 : lk LX5_write 7 = some (xK 9 (nI 126)) := rfl
theorem kX5_write_9 : lk LX5_write 9 = some (xC_le 14 12) := rfl
theorem kX5_write_12 : lk LX5_write 12 = some (xK 13 ((-1))) := rfl
theorem kX5_write_13 : lk LX5_write 13 = some (xRet) := rfl
theorem kX5_write_14 : lk LX5_write 14 = some (xLdA 15 0) := rfl
theorem kX5_write_15 : lk LX5_write 15 = some (xGf 18 5 1) := rfl
theorem kX5_write_18 : lk LX5_write 18 = some (xZ_lt 33 21) := rfl
theorem kX5_write_21 : lk LX5_write 21 = some (xLdA 22 0) := rfl
theorem kX5_write_22 : lk LX5_write 22 = some (xGf 25 5 1) := rfl
theorem kX5_write_25 : lk LX5_write 25 = some (xLdA 26 0) := rfl
theorem kX5_write_26 : lk LX5_write 26 = some (xGf 29 5 0) := rfl
theorem kX5_write_29 : lk LX5_write 29 = some (xAlen 30) := rfl
theorem kX5_write_30 : lk LX5_write 30 = some (xC_lt 36 33) := rfl
theorem kX5_write_33 : lk LX5_write 33 = some (xK 35 ((-3))) := rfl
theorem kX5_write_35 : lk LX5_write 35 = some (xRet) := rfl
theorem kX5_write_36 : lk LX5_write 36 = some (xLdA 37 0) := rfl
theorem kX5_write_37 : lk LX5_write 37 = some (xGf 40 5 0) := rfl
theorem kX5_write_40 : lk LX5_write 40 = some (xLdA 41 0) := rfl
theorem kX5_write_41 : lk LX5_write 41 = some (xGf 44 5 1) := rfl
theorem kX5_write_44 : lk LX5_write 44 = some (xLdI 45 1) := rfl
theorem kX5_write_45 : lk LX5_write 45 = some (xI2c 46) := rfl
theorem kX5_write_46 : lk LX5_write 46 = some (xcastore 47) := rfl
theorem kX5_write_47 : lk LX5_write 47 = some (xLdA 48 0) := rfl
theorem kX5_write_48 : lk LX5_write 48 = some (xDup 49) := rfl
theorem kX5_write_49 : lk LX5_write 49 = some (xGf 52 5 1) := rfl
theorem kX5_write_52 : lk LX5_write 52 = some (xK 53 (nI 1)) := rfl
theorem kX5_write_53 : lk LX5_write 53 = some (xBin 54 f_iadd) := rfl
theorem kX5_write_54 : lk LX5_write 54 = some (xPfI 57 5 1) := rfl
theorem kX5_write_57 : lk LX5_write 57 = some (xLdA 58 0) := rfl
theorem kX5_write_58 : lk LX5_write 58 = some (xGf 61 5 1) := rfl
theorem kX5_write_61 : lk LX5_write 61 = some (xRet) := rfl
def LX5_wipe : List (Nat × XI) := [(0, xLdA 1 0),
  (1, xGf 4 5 1),
  (4, xStI 5 1),
  (5, xLdA 6 0),
  (6, xK 7 (nI 0)),
  (7, xPfI 10 5 1),
  (10, xLdI 11 1),
  (11, xRet)]
theorem sX5_wipe_0 : Snd MX5_wipe 0 (xLdA 1 0) := snd_aload_n (M := MX5_wipe) (pc := 0) dX5_wipe_0
theorem sX5_wipe_1 : Snd MX5_wipe 1 (xGf 4 5 1) := snd_gf (M := MX5_wipe) (pc := 1) (C0 := RX5) (T0 := TX5) (N := 13) dX5_wipe_1 rfl tbX5 (by decide) w292
theorem sX5_wipe_4 : Snd MX5_wipe 4 (xStI 5 1) := snd_istore_n (M := MX5_wipe) (pc := 4) dX5_wipe_4 (by decide)
theorem sX5_wipe_5 : Snd MX5_wipe 5 (xLdA 6 0) := snd_aload_n (M := MX5_wipe) (pc := 5) dX5_wipe_5
theorem sX5_wipe_6 : Snd MX5_wipe 6 (xK 7 (nI 0)) := snd_iconst (M := MX5_wipe) (pc := 6) dX5_wipe_6 (by decide +kernel)
theorem sX5_wipe_7 : Snd MX5_wipe 7 (xPfI 10 5 1) := snd_pfI (M := MX5_wipe) (pc := 7) (C0 := RX5) (T0 := TX5) (N := 13) dX5_wipe_7 rfl tbX5 tyX5 tyX5_ok nmX5 (by decide) w292 rfl (by decide +kernel)
theorem sX5_wipe_10 : Snd MX5_wipe 10 (xLdI 11 1) := snd_iload_n (M := MX5_wipe) (pc := 10) dX5_wipe_10
theorem sX5_wipe_11 : Snd MX5_wipe 11 (xRet) := snd_iret (M := MX5_wipe) (pc := 11) dX5_wipe_11 rfl
theorem VX5_wipe : Valid MX5_wipe LX5_wipe := va_lid sX5_wipe_0 (va_lid sX5_wipe_1 (va_lid sX5_wipe_4 (va_lid sX5_wipe_5 (va_lid sX5_wipe_6 (va_lid sX5_wipe_7 (va_lid sX5_wipe_10 (va_lid sX5_wipe_11 (va_lid0))))))))
theorem kX5_wipe_0 : lk LX5_wipe 0 = some (xLdA 1 0) := rfl
theorem kX5_wipe_1 : lk LX5_wipe 1 = some (xGf 4 5 1) := rfl
theorem kX5_wipe_4 : lk LX5_wipe 4 = some (xStI 5 1) := rfl
theorem kX5_wipe_5 : lk LX5_wipe 5 = some (xLdA 6 0) := rfl
theorem kX5_wipe_6 : lk LX5_wipe 6 = some (xK 7 (nI 0)) := rfl
theorem kX5_wipe_7 : lk LX5_wipe 7 = some (xPfI 10 5 1) := rfl
theorem kX5_wipe_10 : lk LX5_wipe 10 = some (xLdI 11 1) := rfl
theorem kX5_wipe_11 : lk LX5_wipe 11 = some (xRet) := rfl
def LX5_fault : List (Nat × XI) := [(0, xLdA 1 0),
  (1, xGf 4 5 2),
  (4, xLdA 5 0),
  (5, xGf 8 5 0),
  (8, xLdA 9 0),
  (9, xGf 12 5 1),
  (12, xLdA 13 0),
  (13, xGf 16 5 5),
  (16, xCallV MX4_firstFault 4 3 19),
  (19, xRet)]
theorem sX5_fault_0 : Snd MX5_fault 0 (xLdA 1 0) := snd_aload_n (M := MX5_fault) (pc := 0) dX5_fault_0
theorem sX5_fault_1 : Snd MX5_fault 1 (xGf 4 5 2) := snd_gf (M := MX5_fault) (pc := 1) (C0 := RX5) (T0 := TX5) (N := 13) dX5_fault_1 rfl tbX5 (by decide) w303
theorem sX5_fault_4 : Snd MX5_fault 4 (xLdA 5 0) := snd_aload_n (M := MX5_fault) (pc := 4) dX5_fault_4
theorem sX5_fault_5 : Snd MX5_fault 5 (xGf 8 5 0) := snd_gf (M := MX5_fault) (pc := 5) (C0 := RX5) (T0 := TX5) (N := 13) dX5_fault_5 rfl tbX5 (by decide) w291
theorem sX5_fault_8 : Snd MX5_fault 8 (xLdA 9 0) := snd_aload_n (M := MX5_fault) (pc := 8) dX5_fault_8
theorem sX5_fault_9 : Snd MX5_fault 9 (xGf 12 5 1) := snd_gf (M := MX5_fault) (pc := 9) (C0 := RX5) (T0 := TX5) (N := 13) dX5_fault_9 rfl tbX5 (by decide) w292
theorem sX5_fault_12 : Snd MX5_fault 12 (xLdA 13 0) := snd_aload_n (M := MX5_fault) (pc := 12) dX5_fault_12
theorem sX5_fault_13 : Snd MX5_fault 13 (xGf 16 5 5) := snd_gf (M := MX5_fault) (pc := 13) (C0 := RX5) (T0 := TX5) (N := 13) dX5_fault_13 rfl tbX5 (by decide) w306
theorem sX5_fault_16 : Snd MX5_fault 16 (xCallV MX4_firstFault 4 3 19) := snd_callV (M := MX5_fault) (pc := 16) (n := 3) dX5_fault_16 rfl w294 w295 w296 ⟨w258, w293, ⟨by decide, by decide, by decide +kernel⟩, by decide⟩ ⟨rfl, rfl⟩
theorem sX5_fault_19 : Snd MX5_fault 19 (xRet) := snd_iret (M := MX5_fault) (pc := 19) dX5_fault_19 rfl
theorem VX5_fault : Valid MX5_fault LX5_fault := va_lid sX5_fault_0 (va_lid sX5_fault_1 (va_lid sX5_fault_4 (va_lid sX5_fault_5 (va_lid sX5_fault_8 (va_lid sX5_fault_9 (va_lid sX5_fault_12 (va_lid sX5_fault_13 (va_lid sX5_fault_16 (va_lid sX5_fault_19 (va_lid0))))))))))
theorem kX5_fault_0 : lk LX5_fault 0 = some (xLdA 1 0) := rfl
theorem kX5_fault_1 : lk LX5_fault 1 = some (xGf 4 5 2) := rfl
theorem kX5_fault_4 : lk LX5_fault 4 = some (xLdA 5 0) := rfl
theorem kX5_fault_5 : lk LX5_fault 5 = some (xGf 8 5 0) := rfl
theorem kX5_fault_8 : lk LX5_fault 8 = some (xLdA 9 0) := rfl
theorem kX5_fault_9 : lk LX5_fault 9 = some (xGf 12 5 1) := rfl
theorem kX5_fault_12 : lk LX5_fault 12 = some (xLdA 13 0) := rfl
theorem kX5_fault_13 : lk LX5_fault 13 = some (xGf 16 5 5) := rfl
theorem kX5_fault_16 : lk LX5_fault 16 = some (xCallV MX4_firstFault 4 3 19) := rfl
theorem kX5_fault_19 : lk LX5_fault 19 = some (xRet) := rfl
def LX5_lay : List (Nat × XI) := [(0, xLdA 1 0),
  (1, xGf 4 5 2),
  (4, xLdA 5 0),
  (5, xGf 8 5 0),
  (8, xLdA 9 0),
  (9, xGf 12 5 1),
  (12, xLdA 13 0),
  (13, xGf 16 5 5),
  (16, xCallV MX4_firstFault 4 3 19),
  (19, xK 21 ((-4))),
  (21, xC_ne 44 24),
  (24, xLdA 25 0),
  (25, xGf 28 5 5),
  (28, xGf 31 3 2),
  (31, xZ_eq 44 34),
  (34, xLdA 35 0),
  (35, xGf 38 5 5),
  (38, xGf 41 3 3),
  (41, xZ_ne 47 44),
  (44, xK 46 ((-2))),
  (46, xRet),
  (47, xLdA 48 0),
  (48, xGf 51 5 5),
  (51, xStA 52 1),
  (52, xLdA 53 0),
  (53, xLdA 54 0),
  (54, xGf 57 5 4),
  (57, xPfR 60 5 5),
  (60, xLdA 61 0),
  (61, xLdA 62 1),
  (62, xPfR 65 5 4),
  (65, xLdA 66 0),
  (66, xGf 69 5 6),
  (69, xLdA 70 0),
  (70, xGf 73 5 4),
  (73, xCallV MX1_begin 1 1 76),
  (76, xLdA 77 0),
  (77, xGf 80 5 8),
  (80, xCallV MX2_empty 2 0 83),
  (83, xLdA 84 0),
  (84, xGf 87 5 9),
  (87, xCallV MX2_empty 2 0 90),
  (90, xLdA 91 0),
  (91, xCallV MX5_forget 5 0 94),
  (94, xPop 95),
  (95, xLdA 96 0),
  (96, xGf 99 5 4),
  (99, xGf 102 3 3),
  (102, xRet)]
theorem sX5_lay_0 : Snd MX5_lay 0 (xLdA 1 0) := snd_aload_n (M := MX5_lay) (pc := 0) dX5_lay_0
theorem sX5_lay_1 : Snd MX5_lay 1 (xGf 4 5 2) := snd_gf (M := MX5_lay) (pc := 1) (C0 := RX5) (T0 := TX5) (N := 13) dX5_lay_1 rfl tbX5 (by decide) w303
theorem sX5_lay_4 : Snd MX5_lay 4 (xLdA 5 0) := snd_aload_n (M := MX5_lay) (pc := 4) dX5_lay_4
theorem sX5_lay_5 : Snd MX5_lay 5 (xGf 8 5 0) := snd_gf (M := MX5_lay) (pc := 5) (C0 := RX5) (T0 := TX5) (N := 13) dX5_lay_5 rfl tbX5 (by decide) w291
theorem sX5_lay_8 : Snd MX5_lay 8 (xLdA 9 0) := snd_aload_n (M := MX5_lay) (pc := 8) dX5_lay_8
theorem sX5_lay_9 : Snd MX5_lay 9 (xGf 12 5 1) := snd_gf (M := MX5_lay) (pc := 9) (C0 := RX5) (T0 := TX5) (N := 13) dX5_lay_9 rfl tbX5 (by decide) w292
theorem sX5_lay_12 : Snd MX5_lay 12 (xLdA 13 0) := snd_aload_n (M := MX5_lay) (pc := 12) dX5_lay_12
theorem sX5_lay_13 : Snd MX5_lay 13 (xGf 16 5 5) := snd_gf (M := MX5_lay) (pc := 13) (C0 := RX5) (T0 := TX5) (N := 13) dX5_lay_13 rfl tbX5 (by decide) w306
theorem sX5_lay_16 : Snd MX5_lay 16 (xCallV MX4_firstFault 4 3 19) := snd_callV (M := MX5_lay) (pc := 16) (n := 3) dX5_lay_16 rfl w294 w295 w296 ⟨w258, w293, ⟨by decide, by decide, by decide +kernel⟩, by decide⟩ ⟨rfl, rfl⟩
theorem sX5_lay_19 : Snd MX5_lay 19 (xK 21 ((-4))) := snd_bipush (M := MX5_lay) (pc := 19) dX5_lay_19 (by decide +kernel)
theorem sX5_lay_21 : Snd MX5_lay 21 (xC_ne 44 24) := snd_icmp_ne (M := MX5_lay) (pc := 21) dX5_lay_21 (by decide)
theorem sX5_lay_24 : Snd MX5_lay 24 (xLdA 25 0) := snd_aload_n (M := MX5_lay) (pc := 24) dX5_lay_24
theorem sX5_lay_25 : Snd MX5_lay 25 (xGf 28 5 5) := snd_gf (M := MX5_lay) (pc := 25) (C0 := RX5) (T0 := TX5) (N := 13) dX5_lay_25 rfl tbX5 (by decide) w306
theorem sX5_lay_28 : Snd MX5_lay 28 (xGf 31 3 2) := snd_gf (M := MX5_lay) (pc := 28) (C0 := RX3) (T0 := TX3) (N := 14) dX5_lay_28 rfl tbX3 (by decide) w311
theorem sX5_lay_31 : Snd MX5_lay 31 (xZ_eq 44 34) := snd_if_eq (M := MX5_lay) (pc := 31) dX5_lay_31 (by decide)
theorem sX5_lay_34 : Snd MX5_lay 34 (xLdA 35 0) := snd_aload_n (M := MX5_lay) (pc := 34) dX5_lay_34
theorem sX5_lay_35 : Snd MX5_lay 35 (xGf 38 5 5) := snd_gf (M := MX5_lay) (pc := 35) (C0 := RX5) (T0 := TX5) (N := 13) dX5_lay_35 rfl tbX5 (by decide) w306
theorem sX5_lay_38 : Snd MX5_lay 38 (xGf 41 3 3) := snd_gf (M := MX5_lay) (pc := 38) (C0 := RX3) (T0 := TX3) (N := 14) dX5_lay_38 rfl tbX3 (by decide) w312
theorem sX5_lay_41 : Snd MX5_lay 41 (xZ_ne 47 44) := snd_if_ne (M := MX5_lay) (pc := 41) dX5_lay_41 (by decide)
theorem sX5_lay_44 : Snd MX5_lay 44 (xK 46 ((-2))) := snd_bipush (M := MX5_lay) (pc := 44) dX5_lay_44 (by decide +kernel)
theorem sX5_lay_46 : Snd MX5_lay 46 (xRet) := snd_iret (M := MX5_lay) (pc := 46) dX5_lay_46 rfl
theorem sX5_lay_47 : Snd MX5_lay 47 (xLdA 48 0) := snd_aload_n (M := MX5_lay) (pc := 47) dX5_lay_47
theorem sX5_lay_48 : Snd MX5_lay 48 (xGf 51 5 5) := snd_gf (M := MX5_lay) (pc := 48) (C0 := RX5) (T0 := TX5) (N := 13) dX5_lay_48 rfl tbX5 (by decide) w306
theorem sX5_lay_51 : Snd MX5_lay 51 (xStA 52 1) := snd_astore_n (M := MX5_lay) (pc := 51) dX5_lay_51 (by decide)
theorem sX5_lay_52 : Snd MX5_lay 52 (xLdA 53 0) := snd_aload_n (M := MX5_lay) (pc := 52) dX5_lay_52
theorem sX5_lay_53 : Snd MX5_lay 53 (xLdA 54 0) := snd_aload_n (M := MX5_lay) (pc := 53) dX5_lay_53
theorem sX5_lay_54 : Snd MX5_lay 54 (xGf 57 5 4) := snd_gf (M := MX5_lay) (pc := 54) (C0 := RX5) (T0 := TX5) (N := 13) dX5_lay_54 rfl tbX5 (by decide) w305
theorem sX5_lay_57 : Snd MX5_lay 57 (xPfR 60 5 5) := snd_pfR (M := MX5_lay) (pc := 57) (C0 := RX5) (T0 := TX5) (N := 13) dX5_lay_57 rfl tbX5 tyX5 tyX5_ok nmX5 (by decide) w306 rfl (tyX5_ok 5 (by decide)) (fun _ => rfl) (fun _ => rfl)
theorem sX5_lay_60 : Snd MX5_lay 60 (xLdA 61 0) := snd_aload_n (M := MX5_lay) (pc := 60) dX5_lay_60
theorem sX5_lay_61 : Snd MX5_lay 61 (xLdA 62 1) := snd_aload_n (M := MX5_lay) (pc := 61) dX5_lay_61
theorem sX5_lay_62 : Snd MX5_lay 62 (xPfR 65 5 4) := snd_pfR (M := MX5_lay) (pc := 62) (C0 := RX5) (T0 := TX5) (N := 13) dX5_lay_62 rfl tbX5 tyX5 tyX5_ok nmX5 (by decide) w305 rfl (tyX5_ok 4 (by decide)) (fun _ => rfl) (fun _ => rfl)
theorem sX5_lay_65 : Snd MX5_lay 65 (xLdA 66 0) := snd_aload_n (M := MX5_lay) (pc := 65) dX5_lay_65
theorem sX5_lay_66 : Snd MX5_lay 66 (xGf 69 5 6) := snd_gf (M := MX5_lay) (pc := 66) (C0 := RX5) (T0 := TX5) (N := 13) dX5_lay_66 rfl tbX5 (by decide) w307
theorem sX5_lay_69 : Snd MX5_lay 69 (xLdA 70 0) := snd_aload_n (M := MX5_lay) (pc := 69) dX5_lay_69
theorem sX5_lay_70 : Snd MX5_lay 70 (xGf 73 5 4) := snd_gf (M := MX5_lay) (pc := 70) (C0 := RX5) (T0 := TX5) (N := 13) dX5_lay_70 rfl tbX5 (by decide) w305
theorem sX5_lay_73 : Snd MX5_lay 73 (xCallV MX1_begin 1 1 76) := snd_callV (M := MX5_lay) (pc := 73) (n := 1) dX5_lay_73 rfl w300 w301 w302 ⟨w78, w299, ⟨by decide, by decide, by decide +kernel⟩, by decide⟩ ⟨rfl, rfl⟩
theorem sX5_lay_76 : Snd MX5_lay 76 (xLdA 77 0) := snd_aload_n (M := MX5_lay) (pc := 76) dX5_lay_76
theorem sX5_lay_77 : Snd MX5_lay 77 (xGf 80 5 8) := snd_gf (M := MX5_lay) (pc := 77) (C0 := RX5) (T0 := TX5) (N := 13) dX5_lay_77 rfl tbX5 (by decide) w309
theorem sX5_lay_80 : Snd MX5_lay 80 (xCallV MX2_empty 2 0 83) := snd_callV (M := MX5_lay) (pc := 80) (n := 0) dX5_lay_80 rfl w314 w315 w316 ⟨w216, w313, ⟨by decide, by decide, by decide +kernel⟩, by decide⟩ ⟨rfl, rfl⟩
theorem sX5_lay_83 : Snd MX5_lay 83 (xLdA 84 0) := snd_aload_n (M := MX5_lay) (pc := 83) dX5_lay_83
theorem sX5_lay_84 : Snd MX5_lay 84 (xGf 87 5 9) := snd_gf (M := MX5_lay) (pc := 84) (C0 := RX5) (T0 := TX5) (N := 13) dX5_lay_84 rfl tbX5 (by decide) w310
theorem sX5_lay_87 : Snd MX5_lay 87 (xCallV MX2_empty 2 0 90) := snd_callV (M := MX5_lay) (pc := 87) (n := 0) dX5_lay_87 rfl w314 w315 w316 ⟨w216, w313, ⟨by decide, by decide, by decide +kernel⟩, by decide⟩ ⟨rfl, rfl⟩
theorem sX5_lay_90 : Snd MX5_lay 90 (xLdA 91 0) := snd_aload_n (M := MX5_lay) (pc := 90) dX5_lay_90
theorem sX5_lay_91 : Snd MX5_lay 91 (xCallV MX5_forget 5 0 94) := snd_callV (M := MX5_lay) (pc := 91) (n := 0) dX5_lay_91 rfl w318 w319 w320 ⟨w115, w317, ⟨by decide, by decide, by decide +kernel⟩, by decide⟩ ⟨rfl, rfl⟩
theorem sX5_lay_94 : Snd MX5_lay 94 (xPop 95) := snd_pop (M := MX5_lay) (pc := 94) dX5_lay_94
theorem sX5_lay_95 : Snd MX5_lay 95 (xLdA 96 0) := snd_aload_n (M := MX5_lay) (pc := 95) dX5_lay_95
theorem sX5_lay_96 : Snd MX5_lay 96 (xGf 99 5 4) := snd_gf (M := MX5_lay) (pc := 96) (C0 := RX5) (T0 := TX5) (N := 13) dX5_lay_96 rfl tbX5 (by decide) w305
theorem sX5_lay_99 : Snd MX5_lay 99 (xGf 102 3 3) := snd_gf (M := MX5_lay) (pc := 99) (C0 := RX3) (T0 := TX3) (N := 14) dX5_lay_99 rfl tbX3 (by decide) w312
theorem sX5_lay_102 : Snd MX5_lay 102 (xRet) := snd_iret (M := MX5_lay) (pc := 102) dX5_lay_102 rfl
theorem VX5_lay : Valid MX5_lay LX5_lay := va_lid sX5_lay_0 (va_lid sX5_lay_1 (va_lid sX5_lay_4 (va_lid sX5_lay_5 (va_lid sX5_lay_8 (va_lid sX5_lay_9 (va_lid sX5_lay_12 (va_lid sX5_lay_13 (va_lid sX5_lay_16 (va_lid sX5_lay_19 (va_lid sX5_lay_21 (va_lid sX5_lay_24 (va_lid sX5_lay_25 (va_lid sX5_lay_28 (va_lid sX5_lay_31 (va_lid sX5_lay_34 (va_lid sX5_lay_35 (va_lid sX5_lay_38 (va_lid sX5_lay_41 (va_lid sX5_lay_44 (va_lid sX5_lay_46 (va_lid sX5_lay_47 (va_lid sX5_lay_48 (va_lid sX5_lay_51 (va_lid sX5_lay_52 (va_lid sX5_lay_53 (va_lid sX5_lay_54 (va_lid sX5_lay_57 (va_lid sX5_lay_60 (va_lid sX5_lay_61 (va_lid sX5_lay_62 (va_lid sX5_lay_65 (va_lid sX5_lay_66 (va_lid sX5_lay_69 (va_lid sX5_lay_70 (va_lid sX5_lay_73 (va_lid sX5_lay_76 (va_lid sX5_lay_77 (va_lid sX5_lay_80 (va_lid sX5_lay_83 (va_lid sX5_lay_84 (va_lid sX5_lay_87 (va_lid sX5_lay_90 (va_lid sX5_lay_91 (va_lid sX5_lay_94 (va_lid sX5_lay_95 (va_lid sX5_lay_96 (va_lid sX5_lay_99 (va_lid sX5_lay_102 (va_lid0)))))))))))))))))))))))))))))))))))))))))))))))))
theorem kX5_lay_0 : lk LX5_lay 0 = some (xLdA 1 0) := rfl
theorem kX5_lay_1 : lk LX5_lay 1 = some (xGf 4 5 2) := rfl
theorem kX5_lay_4 : lk LX5_lay 4 = some (xLdA 5 0) := rfl
theorem kX5_lay_5 : lk LX5_lay 5 = some (xGf 8 5 0) := rfl
theorem kX5_lay_8 : lk LX5_lay 8 = some (xLdA 9 0) := rfl
theorem kX5_lay_9 : lk LX5_lay 9 = some (xGf 12 5 1) := rfl
theorem kX5_lay_12 : lk LX5_lay 12 = some (xLdA 13 0) := rfl
theorem kX5_lay_13 : lk LX5_lay 13 = some (xGf 16 5 5) := rfl
theorem kX5_lay_16 : lk LX5_lay 16 = some (xCallV MX4_firstFault 4 3 19) := rfl
theorem kX5_lay_19 : lk LX5_lay 19 = some (xK 21 ((-4))) := rfl
theorem kX5_lay_21 : lk LX5_lay 21 = some (xC_ne 44 24) := rfl
theorem kX5_lay_24 : lk LX5_lay 24 = some (xLdA 25 0) := rfl
theorem kX5_lay_25 : lk LX5_lay 25 = some (xGf 28 5 5) := rfl
theorem kX5_lay_28 : lk LX5_lay 28 = some (xGf 31 3 2) := rfl
theorem kX5_lay_31 : lk LX5_lay 31 = some (xZ_eq 44 34) := rfl
theorem kX5_lay_34 : lk LX5_lay 34 = some (xLdA 35 0) := rfl
theorem kX5_lay_35 : lk LX5_lay 35 = some (xGf 38 5 5) := rfl
theorem kX5_lay_38 : lk LX5_lay 38 = some (xGf 41 3 3) := rfl
theorem kX5_lay_41 : lk LX5_lay 41 = some (xZ_ne 47 44) := rfl
theorem kX5_lay_44 : lk LX5_lay 44 = some (xK 46 ((-2))) := rfl
theorem kX5_lay_46 : lk LX5_lay 46 = some (xRet) := rfl
theorem kX5_lay_47 : lk LX5_lay 47 = some (xLdA 48 0) := rfl
theorem kX5_lay_48 : lk LX5_lay 48 = some (xGf 51 5 5) := rfl
theorem kX5_lay_51 : lk LX5_lay 51 = some (xStA 52 1) := rfl
theorem kX5_lay_52 : lk LX5_lay 52 = some (xLdA 53 0) := rfl
theorem kX5_lay_53 : lk LX5_lay 53 = some (xLdA 54 0) := rfl
theorem kX5_lay_54 : lk LX5_lay 54 = some (xGf 57 5 4) := rfl
theorem kX5_lay_57 : lk LX5_lay 57 = some (xPfR 60 5 5) := rfl
theorem kX5_lay_60 : lk LX5_lay 60 = some (xLdA 61 0) := rfl
theorem kX5_lay_61 : lk LX5_lay 61 = some (xLdA 62 1) := rfl
theorem kX5_lay_62 : lk LX5_lay 62 = some (xPfR 65 5 4) := rfl
theorem kX5_lay_65 : lk LX5_lay 65 = some (xLdA 66 0) := rfl
theorem kX5_lay_66 : lk LX5_lay 66 = some (xGf 69 5 6) := rfl
theorem kX5_lay_69 : lk LX5_lay 69 = some (xLdA 70 0) := rfl
theorem kX5_lay_70 : lk LX5_lay 70 = some (xGf 73 5 4) := rfl
theorem kX5_lay_73 : lk LX5_lay 73 = some (xCallV MX1_begin 1 1 76) := rfl
theorem kX5_lay_76 : lk LX5_lay 76 = some (xLdA 77 0) := rfl
theorem kX5_lay_77 : lk LX5_lay 77 = some (xGf 80 5 8) := rfl
theorem kX5_lay_80 : lk LX5_lay 80 = some (xCallV MX2_empty 2 0 83) := rfl
theorem kX5_lay_83 : lk LX5_lay 83 = some (xLdA 84 0) := rfl
theorem kX5_lay_84 : lk LX5_lay 84 = some (xGf 87 5 9) := rfl
theorem kX5_lay_87 : lk LX5_lay 87 = some (xCallV MX2_empty 2 0 90) := rfl
theorem kX5_lay_90 : lk LX5_lay 90 = some (xLdA 91 0) := rfl
theorem kX5_lay_91 : lk LX5_lay 91 = some (xCallV MX5_forget 5 0 94) := rfl
theorem kX5_lay_94 : lk LX5_lay 94 = some (xPop 95) := rfl
theorem kX5_lay_95 : lk LX5_lay 95 = some (xLdA 96 0) := rfl
theorem kX5_lay_96 : lk LX5_lay 96 = some (xGf 99 5 4) := rfl
theorem kX5_lay_99 : lk LX5_lay 99 = some (xGf 102 3 3) := rfl
theorem kX5_lay_102 : lk LX5_lay 102 = some (xRet) := rfl
def LX5_thing : List (Nat × XI) := [(0, xLdA 1 0),
  (1, xGf 4 5 4),
  (4, xLdI 5 1),
  (5, xCallV MX3_isThing 3 1 8),
  (8, xZ_ne 13 11),
  (11, xK 12 ((-1))),
  (12, xRet),
  (13, xLdI 14 2),
  (14, xTsw 128 0 [52, 64, 76, 88, 103, 119]),
  (52, xLdA 53 0),
  (53, xGf 56 5 4),
  (56, xGf 59 3 7),
  (59, xLdI 60 1),
  (60, xCallS MX5_at 2 63),
  (63, xRet),
  (64, xLdA 65 0),
  (65, xGf 68 5 4),
  (68, xGf 71 3 8),
  (71, xLdI 72 1),
  (72, xCallS MX5_at 2 75),
  (75, xRet),
  (76, xLdA 77 0),
  (77, xGf 80 5 4),
  (80, xGf 83 3 9),
  (83, xLdI 84 1),
  (84, xCallS MX5_at 2 87),
  (87, xRet),
  (88, xLdA 89 0),
  (89, xGf 92 5 6),
  (92, xGf 95 1 0),
  (95, xLdI 96 1),
  (96, xCallS MX5_has 2 99),
  (99, xCallS MX5_bit 1 102),
  (102, xRet),
  (103, xLdA 104 0),
  (104, xGf 107 5 6),
  (107, xLdA 108 0),
  (108, xGf 111 5 4),
  (111, xLdI 112 1),
  (112, xCallV MX1_canPutBy 1 2 115),
  (115, xCallS MX5_bit 1 118),
  (118, xRet),
  (119, xLdA 120 0),
  (120, xGf 123 5 4),
  (123, xLdI 124 1),
  (124, xCallV MX3_livesThatNeed 3 1 127),
  (127, xRet),
  (128, xK 129 ((-1))),
  (129, xRet)]
theorem sX5_thing_0 : Snd MX5_thing 0 (xLdA 1 0) := snd_aload_n (M := MX5_thing) (pc := 0) dX5_thing_0
theorem sX5_thing_1 : Snd MX5_thing 1 (xGf 4 5 4) := snd_gf (M := MX5_thing) (pc := 1) (C0 := RX5) (T0 := TX5) (N := 13) dX5_thing_1 rfl tbX5 (by decide) w305
theorem sX5_thing_4 : Snd MX5_thing 4 (xLdI 5 1) := snd_iload_n (M := MX5_thing) (pc := 4) dX5_thing_4
theorem sX5_thing_5 : Snd MX5_thing 5 (xCallV MX3_isThing 3 1 8) := snd_callV (M := MX5_thing) (pc := 5) (n := 1) dX5_thing_5 rfl w321 w248 w249 ⟨w83, w246, ⟨by decide, by decide, by decide +kernel⟩, by decide⟩ ⟨rfl, rfl⟩
theorem sX5_thing_8 : Snd MX5_thing 8 (xZ_ne 13 11) := snd_if_ne (M := MX5_thing) (pc := 8) dX5_thing_8 (by decide)
theorem sX5_thing_11 : Snd MX5_thing 11 (xK 12 ((-1))) := snd_iconst (M := MX5_thing) (pc := 11) dX5_thing_11 (by decide +kernel)
theorem sX5_thing_12 : Snd MX5_thing 12 (xRet) := snd_iret (M := MX5_thing) (pc := 12) dX5_thing_12 rfl
theorem sX5_thing_13 : Snd MX5_thing 13 (xLdI 14 2) := snd_iload_n (M := MX5_thing) (pc := 13) dX5_thing_13
theorem sX5_thing_14 : Snd MX5_thing 14 (xTsw 128 0 [52, 64, 76, 88, 103, 119]) := snd_tsw (M := MX5_thing) (pc := 14) dX5_thing_14 rfl (by decide) (by decide) (by decide) (by decide +kernel)
theorem sX5_thing_52 : Snd MX5_thing 52 (xLdA 53 0) := snd_aload_n (M := MX5_thing) (pc := 52) dX5_thing_52
theorem sX5_thing_53 : Snd MX5_thing 53 (xGf 56 5 4) := snd_gf (M := MX5_thing) (pc := 53) (C0 := RX5) (T0 := TX5) (N := 13) dX5_thing_53 rfl tbX5 (by decide) w305
theorem sX5_thing_56 : Snd MX5_thing 56 (xGf 59 3 7) := snd_gf (M := MX5_thing) (pc := 56) (C0 := RX3) (T0 := TX3) (N := 14) dX5_thing_56 rfl tbX3 (by decide) w322
theorem sX5_thing_59 : Snd MX5_thing 59 (xLdI 60 1) := snd_iload_n (M := MX5_thing) (pc := 59) dX5_thing_59
theorem sX5_thing_60 : Snd MX5_thing 60 (xCallS MX5_at 2 63) := snd_callS (M := MX5_thing) (pc := 60) (n := 2) dX5_thing_60 w323 w123 ⟨w115, w122, ⟨by decide, by decide, by decide +kernel⟩, by decide⟩ ⟨rfl, rfl⟩
theorem sX5_thing_63 : Snd MX5_thing 63 (xRet) := snd_iret (M := MX5_thing) (pc := 63) dX5_thing_63 rfl
theorem sX5_thing_64 : Snd MX5_thing 64 (xLdA 65 0) := snd_aload_n (M := MX5_thing) (pc := 64) dX5_thing_64
theorem sX5_thing_65 : Snd MX5_thing 65 (xGf 68 5 4) := snd_gf (M := MX5_thing) (pc := 65) (C0 := RX5) (T0 := TX5) (N := 13) dX5_thing_65 rfl tbX5 (by decide) w305
theorem sX5_thing_68 : Snd MX5_thing 68 (xGf 71 3 8) := snd_gf (M := MX5_thing) (pc := 68) (C0 := RX3) (T0 := TX3) (N := 14) dX5_thing_68 rfl tbX3 (by decide) w324
theorem sX5_thing_71 : Snd MX5_thing 71 (xLdI 72 1) := snd_iload_n (M := MX5_thing) (pc := 71) dX5_thing_71
theorem sX5_thing_72 : Snd MX5_thing 72 (xCallS MX5_at 2 75) := snd_callS (M := MX5_thing) (pc := 72) (n := 2) dX5_thing_72 w323 w123 ⟨w115, w122, ⟨by decide, by decide, by decide +kernel⟩, by decide⟩ ⟨rfl, rfl⟩
theorem sX5_thing_75 : Snd MX5_thing 75 (xRet) := snd_iret (M := MX5_thing) (pc := 75) dX5_thing_75 rfl
theorem sX5_thing_76 : Snd MX5_thing 76 (xLdA 77 0) := snd_aload_n (M := MX5_thing) (pc := 76) dX5_thing_76
theorem sX5_thing_77 : Snd MX5_thing 77 (xGf 80 5 4) := snd_gf (M := MX5_thing) (pc := 77) (C0 := RX5) (T0 := TX5) (N := 13) dX5_thing_77 rfl tbX5 (by decide) w305
theorem sX5_thing_80 : Snd MX5_thing 80 (xGf 83 3 9) := snd_gf (M := MX5_thing) (pc := 80) (C0 := RX3) (T0 := TX3) (N := 14) dX5_thing_80 rfl tbX3 (by decide) w325
theorem sX5_thing_83 : Snd MX5_thing 83 (xLdI 84 1) := snd_iload_n (M := MX5_thing) (pc := 83) dX5_thing_83
theorem sX5_thing_84 : Snd MX5_thing 84 (xCallS MX5_at 2 87) := snd_callS (M := MX5_thing) (pc := 84) (n := 2) dX5_thing_84 w323 w123 ⟨w115, w122, ⟨by decide, by decide, by decide +kernel⟩, by decide⟩ ⟨rfl, rfl⟩
theorem sX5_thing_87 : Snd MX5_thing 87 (xRet) := snd_iret (M := MX5_thing) (pc := 87) dX5_thing_87 rfl
theorem sX5_thing_88 : Snd MX5_thing 88 (xLdA 89 0) := snd_aload_n (M := MX5_thing) (pc := 88) dX5_thing_88
theorem sX5_thing_89 : Snd MX5_thing 89 (xGf 92 5 6) := snd_gf (M := MX5_thing) (pc := 89) (C0 := RX5) (T0 := TX5) (N := 13) dX5_thing_89 rfl tbX5 (by decide) w307
theorem sX5_thing_92 : Snd MX5_thing 92 (xGf 95 1 0) := snd_gf (M := MX5_thing) (pc := 92) (C0 := RX1) (T0 := TX1) (N := 4) dX5_thing_92 rfl tbX1 (by decide) w326
theorem sX5_thing_95 : Snd MX5_thing 95 (xLdI 96 1) := snd_iload_n (M := MX5_thing) (pc := 95) dX5_thing_95
theorem sX5_thing_96 : Snd MX5_thing 96 (xCallS MX5_has 2 99) := snd_callS (M := MX5_thing) (pc := 96) (n := 2) dX5_thing_96 w327 w117 ⟨w115, w116, ⟨by decide, by decide, by decide +kernel⟩, by decide⟩ ⟨rfl, rfl⟩
theorem sX5_thing_99 : Snd MX5_thing 99 (xCallS MX5_bit 1 102) := snd_callS (M := MX5_thing) (pc := 99) (n := 1) dX5_thing_99 w328 w241 ⟨w115, w240, ⟨by decide, by decide, by decide +kernel⟩, by decide⟩ ⟨rfl, rfl⟩
theorem sX5_thing_102 : Snd MX5_thing 102 (xRet) := snd_iret (M := MX5_thing) (pc := 102) dX5_thing_102 rfl
theorem sX5_thing_103 : Snd MX5_thing 103 (xLdA 104 0) := snd_aload_n (M := MX5_thing) (pc := 103) dX5_thing_103
theorem sX5_thing_104 : Snd MX5_thing 104 (xGf 107 5 6) := snd_gf (M := MX5_thing) (pc := 104) (C0 := RX5) (T0 := TX5) (N := 13) dX5_thing_104 rfl tbX5 (by decide) w307
theorem sX5_thing_107 : Snd MX5_thing 107 (xLdA 108 0) := snd_aload_n (M := MX5_thing) (pc := 107) dX5_thing_107
theorem sX5_thing_108 : Snd MX5_thing 108 (xGf 111 5 4) := snd_gf (M := MX5_thing) (pc := 108) (C0 := RX5) (T0 := TX5) (N := 13) dX5_thing_108 rfl tbX5 (by decide) w305
theorem sX5_thing_111 : Snd MX5_thing 111 (xLdI 112 1) := snd_iload_n (M := MX5_thing) (pc := 111) dX5_thing_111
theorem sX5_thing_112 : Snd MX5_thing 112 (xCallV MX1_canPutBy 1 2 115) := snd_callV (M := MX5_thing) (pc := 112) (n := 2) dX5_thing_112 rfl w329 w199 w200 ⟨w78, w197, ⟨by decide, by decide, by decide +kernel⟩, by decide⟩ ⟨rfl, rfl⟩
theorem sX5_thing_115 : Snd MX5_thing 115 (xCallS MX5_bit 1 118) := snd_callS (M := MX5_thing) (pc := 115) (n := 1) dX5_thing_115 w328 w241 ⟨w115, w240, ⟨by decide, by decide, by decide +kernel⟩, by decide⟩ ⟨rfl, rfl⟩
theorem sX5_thing_118 : Snd MX5_thing 118 (xRet) := snd_iret (M := MX5_thing) (pc := 118) dX5_thing_118 rfl
theorem sX5_thing_119 : Snd MX5_thing 119 (xLdA 120 0) := snd_aload_n (M := MX5_thing) (pc := 119) dX5_thing_119
theorem sX5_thing_120 : Snd MX5_thing 120 (xGf 123 5 4) := snd_gf (M := MX5_thing) (pc := 120) (C0 := RX5) (T0 := TX5) (N := 13) dX5_thing_120 rfl tbX5 (by decide) w305
theorem sX5_thing_123 : Snd MX5_thing 123 (xLdI 124 1) := snd_iload_n (M := MX5_thing) (pc := 123) dX5_thing_123
theorem sX5_thing_124 : Snd MX5_thing 124 (xCallV MX3_livesThatNeed 3 1 127) := snd_callV (M := MX5_thing) (pc := 124) (n := 1) dX5_thing_124 rfl w331 w332 w333 ⟨w83, w330, ⟨by decide, by decide, by decide +kernel⟩, by decide⟩ ⟨rfl, rfl⟩
theorem sX5_thing_127 : Snd MX5_thing 127 (xRet) := snd_iret (M := MX5_thing) (pc := 127) dX5_thing_127 rfl
theorem sX5_thing_128 : Snd MX5_thing 128 (xK 129 ((-1))) := snd_iconst (M := MX5_thing) (pc := 128) dX5_thing_128 (by decide +kernel)
theorem sX5_thing_129 : Snd MX5_thing 129 (xRet) := snd_iret (M := MX5_thing) (pc := 129) dX5_thing_129 rfl
theorem VX5_thing : Valid MX5_thing LX5_thing := va_lid sX5_thing_0 (va_lid sX5_thing_1 (va_lid sX5_thing_4 (va_lid sX5_thing_5 (va_lid sX5_thing_8 (va_lid sX5_thing_11 (va_lid sX5_thing_12 (va_lid sX5_thing_13 (va_lid sX5_thing_14 (va_lid sX5_thing_52 (va_lid sX5_thing_53 (va_lid sX5_thing_56 (va_lid sX5_thing_59 (va_lid sX5_thing_60 (va_lid sX5_thing_63 (va_lid sX5_thing_64 (va_lid sX5_thing_65 (va_lid sX5_thing_68 (va_lid sX5_thing_71 (va_lid sX5_thing_72 (va_lid sX5_thing_75 (va_lid sX5_thing_76 (va_lid sX5_thing_77 (va_lid sX5_thing_80 (va_lid sX5_thing_83 (va_lid sX5_thing_84 (va_lid sX5_thing_87 (va_lid sX5_thing_88 (va_lid sX5_thing_89 (va_lid sX5_thing_92 (va_lid sX5_thing_95 (va_lid sX5_thing_96 (va_lid sX5_thing_99 (va_lid sX5_thing_102 (va_lid sX5_thing_103 (va_lid sX5_thing_104 (va_lid sX5_thing_107 (va_lid sX5_thing_108 (va_lid sX5_thing_111 (va_lid sX5_thing_112 (va_lid sX5_thing_115 (va_lid sX5_thing_118 (va_lid sX5_thing_119 (va_lid sX5_thing_120 (va_lid sX5_thing_123 (va_lid sX5_thing_124 (va_lid sX5_thing_127 (va_lid sX5_thing_128 (va_lid sX5_thing_129 (va_lid0)))))))))))))))))))))))))))))))))))))))))))))))))
theorem kX5_thing_0 : lk LX5_thing 0 = some (xLdA 1 0) := rfl
theorem kX5_thing_1 : lk LX5_thing 1 = some (xGf 4 5 4) := rfl
theorem kX5_thing_4 : lk LX5_thing 4 = some (xLdI 5 1) := rfl
theorem kX5_thing_5 : lk LX5_thing 5 = some (xCallV MX3_isThing 3 1 8) := rfl
theorem kX5_thing_8 : lk LX5_thing 8 = some (xZ_ne 13 11) := rfl
theorem kX5_thing_11 : lk LX5_thing 11 = some (xK 12 ((-1))) := rfl
theorem kX5_thing_12 : lk LX5_thing 12 = some (xRet) := rfl
theorem kX5_thing_13 : lk LX5_thing 13 = some (xLdI 14 2) := rfl
theorem kX5_thing_14 : lk LX5_thing 14 = some (xTsw 128 0 [52, 64, 76, 88, 103, 119]) := rfl
theorem kX5_thing_52 : lk LX5_thing 52 = some (xLdA 53 0) := rfl
theorem kX5_thing_53 : lk LX5_thing 53 = some (xGf 56 5 4) := rfl
theorem kX5_thing_56 : lk LX5_thing 56 = some (xGf 59 3 7) := rfl
theorem kX5_thing_59 : lk LX5_thing 59 = some (xLdI 60 1) := rfl
theorem kX5_thing_60 : lk LX5_thing 60 = some (xCallS MX5_at 2 63) := rfl
theorem kX5_thing_63 : lk LX5_thing 63 = some (xRet) := rfl
theorem kX5_thing_64 : lk LX5_thing 64 = some (xLdA 65 0) := rfl
theorem kX5_thing_65 : lk LX5_thing 65 = some (xGf 68 5 4) := rfl
theorem kX5_thing_68 : lk LX5_thing 68 = some (xGf 71 3 8) := rfl
theorem kX5_thing_71 : lk LX5_thing 71 = some (xLdI 72 1) := rfl
theorem kX5_thing_72 : lk LX5_thing 72 = some (xCallS MX5_at 2 75) := rfl
theorem kX5_thing_75 : lk LX5_thing 75 = some (xRet) := rfl
theorem kX5_thing_76 : lk LX5_thing 76 = some (xLdA 77 0) := rfl
theorem kX5_thing_77 : lk LX5_thing 77 = some (xGf 80 5 4) := rfl
theorem kX5_thing_80 : lk LX5_thing 80 = some (xGf 83 3 9) := rfl
theorem kX5_thing_83 : lk LX5_thing 83 = some (xLdI 84 1) := rfl
theorem kX5_thing_84 : lk LX5_thing 84 = some (xCallS MX5_at 2 87) := rfl
theorem kX5_thing_87 : lk LX5_thing 87 = some (xRet) := rfl
theorem kX5_thing_88 : lk LX5_thing 88 = some (xLdA 89 0) := rfl
theorem kX5_thing_89 : lk LX5_thing 89 = some (xGf 92 5 6) := rfl
theorem kX5_thing_92 : lk LX5_thing 92 = some (xGf 95 1 0) := rfl
theorem kX5_thing_95 : lk LX5_thing 95 = some (xLdI 96 1) := rfl
theorem kX5_thing_96 : lk LX5_thing 96 = some (xCallS MX5_has 2 99) := rfl
theorem kX5_thing_99 : lk LX5_thing 99 = some (xCallS MX5_bit 1 102) := rfl
theorem kX5_thing_102 : lk LX5_thing 102 = some (xRet) := rfl
theorem kX5_thing_103 : lk LX5_thing 103 = some (xLdA 104 0) := rfl
theorem kX5_thing_104 : lk LX5_thing 104 = some (xGf 107 5 6) := rfl
theorem kX5_thing_107 : lk LX5_thing 107 = some (xLdA 108 0) := rfl
theorem kX5_thing_108 : lk LX5_thing 108 = some (xGf 111 5 4) := rfl
theorem kX5_thing_111 : lk LX5_thing 111 = some (xLdI 112 1) := rfl
theorem kX5_thing_112 : lk LX5_thing 112 = some (xCallV MX1_canPutBy 1 2 115) := rfl
theorem kX5_thing_115 : lk LX5_thing 115 = some (xCallS MX5_bit 1 118) := rfl
theorem kX5_thing_118 : lk LX5_thing 118 = some (xRet) := rfl
theorem kX5_thing_119 : lk LX5_thing 119 = some (xLdA 120 0) := rfl
theorem kX5_thing_120 : lk LX5_thing 120 = some (xGf 123 5 4) := rfl
theorem kX5_thing_123 : lk LX5_thing 123 = some (xLdI 124 1) := rfl
theorem kX5_thing_124 : lk LX5_thing 124 = some (xCallV MX3_livesThatNeed 3 1 127) := rfl
theorem kX5_thing_127 : lk LX5_thing 127 = some (xRet) := rfl
theorem kX5_thing_128 : lk LX5_thing 128 = some (xK 129 ((-1))) := rfl
theorem kX5_thing_129 : lk LX5_thing 129 = some (xRet) := rfl
def LX5_life : List (Nat × XI) := [(0, xLdA 1 0),
  (1, xGf 4 5 4),
  (4, xLdI 5 1),
  (5, xCallV MX3_isLife 3 1 8),
  (8, xZ_ne 13 11),
  (11, xK 12 ((-1))),
  (12, xRet),
  (13, xLdI 14 2),
  (14, xTsw 134 0 [52, 64, 76, 88, 100, 119]),
  (52, xLdA 53 0),
  (53, xGf 56 5 4),
  (56, xGf 59 3 10),
  (59, xLdI 60 1),
  (60, xCallS MX5_at 2 63),
  (63, xRet),
  (64, xLdA 65 0),
  (65, xGf 68 5 4),
  (68, xGf 71 3 11),
  (71, xLdI 72 1),
  (72, xCallS MX5_at 2 75),
  (75, xRet),
  (76, xLdA 77 0),
  (77, xGf 80 5 4),
  (80, xGf 83 3 12),
  (83, xLdI 84 1),
  (84, xCallS MX5_at 2 87),
  (87, xRet),
  (88, xLdA 89 0),
  (89, xGf 92 5 4),
  (92, xGf 95 3 13),
  (95, xLdI 96 1),
  (96, xCallS MX5_at 2 99),
  (99, xRet),
  (100, xLdA 101 0),
  (101, xGf 104 5 4),
  (104, xLdI 105 1),
  (105, xLdA 106 0),
  (106, xGf 109 5 6),
  (109, xGf 112 1 0),
  (112, xCallV MX3_canBe 3 2 115),
  (115, xCallS MX5_bit 1 118),
  (118, xRet),
  (119, xLdA 120 0),
  (120, xGf 123 5 6),
  (123, xGf 126 1 1),
  (126, xLdI 127 1),
  (127, xCallS MX5_has 2 130),
  (130, xCallS MX5_bit 1 133),
  (133, xRet),
  (134, xK 135 ((-1))),
  (135, xRet)]
theorem sX5_life_0 : Snd MX5_life 0 (xLdA 1 0) := snd_aload_n (M := MX5_life) (pc := 0) dX5_life_0
theorem sX5_life_1 : Snd MX5_life 1 (xGf 4 5 4) := snd_gf (M := MX5_life) (pc := 1) (C0 := RX5) (T0 := TX5) (N := 13) dX5_life_1 rfl tbX5 (by decide) w305
theorem sX5_life_4 : Snd MX5_life 4 (xLdI 5 1) := snd_iload_n (M := MX5_life) (pc := 4) dX5_life_4
theorem sX5_life_5 : Snd MX5_life 5 (xCallV MX3_isLife 3 1 8) := snd_callV (M := MX5_life) (pc := 5) (n := 1) dX5_life_5 rfl w334 w244 w245 ⟨w83, w242, ⟨by decide, by decide, by decide +kernel⟩, by decide⟩ ⟨rfl, rfl⟩
theorem sX5_life_8 : Snd MX5_life 8 (xZ_ne 13 11) := snd_if_ne (M := MX5_life) (pc := 8) dX5_life_8 (by decide)
theorem sX5_life_11 : Snd MX5_life 11 (xK 12 ((-1))) := snd_iconst (M := MX5_life) (pc := 11) dX5_life_11 (by decide +kernel)
theorem sX5_life_12 : Snd MX5_life 12 (xRet) := snd_iret (M := MX5_life) (pc := 12) dX5_life_12 rfl
theorem sX5_life_13 : Snd MX5_life 13 (xLdI 14 2) := snd_iload_n (M := MX5_life) (pc := 13) dX5_life_13
theorem sX5_life_14 : Snd MX5_life 14 (xTsw 134 0 [52, 64, 76, 88, 100, 119]) := snd_tsw (M := MX5_life) (pc := 14) dX5_life_14 rfl (by decide) (by decide) (by decide) (by decide +kernel)
theorem sX5_life_52 : Snd MX5_life 52 (xLdA 53 0) := snd_aload_n (M := MX5_life) (pc := 52) dX5_life_52
theorem sX5_life_53 : Snd MX5_life 53 (xGf 56 5 4) := snd_gf (M := MX5_life) (pc := 53) (C0 := RX5) (T0 := TX5) (N := 13) dX5_life_53 rfl tbX5 (by decide) w305
theorem sX5_life_56 : Snd MX5_life 56 (xGf 59 3 10) := snd_gf (M := MX5_life) (pc := 56) (C0 := RX3) (T0 := TX3) (N := 14) dX5_life_56 rfl tbX3 (by decide) w335
theorem sX5_life_59 : Snd MX5_life 59 (xLdI 60 1) := snd_iload_n (M := MX5_life) (pc := 59) dX5_life_59
theorem sX5_life_60 : Snd MX5_life 60 (xCallS MX5_at 2 63) := snd_callS (M := MX5_life) (pc := 60) (n := 2) dX5_life_60 w323 w123 ⟨w115, w122, ⟨by decide, by decide, by decide +kernel⟩, by decide⟩ ⟨rfl, rfl⟩
theorem sX5_life_63 : Snd MX5_life 63 (xRet) := snd_iret (M := MX5_life) (pc := 63) dX5_life_63 rfl
theorem sX5_life_64 : Snd MX5_life 64 (xLdA 65 0) := snd_aload_n (M := MX5_life) (pc := 64) dX5_life_64
theorem sX5_life_65 : Snd MX5_life 65 (xGf 68 5 4) := snd_gf (M := MX5_life) (pc := 65) (C0 := RX5) (T0 := TX5) (N := 13) dX5_life_65 rfl tbX5 (by decide) w305
theorem sX5_life_68 : Snd MX5_life 68 (xGf 71 3 11) := snd_gf (M := MX5_life) (pc := 68) (C0 := RX3) (T0 := TX3) (N := 14) dX5_life_68 rfl tbX3 (by decide) w336
theorem sX5_life_71 : Snd MX5_life 71 (xLdI 72 1) := snd_iload_n (M := MX5_life) (pc := 71) dX5_life_71
theorem sX5_life_72 : Snd MX5_life 72 (xCallS MX5_at 2 75) := snd_callS (M := MX5_life) (pc := 72) (n := 2) dX5_life_72 w323 w123 ⟨w115, w122, ⟨by decide, by decide, by decide +kernel⟩, by decide⟩ ⟨rfl, rfl⟩
theorem sX5_life_75 : Snd MX5_life 75 (xRet) := snd_iret (M := MX5_life) (pc := 75) dX5_life_75 rfl
theorem sX5_life_76 : Snd MX5_life 76 (xLdA 77 0) := snd_aload_n (M := MX5_life) (pc := 76) dX5_life_76
theorem sX5_life_77 : Snd MX5_life 77 (xGf 80 5 4) := snd_gf (M := MX5_life) (pc := 77) (C0 := RX5) (T0 := TX5) (N := 13) dX5_life_77 rfl tbX5 (by decide) w305
theorem sX5_life_80 : Snd MX5_life 80 (xGf 83 3 12) := snd_gf (M := MX5_life) (pc := 80) (C0 := RX3) (T0 := TX3) (N := 14) dX5_life_80 rfl tbX3 (by decide) w337
theorem sX5_life_83 : Snd MX5_life 83 (xLdI 84 1) := snd_iload_n (M := MX5_life) (pc := 83) dX5_life_83
theorem sX5_life_84 : Snd MX5_life 84 (xCallS MX5_at 2 87) := snd_callS (M := MX5_life) (pc := 84) (n := 2) dX5_life_84 w323 w123 ⟨w115, w122, ⟨by decide, by decide, by decide +kernel⟩, by decide⟩ ⟨rfl, rfl⟩
theorem sX5_life_87 : Snd MX5_life 87 (xRet) := snd_iret (M := MX5_life) (pc := 87) dX5_life_87 rfl
theorem sX5_life_88 : Snd MX5_life 88 (xLdA 89 0) := snd_aload_n (M := MX5_life) (pc := 88) dX5_life_88
theorem sX5_life_89 : Snd MX5_life 89 (xGf 92 5 4) := snd_gf (M := MX5_life) (pc := 89) (C0 := RX5) (T0 := TX5) (N := 13) dX5_life_89 rfl tbX5 (by decide) w305
theorem sX5_life_92 : Snd MX5_life 92 (xGf 95 3 13) := snd_gf (M := MX5_life) (pc := 92) (C0 := RX3) (T0 := TX3) (N := 14) dX5_life_92 rfl tbX3 (by decide) w338
theorem sX5_life_95 : Snd MX5_life 95 (xLdI 96 1) := snd_iload_n (M := MX5_life) (pc := 95) dX5_life_95
theorem sX5_life_96 : Snd MX5_life 96 (xCallS MX5_at 2 99) := snd_callS (M := MX5_life) (pc := 96) (n := 2) dX5_life_96 w323 w123 ⟨w115, w122, ⟨by decide, by decide, by decide +kernel⟩, by decide⟩ ⟨rfl, rfl⟩
theorem sX5_life_99 : Snd MX5_life 99 (xRet) := snd_iret (M := MX5_life) (pc := 99) dX5_life_99 rfl
theorem sX5_life_100 : Snd MX5_life 100 (xLdA 101 0) := snd_aload_n (M := MX5_life) (pc := 100) dX5_life_100
theorem sX5_life_101 : Snd MX5_life 101 (xGf 104 5 4) := snd_gf (M := MX5_life) (pc := 101) (C0 := RX5) (T0 := TX5) (N := 13) dX5_life_101 rfl tbX5 (by decide) w305
theorem sX5_life_104 : Snd MX5_life 104 (xLdI 105 1) := snd_iload_n (M := MX5_life) (pc := 104) dX5_life_104
theorem sX5_life_105 : Snd MX5_life 105 (xLdA 106 0) := snd_aload_n (M := MX5_life) (pc := 105) dX5_life_105
theorem sX5_life_106 : Snd MX5_life 106 (xGf 109 5 6) := snd_gf (M := MX5_life) (pc := 106) (C0 := RX5) (T0 := TX5) (N := 13) dX5_life_106 rfl tbX5 (by decide) w307
theorem sX5_life_109 : Snd MX5_life 109 (xGf 112 1 0) := snd_gf (M := MX5_life) (pc := 109) (C0 := RX1) (T0 := TX1) (N := 4) dX5_life_109 rfl tbX1 (by decide) w326
theorem sX5_life_112 : Snd MX5_life 112 (xCallV MX3_canBe 3 2 115) := snd_callV (M := MX5_life) (pc := 112) (n := 2) dX5_life_112 rfl w339 w149 w150 ⟨w83, w147, ⟨by decide, by decide, by decide +kernel⟩, by decide⟩ ⟨rfl, rfl⟩
theorem sX5_life_115 : Snd MX5_life 115 (xCallS MX5_bit 1 118) := snd_callS (M := MX5_life) (pc := 115) (n := 1) dX5_life_115 w328 w241 ⟨w115, w240, ⟨by decide, by decide, by decide +kernel⟩, by decide⟩ ⟨rfl, rfl⟩
theorem sX5_life_118 : Snd MX5_life 118 (xRet) := snd_iret (M := MX5_life) (pc := 118) dX5_life_118 rfl
theorem sX5_life_119 : Snd MX5_life 119 (xLdA 120 0) := snd_aload_n (M := MX5_life) (pc := 119) dX5_life_119
theorem sX5_life_120 : Snd MX5_life 120 (xGf 123 5 6) := snd_gf (M := MX5_life) (pc := 120) (C0 := RX5) (T0 := TX5) (N := 13) dX5_life_120 rfl tbX5 (by decide) w307
theorem sX5_life_123 : Snd MX5_life 123 (xGf 126 1 1) := snd_gf (M := MX5_life) (pc := 123) (C0 := RX1) (T0 := TX1) (N := 4) dX5_life_123 rfl tbX1 (by decide) w340
theorem sX5_life_126 : Snd MX5_life 126 (xLdI 127 1) := snd_iload_n (M := MX5_life) (pc := 126) dX5_life_126
theorem sX5_life_127 : Snd MX5_life 127 (xCallS MX5_has 2 130) := snd_callS (M := MX5_life) (pc := 127) (n := 2) dX5_life_127 w327 w117 ⟨w115, w116, ⟨by decide, by decide, by decide +kernel⟩, by decide⟩ ⟨rfl, rfl⟩
theorem sX5_life_130 : Snd MX5_life 130 (xCallS MX5_bit 1 133) := snd_callS (M := MX5_life) (pc := 130) (n := 1) dX5_life_130 w328 w241 ⟨w115, w240, ⟨by decide, by decide, by decide +kernel⟩, by decide⟩ ⟨rfl, rfl⟩
theorem sX5_life_133 : Snd MX5_life 133 (xRet) := snd_iret (M := MX5_life) (pc := 133) dX5_life_133 rfl
theorem sX5_life_134 : Snd MX5_life 134 (xK 135 ((-1))) := snd_iconst (M := MX5_life) (pc := 134) dX5_life_134 (by decide +kernel)
theorem sX5_life_135 : Snd MX5_life 135 (xRet) := snd_iret (M := MX5_life) (pc := 135) dX5_life_135 rfl
theorem VX5_life : Valid MX5_life LX5_life := va_lid sX5_life_0 (va_lid sX5_life_1 (va_lid sX5_life_4 (va_lid sX5_life_5 (va_lid sX5_life_8 (va_lid sX5_life_11 (va_lid sX5_life_12 (va_lid sX5_life_13 (va_lid sX5_life_14 (va_lid sX5_life_52 (va_lid sX5_life_53 (va_lid sX5_life_56 (va_lid sX5_life_59 (va_lid sX5_life_60 (va_lid sX5_life_63 (va_lid sX5_life_64 (va_lid sX5_life_65 (va_lid sX5_life_68 (va_lid sX5_life_71 (va_lid sX5_life_72 (va_lid sX5_life_75 (va_lid sX5_life_76 (va_lid sX5_life_77 (va_lid sX5_life_80 (va_lid sX5_life_83 (va_lid sX5_life_84 (va_lid sX5_life_87 (va_lid sX5_life_88 (va_lid sX5_life_89 (va_lid sX5_life_92 (va_lid sX5_life_95 (va_lid sX5_life_96 (va_lid sX5_life_99 (va_lid sX5_life_100 (va_lid sX5_life_101 (va_lid sX5_life_104 (va_lid sX5_life_105 (va_lid sX5_life_106 (va_lid sX5_life_109 (va_lid sX5_life_112 (va_lid sX5_life_115 (va_lid sX5_life_118 (va_lid sX5_life_119 (va_lid sX5_life_120 (va_lid sX5_life_123 (va_lid sX5_life_126 (va_lid sX5_life_127 (va_lid sX5_life_130 (va_lid sX5_life_133 (va_lid sX5_life_134 (va_lid sX5_life_135 (va_lid0)))))))))))))))))))))))))))))))))))))))))))))))))))
theorem kX5_life_0 : lk LX5_life 0 = some (xLdA 1 0) := rfl
theorem kX5_life_1 : lk LX5_life 1 = some (xGf 4 5 4) := rfl
theorem kX5_life_4 : lk LX5_life 4 = some (xLdI 5 1) := rfl
theorem kX5_life_5 : lk LX5_life 5 = some (xCallV MX3_isLife 3 1 8) := rfl
theorem kX5_life_8 : lk LX5_life 8 = some (xZ_ne 13 11) := rfl
theorem kX5_life_11 : lk LX5_life 11 = some (xK 12 ((-1))) := rfl
theorem kX5_life_12 : lk LX5_life 12 = some (xRet) := rfl
theorem kX5_life_13 : lk LX5_life 13 = some (xLdI 14 2) := rfl
theorem kX5_life_14 : lk LX5_life 14 = some (xTsw 134 0 [52, 64, 76, 88, 100, 119]) := rfl
theorem kX5_life_52 : lk LX5_life 52 = some (xLdA 53 0) := rfl
theorem kX5_life_53 : lk LX5_life 53 = some (xGf 56 5 4) := rfl
theorem kX5_life_56 : lk LX5_life 56 = some (xGf 59 3 10) := rfl
theorem kX5_life_59 : lk LX5_life 59 = some (xLdI 60 1) := rfl
theorem kX5_life_60 : lk LX5_life 60 = some (xCallS MX5_at 2 63) := rfl
theorem kX5_life_63 : lk LX5_life 63 = some (xRet) := rfl
theorem kX5_life_64 : lk LX5_life 64 = some (xLdA 65 0) := rfl
theorem kX5_life_65 : lk LX5_life 65 = some (xGf 68 5 4) := rfl
theorem kX5_life_68 : lk LX5_life 68 = some (xGf 71 3 11) := rfl
theorem kX5_life_71 : lk LX5_life 71 = some (xLdI 72 1) := rfl
theorem kX5_life_72 : lk LX5_life 72 = some (xCallS MX5_at 2 75) := rfl
theorem kX5_life_75 : lk LX5_life 75 = some (xRet) := rfl
theorem kX5_life_76 : lk LX5_life 76 = some (xLdA 77 0) := rfl
theorem kX5_life_77 : lk LX5_life 77 = some (xGf 80 5 4) := rfl
theorem kX5_life_80 : lk LX5_life 80 = some (xGf 83 3 12) := rfl
theorem kX5_life_83 : lk LX5_life 83 = some (xLdI 84 1) := rfl
theorem kX5_life_84 : lk LX5_life 84 = some (xCallS MX5_at 2 87) := rfl
theorem kX5_life_87 : lk LX5_life 87 = some (xRet) := rfl
theorem kX5_life_88 : lk LX5_life 88 = some (xLdA 89 0) := rfl
theorem kX5_life_89 : lk LX5_life 89 = some (xGf 92 5 4) := rfl
theorem kX5_life_92 : lk LX5_life 92 = some (xGf 95 3 13) := rfl
theorem kX5_life_95 : lk LX5_life 95 = some (xLdI 96 1) := rfl
theorem kX5_life_96 : lk LX5_life 96 = some (xCallS MX5_at 2 99) := rfl
theorem kX5_life_99 : lk LX5_life 99 = some (xRet) := rfl
theorem kX5_life_100 : lk LX5_life 100 = some (xLdA 101 0) := rfl
theorem kX5_life_101 : lk LX5_life 101 = some (xGf 104 5 4) := rfl
theorem kX5_life_104 : lk LX5_life 104 = some (xLdI 105 1) := rfl
theorem kX5_life_105 : lk LX5_life 105 = some (xLdA 106 0) := rfl
theorem kX5_life_106 : lk LX5_life 106 = some (xGf 109 5 6) := rfl
theorem kX5_life_109 : lk LX5_life 109 = some (xGf 112 1 0) := rfl
theorem kX5_life_112 : lk LX5_life 112 = some (xCallV MX3_canBe 3 2 115) := rfl
theorem kX5_life_115 : lk LX5_life 115 = some (xCallS MX5_bit 1 118) := rfl
theorem kX5_life_118 : lk LX5_life 118 = some (xRet) := rfl
theorem kX5_life_119 : lk LX5_life 119 = some (xLdA 120 0) := rfl
theorem kX5_life_120 : lk LX5_life 120 = some (xGf 123 5 6) := rfl
theorem kX5_life_123 : lk LX5_life 123 = some (xGf 126 1 1) := rfl
theorem kX5_life_126 : lk LX5_life 126 = some (xLdI 127 1) := rfl
theorem kX5_life_127 : lk LX5_life 127 = some (xCallS MX5_has 2 130) := rfl
theorem kX5_life_130 : lk LX5_life 130 = some (xCallS MX5_bit 1 133) := rfl
theorem kX5_life_133 : lk LX5_life 133 = some (xRet) := rfl
theorem kX5_life_134 : lk LX5_life 134 = some (xK 135 ((-1))) := rfl
theorem kX5_life_135 : lk LX5_life 135 = some (xRet) := rfl
def LX5_room : List (Nat × XI) := [(0, xLdA 1 0),
  (1, xGf 4 5 4),
  (4, xLdA 5 0),
  (5, xGf 8 5 6),
  (8, xGf 11 1 0),
  (11, xCallV MX3_roomTaken 3 1 14),
  (14, xRet)]
theorem sX5_room_0 : Snd MX5_room 0 (xLdA 1 0) := snd_aload_n (M := MX5_room) (pc := 0) dX5_room_0
theorem sX5_room_1 : Snd MX5_room 1 (xGf 4 5 4) := snd_gf (M := MX5_room) (pc := 1) (C0 := RX5) (T0 := TX5) (N := 13) dX5_room_1 rfl tbX5 (by decide) w305
theorem sX5_room_4 : Snd MX5_room 4 (xLdA 5 0) := snd_aload_n (M := MX5_room) (pc := 4) dX5_room_4
theorem sX5_room_5 : Snd MX5_room 5 (xGf 8 5 6) := snd_gf (M := MX5_room) (pc := 5) (C0 := RX5) (T0 := TX5) (N := 13) dX5_room_5 rfl tbX5 (by decide) w307
theorem sX5_room_8 : Snd MX5_room 8 (xGf 11 1 0) := snd_gf (M := MX5_room) (pc := 8) (C0 := RX1) (T0 := TX1) (N := 4) dX5_room_8 rfl tbX1 (by decide) w326
theorem sX5_room_11 : Snd MX5_room 11 (xCallV MX3_roomTaken 3 1 14) := snd_callV (M := MX5_room) (pc := 11) (n := 1) dX5_room_11 rfl w341 w94 w95 ⟨w83, w92, ⟨by decide, by decide, by decide +kernel⟩, by decide⟩ ⟨rfl, rfl⟩
theorem sX5_room_14 : Snd MX5_room 14 (xRet) := snd_iret (M := MX5_room) (pc := 14) dX5_room_14 rfl
theorem VX5_room : Valid MX5_room LX5_room := va_lid sX5_room_0 (va_lid sX5_room_1 (va_lid sX5_room_4 (va_lid sX5_room_5 (va_lid sX5_room_8 (va_lid sX5_room_11 (va_lid sX5_room_14 (va_lid0)))))))
theorem kX5_room_0 : lk LX5_room 0 = some (xLdA 1 0) := rfl
theorem kX5_room_1 : lk LX5_room 1 = some (xGf 4 5 4) := rfl
theorem kX5_room_4 : lk LX5_room 4 = some (xLdA 5 0) := rfl
theorem kX5_room_5 : lk LX5_room 5 = some (xGf 8 5 6) := rfl
theorem kX5_room_8 : lk LX5_room 8 = some (xGf 11 1 0) := rfl
theorem kX5_room_11 : lk LX5_room 11 = some (xCallV MX3_roomTaken 3 1 14) := rfl
theorem kX5_room_14 : lk LX5_room 14 = some (xRet) := rfl
def LX5_worth : List (Nat × XI) := [(0, xLdA 1 0),
  (1, xGf 4 5 4),
  (4, xLdI 5 1),
  (5, xCallV MX3_isSetOfThings 3 1 8),
  (8, xZ_eq 18 11),
  (11, xLdI 12 2),
  (12, xCallS MX5_isPart 1 15),
  (15, xZ_ne 20 18),
  (18, xK 19 ((-1))),
  (19, xRet),
  (20, xLdA 21 0),
  (21, xLdI 22 1),
  (22, xLdI 23 2),
  (23, xCallV MX5_worthPart 5 2 26),
  (26, xRet)]
theorem sX5_worth_0 : Snd MX5_worth 0 (xLdA 1 0) := snd_aload_n (M := MX5_worth) (pc := 0) dX5_worth_0
theorem sX5_worth_1 : Snd MX5_worth 1 (xGf 4 5 4) := snd_gf (M := MX5_worth) (pc := 1) (C0 := RX5) (T0 := TX5) (N := 13) dX5_worth_1 rfl tbX5 (by decide) w305
theorem sX5_worth_4 : Snd MX5_worth 4 (xLdI 5 1) := snd_iload_n (M := MX5_worth) (pc := 4) dX5_worth_4
theorem sX5_worth_5 : Snd MX5_worth 5 (xCallV MX3_isSetOfThings 3 1 8) := snd_callV (M := MX5_worth) (pc := 5) (n := 1) dX5_worth_5 rfl w343 w344 w345 ⟨w83, w342, ⟨by decide, by decide, by decide +kernel⟩, by decide⟩ ⟨rfl, rfl⟩
theorem sX5_worth_8 : Snd MX5_worth 8 (xZ_eq 18 11) := snd_if_eq (M := MX5_worth) (pc := 8) dX5_worth_8 (by decide)
theorem sX5_worth_11 : Snd MX5_worth 11 (xLdI 12 2) := snd_iload_n (M := MX5_worth) (pc := 11) dX5_worth_11
theorem sX5_worth_12 : Snd MX5_worth 12 (xCallS MX5_isPart 1 15) := snd_callS (M := MX5_worth) (pc := 12) (n := 1) dX5_worth_12 w347 w348 ⟨w115, w346, ⟨by decide, by decide, by decide +kernel⟩, by decide⟩ ⟨rfl, rfl⟩
theorem sX5_worth_15 : Snd MX5_worth 15 (xZ_ne 20 18) := snd_if_ne (M := MX5_worth) (pc := 15) dX5_worth_15 (by decide)
theorem sX5_worth_18 : Snd MX5_worth 18 (xK 19 ((-1))) := snd_iconst (M := MX5_worth) (pc := 18) dX5_worth_18 (by decide +kernel)
theorem sX5_worth_19 : Snd MX5_worth 19 (xRet) := snd_iret (M := MX5_worth) (pc := 19) dX5_worth_19 rfl
theorem sX5_worth_20 : Snd MX5_worth 20 (xLdA 21 0) := snd_aload_n (M := MX5_worth) (pc := 20) dX5_worth_20
theorem sX5_worth_21 : Snd MX5_worth 21 (xLdI 22 1) := snd_iload_n (M := MX5_worth) (pc := 21) dX5_worth_21
theorem sX5_worth_22 : Snd MX5_worth 22 (xLdI 23 2) := snd_iload_n (M := MX5_worth) (pc := 22) dX5_worth_22
theorem sX5_worth_23 : Snd MX5_worth 23 (xCallV MX5_worthPart 5 2 26) := snd_callV (M := MX5_worth) (pc := 23) (n := 2) dX5_worth_23 rfl w350 w351 w352 ⟨w115, w349, ⟨by decide, by decide, by decide +kernel⟩, by decide⟩ ⟨rfl, rfl⟩
theorem sX5_worth_26 : Snd MX5_worth 26 (xRet) := snd_iret (M := MX5_worth) (pc := 26) dX5_worth_26 rfl
theorem VX5_worth : Valid MX5_worth LX5_worth := va_lid sX5_worth_0 (va_lid sX5_worth_1 (va_lid sX5_worth_4 (va_lid sX5_worth_5 (va_lid sX5_worth_8 (va_lid sX5_worth_11 (va_lid sX5_worth_12 (va_lid sX5_worth_15 (va_lid sX5_worth_18 (va_lid sX5_worth_19 (va_lid sX5_worth_20 (va_lid sX5_worth_21 (va_lid sX5_worth_22 (va_lid sX5_worth_23 (va_lid sX5_worth_26 (va_lid0)))))))))))))))
theorem kX5_worth_0 : lk LX5_worth 0 = some (xLdA 1 0) := rfl
theorem kX5_worth_1 : lk LX5_worth 1 = some (xGf 4 5 4) := rfl
theorem kX5_worth_4 : lk LX5_worth 4 = some (xLdI 5 1) := rfl
theorem kX5_worth_5 : lk LX5_worth 5 = some (xCallV MX3_isSetOfThings 3 1 8) := rfl
theorem kX5_worth_8 : lk LX5_worth 8 = some (xZ_eq 18 11) := rfl
theorem kX5_worth_11 : lk LX5_worth 11 = some (xLdI 12 2) := rfl
theorem kX5_worth_12 : lk LX5_worth 12 = some (xCallS MX5_isPart 1 15) := rfl
theorem kX5_worth_15 : lk LX5_worth 15 = some (xZ_ne 20 18) := rfl
theorem kX5_worth_18 : lk LX5_worth 18 = some (xK 19 ((-1))) := rfl
theorem kX5_worth_19 : lk LX5_worth 19 = some (xRet) := rfl
theorem kX5_worth_20 : lk LX5_worth 20 = some (xLdA 21 0) := rfl
theorem kX5_worth_21 : lk LX5_worth 21 = some (xLdI 22 1) := rfl
theorem kX5_worth_22 : lk LX5_worth 22 = some (xLdI 23 2) := rfl
theorem kX5_worth_23 : lk LX5_worth 23 = some (xCallV MX5_worthPart 5 2 26) := rfl
theorem kX5_worth_26 : lk LX5_worth 26 = some (xRet) := rfl
def LX5_put : List (Nat × XI) := [(0, xLdA 1 0),
  (1, xGf 4 5 4),
  (4, xLdI 5 1),
  (5, xCallV MX3_isThing 3 1 8),
  (8, xZ_ne 13 11),
  (11, xK 12 ((-1))),
  (12, xRet),
  (13, xLdA 14 0),
  (14, xGf 17 5 6),
  (17, xLdA 18 0),
  (18, xGf 21 5 4),
  (21, xLdI 22 1),
  (22, xCallV MX1_canPutBy 1 2 25),
  (25, xZ_ne 31 28),
  (28, xK 30 ((-2))),
  (30, xRet),
  (31, xLdA 32 0),
  (32, xGf 35 5 8),
  (35, xLdA 36 0),
  (36, xGf 39 5 6),
  (39, xCallV MX2_add 2 1 42),
  (42, xLdA 43 0),
  (43, xGf 46 5 6),
  (46, xLdA 47 0),
  (47, xGf 50 5 4),
  (50, xLdI 51 1),
  (51, xCallV MX1_putBy 1 2 54),
  (54, xLdA 55 0),
  (55, xCallV MX5_roomLeft 5 0 58),
  (58, xRet)]
theorem sX5_put_0 : Snd MX5_put 0 (xLdA 1 0) := snd_aload_n (M := MX5_put) (pc := 0) dX5_put_0
theorem sX5_put_1 : Snd MX5_put 1 (xGf 4 5 4) := snd_gf (M := MX5_put) (pc := 1) (C0 := RX5) (T0 := TX5) (N := 13) dX5_put_1 rfl tbX5 (by decide) w305
theorem sX5_put_4 : Snd MX5_put 4 (xLdI 5 1) := snd_iload_n (M := MX5_put) (pc := 4) dX5_put_4
theorem sX5_put_5 : Snd MX5_put 5 (xCallV MX3_isThing 3 1 8) := snd_callV (M := MX5_put) (pc := 5) (n := 1) dX5_put_5 rfl w321 w248 w249 ⟨w83, w246, ⟨by decide, by decide, by decide +kernel⟩, by decide⟩ ⟨rfl, rfl⟩
theorem sX5_put_8 : Snd MX5_put 8 (xZ_ne 13 11) := snd_if_ne (M := MX5_put) (pc := 8) dX5_put_8 (by decide)
theorem sX5_put_11 : Snd MX5_put 11 (xK 12 ((-1))) := snd_iconst (M := MX5_put) (pc := 11) dX5_put_11 (by decide +kernel)
theorem sX5_put_12 : Snd MX5_put 12 (xRet) := snd_iret (M := MX5_put) (pc := 12) dX5_put_12 rfl
theorem sX5_put_13 : Snd MX5_put 13 (xLdA 14 0) := snd_aload_n (M := MX5_put) (pc := 13) dX5_put_13
theorem sX5_put_14 : Snd MX5_put 14 (xGf 17 5 6) := snd_gf (M := MX5_put) (pc := 14) (C0 := RX5) (T0 := TX5) (N := 13) dX5_put_14 rfl tbX5 (by decide) w307
theorem sX5_put_17 : Snd MX5_put 17 (xLdA 18 0) := snd_aload_n (M := MX5_put) (pc := 17) dX5_put_17
theorem sX5_put_18 : Snd MX5_put 18 (xGf 21 5 4) := snd_gf (M := MX5_put) (pc := 18) (C0 := RX5) (T0 := TX5) (N := 13) dX5_put_18 rfl tbX5 (by decide) w305
theorem sX5_put_21 : Snd MX5_put 21 (xLdI 22 1) := snd_iload_n (M := MX5_put) (pc := 21) dX5_put_21
theorem sX5_put_22 : Snd MX5_put 22 (xCallV MX1_canPutBy 1 2 25) := snd_callV (M := MX5_put) (pc := 22) (n := 2) dX5_put_22 rfl w329 w199 w200 ⟨w78, w197, ⟨by decide, by decide, by decide +kernel⟩, by decide⟩ ⟨rfl, rfl⟩
theorem sX5_put_25 : Snd MX5_put 25 (xZ_ne 31 28) := snd_if_ne (M := MX5_put) (pc := 25) dX5_put_25 (by decide)
theorem sX5_put_28 : Snd MX5_put 28 (xK 30 ((-2))) := snd_bipush (M := MX5_put) (pc := 28) dX5_put_28 (by decide +kernel)
theorem sX5_put_30 : Snd MX5_put 30 (xRet) := snd_iret (M := MX5_put) (pc := 30) dX5_put_30 rfl
theorem sX5_put_31 : Snd MX5_put 31 (xLdA 32 0) := snd_aload_n (M := MX5_put) (pc := 31) dX5_put_31
theorem sX5_put_32 : Snd MX5_put 32 (xGf 35 5 8) := snd_gf (M := MX5_put) (pc := 32) (C0 := RX5) (T0 := TX5) (N := 13) dX5_put_32 rfl tbX5 (by decide) w309
theorem sX5_put_35 : Snd MX5_put 35 (xLdA 36 0) := snd_aload_n (M := MX5_put) (pc := 35) dX5_put_35
theorem sX5_put_36 : Snd MX5_put 36 (xGf 39 5 6) := snd_gf (M := MX5_put) (pc := 36) (C0 := RX5) (T0 := TX5) (N := 13) dX5_put_36 rfl tbX5 (by decide) w307
theorem sX5_put_39 : Snd MX5_put 39 (xCallV MX2_add 2 1 42) := snd_callV (M := MX5_put) (pc := 39) (n := 1) dX5_put_39 rfl w354 w355 w356 ⟨w216, w353, ⟨by decide, by decide, by decide +kernel⟩, by decide⟩ ⟨rfl, rfl⟩
theorem sX5_put_42 : Snd MX5_put 42 (xLdA 43 0) := snd_aload_n (M := MX5_put) (pc := 42) dX5_put_42
theorem sX5_put_43 : Snd MX5_put 43 (xGf 46 5 6) := snd_gf (M := MX5_put) (pc := 43) (C0 := RX5) (T0 := TX5) (N := 13) dX5_put_43 rfl tbX5 (by decide) w307
theorem sX5_put_46 : Snd MX5_put 46 (xLdA 47 0) := snd_aload_n (M := MX5_put) (pc := 46) dX5_put_46
theorem sX5_put_47 : Snd MX5_put 47 (xGf 50 5 4) := snd_gf (M := MX5_put) (pc := 47) (C0 := RX5) (T0 := TX5) (N := 13) dX5_put_47 rfl tbX5 (by decide) w305
theorem sX5_put_50 : Snd MX5_put 50 (xLdI 51 1) := snd_iload_n (M := MX5_put) (pc := 50) dX5_put_50
theorem sX5_put_51 : Snd MX5_put 51 (xCallV MX1_putBy 1 2 54) := snd_callV (M := MX5_put) (pc := 51) (n := 2) dX5_put_51 rfl w357 w203 w204 ⟨w78, w201, ⟨by decide, by decide, by decide +kernel⟩, by decide⟩ ⟨rfl, rfl⟩
theorem sX5_put_54 : Snd MX5_put 54 (xLdA 55 0) := snd_aload_n (M := MX5_put) (pc := 54) dX5_put_54
theorem sX5_put_55 : Snd MX5_put 55 (xCallV MX5_roomLeft 5 0 58) := snd_callV (M := MX5_put) (pc := 55) (n := 0) dX5_put_55 rfl w359 w360 w361 ⟨w115, w358, ⟨by decide, by decide, by decide +kernel⟩, by decide⟩ ⟨rfl, rfl⟩
theorem sX5_put_58 : Snd MX5_put 58 (xRet) := snd_iret (M := MX5_put) (pc := 58) dX5_put_58 rfl
theorem VX5_put : Valid MX5_put LX5_put := va_lid sX5_put_0 (va_lid sX5_put_1 (va_lid sX5_put_4 (va_lid sX5_put_5 (va_lid sX5_put_8 (va_lid sX5_put_11 (va_lid sX5_put_12 (va_lid sX5_put_13 (va_lid sX5_put_14 (va_lid sX5_put_17 (va_lid sX5_put_18 (va_lid sX5_put_21 (va_lid sX5_put_22 (va_lid sX5_put_25 (va_lid sX5_put_28 (va_lid sX5_put_30 (va_lid sX5_put_31 (va_lid sX5_put_32 (va_lid sX5_put_35 (va_lid sX5_put_36 (va_lid sX5_put_39 (va_lid sX5_put_42 (va_lid sX5_put_43 (va_lid sX5_put_46 (va_lid sX5_put_47 (va_lid sX5_put_50 (va_lid sX5_put_51 (va_lid sX5_put_54 (va_lid sX5_put_55 (va_lid sX5_put_58 (va_lid0))))))))))))))))))))))))))))))
theorem kX5_put_0 : lk LX5_put 0 = some (xLdA 1 0) := rfl
theorem kX5_put_1 : lk LX5_put 1 = some (xGf 4 5 4) := rfl
theorem kX5_put_4 : lk LX5_put 4 = some (xLdI 5 1) := rfl
theorem kX5_put_5 : lk LX5_put 5 = some (xCallV MX3_isThing 3 1 8) := rfl
theorem kX5_put_8 : lk LX5_put 8 = some (xZ_ne 13 11) := rfl
theorem kX5_put_11 : lk LX5_put 11 = some (xK 12 ((-1))) := rfl
theorem kX5_put_12 : lk LX5_put 12 = some (xRet) := rfl
theorem kX5_put_13 : lk LX5_put 13 = some (xLdA 14 0) := rfl
theorem kX5_put_14 : lk LX5_put 14 = some (xGf 17 5 6) := rfl
theorem kX5_put_17 : lk LX5_put 17 = some (xLdA 18 0) := rfl
theorem kX5_put_18 : lk LX5_put 18 = some (xGf 21 5 4) := rfl
theorem kX5_put_21 : lk LX5_put 21 = some (xLdI 22 1) := rfl
theorem kX5_put_22 : lk LX5_put 22 = some (xCallV MX1_canPutBy 1 2 25) := rfl
theorem kX5_put_25 : lk LX5_put 25 = some (xZ_ne 31 28) := rfl
theorem kX5_put_28 : lk LX5_put 28 = some (xK 30 ((-2))) := rfl
theorem kX5_put_30 : lk LX5_put 30 = some (xRet) := rfl
theorem kX5_put_31 : lk LX5_put 31 = some (xLdA 32 0) := rfl
theorem kX5_put_32 : lk LX5_put 32 = some (xGf 35 5 8) := rfl
theorem kX5_put_35 : lk LX5_put 35 = some (xLdA 36 0) := rfl
theorem kX5_put_36 : lk LX5_put 36 = some (xGf 39 5 6) := rfl
theorem kX5_put_39 : lk LX5_put 39 = some (xCallV MX2_add 2 1 42) := rfl
theorem kX5_put_42 : lk LX5_put 42 = some (xLdA 43 0) := rfl
theorem kX5_put_43 : lk LX5_put 43 = some (xGf 46 5 6) := rfl
theorem kX5_put_46 : lk LX5_put 46 = some (xLdA 47 0) := rfl
theorem kX5_put_47 : lk LX5_put 47 = some (xGf 50 5 4) := rfl
theorem kX5_put_50 : lk LX5_put 50 = some (xLdI 51 1) := rfl
theorem kX5_put_51 : lk LX5_put 51 = some (xCallV MX1_putBy 1 2 54) := rfl
theorem kX5_put_54 : lk LX5_put 54 = some (xLdA 55 0) := rfl
theorem kX5_put_55 : lk LX5_put 55 = some (xCallV MX5_roomLeft 5 0 58) := rfl
theorem kX5_put_58 : lk LX5_put 58 = some (xRet) := rfl
def LX5_out : List (Nat × XI) := [(0, xLdA 1 0),
  (1, xGf 4 5 4),
  (4, xLdI 5 1),
  (5, xCallV MX3_isThing 3 1 8),
  (8, xZ_ne 13 11),
  (11, xK 12 ((-1))),
  (12, xRet),
  (13, xLdA 14 0),
  (14, xGf 17 5 6),
  (17, xGf 20 1 0),
  (20, xLdI 21 1),
  (21, xCallS MX5_has 2 24),
  (24, xZ_ne 30 27),
  (27, xK 29 ((-2))),
  (29, xRet),
  (30, xLdA 31 0),
  (31, xGf 34 5 8),
  (34, xLdA 35 0),
  (35, xGf 38 5 6),
  (38, xCallV MX2_add 2 1 41),
  (41, xLdA 42 0),
  (42, xGf 45 5 6),
  (45, xLdI 46 1),
  (46, xCallV MX1_takeOut 1 1 49),
  (49, xLdA 50 0),
  (50, xCallV MX5_roomLeft 5 0 53),
  (53, xRet)]
theorem sX5_out_0 : Snd MX5_out 0 (xLdA 1 0) := snd_aload_n (M := MX5_out) (pc := 0) dX5_out_0
theorem sX5_out_1 : Snd MX5_out 1 (xGf 4 5 4) := snd_gf (M := MX5_out) (pc := 1) (C0 := RX5) (T0 := TX5) (N := 13) dX5_out_1 rfl tbX5 (by decide) w305
theorem sX5_out_4 : Snd MX5_out 4 (xLdI 5 1) := snd_iload_n (M := MX5_out) (pc := 4) dX5_out_4
theorem sX5_out_5 : Snd MX5_out 5 (xCallV MX3_isThing 3 1 8) := snd_callV (M := MX5_out) (pc := 5) (n := 1) dX5_out_5 rfl w321 w248 w249 ⟨w83, w246, ⟨by decide, by decide, by decide +kernel⟩, by decide⟩ ⟨rfl, rfl⟩
theorem sX5_out_8 : Snd MX5_out 8 (xZ_ne 13 11) := snd_if_ne (M := MX5_out) (pc := 8) dX5_out_8 (by decide)
theorem sX5_out_11 : Snd MX5_out 11 (xK 12 ((-1))) := snd_iconst (M := MX5_out) (pc := 11) dX5_out_11 (by decide +kernel)
theorem sX5_out_12 : Snd MX5_out 12 (xRet) := snd_iret (M := MX5_out) (pc := 12) dX5_out_12 rfl
theorem sX5_out_13 : Snd MX5_out 13 (xLdA 14 0) := snd_aload_n (M := MX5_out) (pc := 13) dX5_out_13
theorem sX5_out_14 : Snd MX5_out 14 (xGf 17 5 6) := snd_gf (M := MX5_out) (pc := 14) (C0 := RX5) (T0 := TX5) (N := 13) dX5_out_14 rfl tbX5 (by decide) w307
theorem sX5_out_17 : Snd MX5_out 17 (xGf 20 1 0) := snd_gf (M := MX5_out) (pc := 17) (C0 := RX1) (T0 := TX1) (N := 4) dX5_out_17 rfl tbX1 (by decide) w326
theorem sX5_out_20 : Snd MX5_out 20 (xLdI 21 1) := snd_iload_n (M := MX5_out) (pc := 20) dX5_out_20
theorem sX5_out_21 : Snd MX5_out 21 (xCallS MX5_has 2 24) := snd_callS (M := MX5_out) (pc := 21) (n := 2) dX5_out_21 w327 w117 ⟨w115, w116, ⟨by decide, by decide, by decide +kernel⟩, by decide⟩ ⟨rfl, rfl⟩
theorem sX5_out_24 : Snd MX5_out 24 (xZ_ne 30 27) := snd_if_ne (M := MX5_out) (pc := 24) dX5_out_24 (by decide)
theorem sX5_out_27 : Snd MX5_out 27 (xK 29 ((-2))) := snd_bipush (M := MX5_out) (pc := 27) dX5_out_27 (by decide +kernel)
theorem sX5_out_29 : Snd MX5_out 29 (xRet) := snd_iret (M := MX5_out) (pc := 29) dX5_out_29 rfl
theorem sX5_out_30 : Snd MX5_out 30 (xLdA 31 0) := snd_aload_n (M := MX5_out) (pc := 30) dX5_out_30
theorem sX5_out_31 : Snd MX5_out 31 (xGf 34 5 8) := snd_gf (M := MX5_out) (pc := 31) (C0 := RX5) (T0 := TX5) (N := 13) dX5_out_31 rfl tbX5 (by decide) w309
theorem sX5_out_34 : Snd MX5_out 34 (xLdA 35 0) := snd_aload_n (M := MX5_out) (pc := 34) dX5_out_34
theorem sX5_out_35 : Snd MX5_out 35 (xGf 38 5 6) := snd_gf (M := MX5_out) (pc := 35) (C0 := RX5) (T0 := TX5) (N := 13) dX5_out_35 rfl tbX5 (by decide) w307
theorem sX5_out_38 : Snd MX5_out 38 (xCallV MX2_add 2 1 41) := snd_callV (M := MX5_out) (pc := 38) (n := 1) dX5_out_38 rfl w354 w355 w356 ⟨w216, w353, ⟨by decide, by decide, by decide +kernel⟩, by decide⟩ ⟨rfl, rfl⟩
theorem sX5_out_41 : Snd MX5_out 41 (xLdA 42 0) := snd_aload_n (M := MX5_out) (pc := 41) dX5_out_41
theorem sX5_out_42 : Snd MX5_out 42 (xGf 45 5 6) := snd_gf (M := MX5_out) (pc := 42) (C0 := RX5) (T0 := TX5) (N := 13) dX5_out_42 rfl tbX5 (by decide) w307
theorem sX5_out_45 : Snd MX5_out 45 (xLdI 46 1) := snd_iload_n (M := MX5_out) (pc := 45) dX5_out_45
theorem sX5_out_46 : Snd MX5_out 46 (xCallV MX1_takeOut 1 1 49) := snd_callV (M := MX5_out) (pc := 46) (n := 1) dX5_out_46 rfl w362 w207 w208 ⟨w78, w205, ⟨by decide, by decide, by decide +kernel⟩, by decide⟩ ⟨rfl, rfl⟩
theorem sX5_out_49 : Snd MX5_out 49 (xLdA 50 0) := snd_aload_n (M := MX5_out) (pc := 49) dX5_out_49
theorem sX5_out_50 : Snd MX5_out 50 (xCallV MX5_roomLeft 5 0 53) := snd_callV (M := MX5_out) (pc := 50) (n := 0) dX5_out_50 rfl w359 w360 w361 ⟨w115, w358, ⟨by decide, by decide, by decide +kernel⟩, by decide⟩ ⟨rfl, rfl⟩
theorem sX5_out_53 : Snd MX5_out 53 (xRet) := snd_iret (M := MX5_out) (pc := 53) dX5_out_53 rfl
theorem VX5_out : Valid MX5_out LX5_out := va_lid sX5_out_0 (va_lid sX5_out_1 (va_lid sX5_out_4 (va_lid sX5_out_5 (va_lid sX5_out_8 (va_lid sX5_out_11 (va_lid sX5_out_12 (va_lid sX5_out_13 (va_lid sX5_out_14 (va_lid sX5_out_17 (va_lid sX5_out_20 (va_lid sX5_out_21 (va_lid sX5_out_24 (va_lid sX5_out_27 (va_lid sX5_out_29 (va_lid sX5_out_30 (va_lid sX5_out_31 (va_lid sX5_out_34 (va_lid sX5_out_35 (va_lid sX5_out_38 (va_lid sX5_out_41 (va_lid sX5_out_42 (va_lid sX5_out_45 (va_lid sX5_out_46 (va_lid sX5_out_49 (va_lid sX5_out_50 (va_lid sX5_out_53 (va_lid0)))))))))))))))))))))))))))
theorem kX5_out_0 : lk LX5_out 0 = some (xLdA 1 0) := rfl
theorem kX5_out_1 : lk LX5_out 1 = some (xGf 4 5 4) := rfl
theorem kX5_out_4 : lk LX5_out 4 = some (xLdI 5 1) := rfl
theorem kX5_out_5 : lk LX5_out 5 = some (xCallV MX3_isThing 3 1 8) := rfl
theorem kX5_out_8 : lk LX5_out 8 = some (xZ_ne 13 11) := rfl
theorem kX5_out_11 : lk LX5_out 11 = some (xK 12 ((-1))) := rfl
theorem kX5_out_12 : lk LX5_out 12 = some (xRet) := rfl
theorem kX5_out_13 : lk LX5_out 13 = some (xLdA 14 0) := rfl
theorem kX5_out_14 : lk LX5_out 14 = some (xGf 17 5 6) := rfl
theorem kX5_out_17 : lk LX5_out 17 = some (xGf 20 1 0) := rfl
theorem kX5_out_20 : lk LX5_out 20 = some (xLdI 21 1) := rfl
theorem kX5_out_21 : lk LX5_out 21 = some (xCallS MX5_has 2 24) := rfl
theorem kX5_out_24 : lk LX5_out 24 = some (xZ_ne 30 27) := rfl
theorem kX5_out_27 : lk LX5_out 27 = some (xK 29 ((-2))) := rfl
theorem kX5_out_29 : lk LX5_out 29 = some (xRet) := rfl
theorem kX5_out_30 : lk LX5_out 30 = some (xLdA 31 0) := rfl
theorem kX5_out_31 : lk LX5_out 31 = some (xGf 34 5 8) := rfl
theorem kX5_out_34 : lk LX5_out 34 = some (xLdA 35 0) := rfl
theorem kX5_out_35 : lk LX5_out 35 = some (xGf 38 5 6) := rfl
theorem kX5_out_38 : lk LX5_out 38 = some (xCallV MX2_add 2 1 41) := rfl
theorem kX5_out_41 : lk LX5_out 41 = some (xLdA 42 0) := rfl
theorem kX5_out_42 : lk LX5_out 42 = some (xGf 45 5 6) := rfl
theorem kX5_out_45 : lk LX5_out 45 = some (xLdI 46 1) := rfl
theorem kX5_out_46 : lk LX5_out 46 = some (xCallV MX1_takeOut 1 1 49) := rfl
theorem kX5_out_49 : lk LX5_out 49 = some (xLdA 50 0) := rfl
theorem kX5_out_50 : lk LX5_out 50 = some (xCallV MX5_roomLeft 5 0 53) := rfl
theorem kX5_out_53 : lk LX5_out 53 = some (xRet) := rfl
def LX5_live : List (Nat × XI) := [(0, xLdA 1 0),
  (1, xGf 4 5 4),
  (4, xLdI 5 1),
  (5, xCallV MX3_isLife 3 1 8),
  (8, xZ_ne 13 11),
  (11, xK 12 ((-1))),
  (12, xRet),
  (13, xLdA 14 0),
  (14, xGf 17 5 6),
  (17, xLdA 18 0),
  (18, xGf 21 5 4),
  (21, xLdI 22 1),
  (22, xCallV MX1_canBeLived 1 2 25),
  (25, xZ_ne 31 28),
  (28, xK 30 ((-2))),
  (30, xRet),
  (31, xLdA 32 0),
  (32, xGf 35 5 8),
  (35, xLdA 36 0),
  (36, xGf 39 5 6),
  (39, xCallV MX2_add 2 1 42),
  (42, xLdA 43 0),
  (43, xGf 46 5 6),
  (46, xLdA 47 0),
  (47, xGf 50 5 4),
  (50, xLdI 51 1),
  (51, xCallV MX1_liveLife 1 2 54),
  (54, xRet)]
theorem sX5_live_0 : Snd MX5_live 0 (xLdA 1 0) := snd_aload_n (M := MX5_live) (pc := 0) dX5_live_0
theorem sX5_live_1 : Snd MX5_live 1 (xGf 4 5 4) := snd_gf (M := MX5_live) (pc := 1) (C0 := RX5) (T0 := TX5) (N := 13) dX5_live_1 rfl tbX5 (by decide) w305
theorem sX5_live_4 : Snd MX5_live 4 (xLdI 5 1) := snd_iload_n (M := MX5_live) (pc := 4) dX5_live_4
theorem sX5_live_5 : Snd MX5_live 5 (xCallV MX3_isLife 3 1 8) := snd_callV (M := MX5_live) (pc := 5) (n := 1) dX5_live_5 rfl w334 w244 w245 ⟨w83, w242, ⟨by decide, by decide, by decide +kernel⟩, by decide⟩ ⟨rfl, rfl⟩
theorem sX5_live_8 : Snd MX5_live 8 (xZ_ne 13 11) := snd_if_ne (M := MX5_live) (pc := 8) dX5_live_8 (by decide)
theorem sX5_live_11 : Snd MX5_live 11 (xK 12 ((-1))) := snd_iconst (M := MX5_live) (pc := 11) dX5_live_11 (by decide +kernel)
theorem sX5_live_12 : Snd MX5_live 12 (xRet) := snd_iret (M := MX5_live) (pc := 12) dX5_live_12 rfl
theorem sX5_live_13 : Snd MX5_live 13 (xLdA 14 0) := snd_aload_n (M := MX5_live) (pc := 13) dX5_live_13
theorem sX5_live_14 : Snd MX5_live 14 (xGf 17 5 6) := snd_gf (M := MX5_live) (pc := 14) (C0 := RX5) (T0 := TX5) (N := 13) dX5_live_14 rfl tbX5 (by decide) w307
theorem sX5_live_17 : Snd MX5_live 17 (xLdA 18 0) := snd_aload_n (M := MX5_live) (pc := 17) dX5_live_17
theorem sX5_live_18 : Snd MX5_live 18 (xGf 21 5 4) := snd_gf (M := MX5_live) (pc := 18) (C0 := RX5) (T0 := TX5) (N := 13) dX5_live_18 rfl tbX5 (by decide) w305
theorem sX5_live_21 : Snd MX5_live 21 (xLdI 22 1) := snd_iload_n (M := MX5_live) (pc := 21) dX5_live_21
theorem sX5_live_22 : Snd MX5_live 22 (xCallV MX1_canBeLived 1 2 25) := snd_callV (M := MX5_live) (pc := 22) (n := 2) dX5_live_22 rfl w363 w187 w188 ⟨w78, w185, ⟨by decide, by decide, by decide +kernel⟩, by decide⟩ ⟨rfl, rfl⟩
theorem sX5_live_25 : Snd MX5_live 25 (xZ_ne 31 28) := snd_if_ne (M := MX5_live) (pc := 25) dX5_live_25 (by decide)
theorem sX5_live_28 : Snd MX5_live 28 (xK 30 ((-2))) := snd_bipush (M := MX5_live) (pc := 28) dX5_live_28 (by decide +kernel)
theorem sX5_live_30 : Snd MX5_live 30 (xRet) := snd_iret (M := MX5_live) (pc := 30) dX5_live_30 rfl
theorem sX5_live_31 : Snd MX5_live 31 (xLdA 32 0) := snd_aload_n (M := MX5_live) (pc := 31) dX5_live_31
theorem sX5_live_32 : Snd MX5_live 32 (xGf 35 5 8) := snd_gf (M := MX5_live) (pc := 32) (C0 := RX5) (T0 := TX5) (N := 13) dX5_live_32 rfl tbX5 (by decide) w309
theorem sX5_live_35 : Snd MX5_live 35 (xLdA 36 0) := snd_aload_n (M := MX5_live) (pc := 35) dX5_live_35
theorem sX5_live_36 : Snd MX5_live 36 (xGf 39 5 6) := snd_gf (M := MX5_live) (pc := 36) (C0 := RX5) (T0 := TX5) (N := 13) dX5_live_36 rfl tbX5 (by decide) w307
theorem sX5_live_39 : Snd MX5_live 39 (xCallV MX2_add 2 1 42) := snd_callV (M := MX5_live) (pc := 39) (n := 1) dX5_live_39 rfl w354 w355 w356 ⟨w216, w353, ⟨by decide, by decide, by decide +kernel⟩, by decide⟩ ⟨rfl, rfl⟩
theorem sX5_live_42 : Snd MX5_live 42 (xLdA 43 0) := snd_aload_n (M := MX5_live) (pc := 42) dX5_live_42
theorem sX5_live_43 : Snd MX5_live 43 (xGf 46 5 6) := snd_gf (M := MX5_live) (pc := 43) (C0 := RX5) (T0 := TX5) (N := 13) dX5_live_43 rfl tbX5 (by decide) w307
theorem sX5_live_46 : Snd MX5_live 46 (xLdA 47 0) := snd_aload_n (M := MX5_live) (pc := 46) dX5_live_46
theorem sX5_live_47 : Snd MX5_live 47 (xGf 50 5 4) := snd_gf (M := MX5_live) (pc := 47) (C0 := RX5) (T0 := TX5) (N := 13) dX5_live_47 rfl tbX5 (by decide) w305
theorem sX5_live_50 : Snd MX5_live 50 (xLdI 51 1) := snd_iload_n (M := MX5_live) (pc := 50) dX5_live_50
theorem sX5_live_51 : Snd MX5_live 51 (xCallV MX1_liveLife 1 2 54) := snd_callV (M := MX5_live) (pc := 51) (n := 2) dX5_live_51 rfl w364 w191 w192 ⟨w78, w189, ⟨by decide, by decide, by decide +kernel⟩, by decide⟩ ⟨rfl, rfl⟩
theorem sX5_live_54 : Snd MX5_live 54 (xRet) := snd_iret (M := MX5_live) (pc := 54) dX5_live_54 rfl
theorem VX5_live : Valid MX5_live LX5_live := va_lid sX5_live_0 (va_lid sX5_live_1 (va_lid sX5_live_4 (va_lid sX5_live_5 (va_lid sX5_live_8 (va_lid sX5_live_11 (va_lid sX5_live_12 (va_lid sX5_live_13 (va_lid sX5_live_14 (va_lid sX5_live_17 (va_lid sX5_live_18 (va_lid sX5_live_21 (va_lid sX5_live_22 (va_lid sX5_live_25 (va_lid sX5_live_28 (va_lid sX5_live_30 (va_lid sX5_live_31 (va_lid sX5_live_32 (va_lid sX5_live_35 (va_lid sX5_live_36 (va_lid sX5_live_39 (va_lid sX5_live_42 (va_lid sX5_live_43 (va_lid sX5_live_46 (va_lid sX5_live_47 (va_lid sX5_live_50 (va_lid sX5_live_51 (va_lid sX5_live_54 (va_lid0))))))))))))))))))))))))))))
theorem kX5_live_0 : lk LX5_live 0 = some (xLdA 1 0) := rfl
theorem kX5_live_1 : lk LX5_live 1 = some (xGf 4 5 4) := rfl
theorem kX5_live_4 : lk LX5_live 4 = some (xLdI 5 1) := rfl
theorem kX5_live_5 : lk LX5_live 5 = some (xCallV MX3_isLife 3 1 8) := rfl
theorem kX5_live_8 : lk LX5_live 8 = some (xZ_ne 13 11) := rfl
theorem kX5_live_11 : lk LX5_live 11 = some (xK 12 ((-1))) := rfl
theorem kX5_live_12 : lk LX5_live 12 = some (xRet) := rfl
theorem kX5_live_13 : lk LX5_live 13 = some (xLdA 14 0) := rfl
theorem kX5_live_14 : lk LX5_live 14 = some (xGf 17 5 6) := rfl
theorem kX5_live_17 : lk LX5_live 17 = some (xLdA 18 0) := rfl
theorem kX5_live_18 : lk LX5_live 18 = some (xGf 21 5 4) := rfl
theorem kX5_live_21 : lk LX5_live 21 = some (xLdI 22 1) := rfl
theorem kX5_live_22 : lk LX5_live 22 = some (xCallV MX1_canBeLived 1 2 25) := rfl
theorem kX5_live_25 : lk LX5_live 25 = some (xZ_ne 31 28) := rfl
theorem kX5_live_28 : lk LX5_live 28 = some (xK 30 ((-2))) := rfl
theorem kX5_live_30 : lk LX5_live 30 = some (xRet) := rfl
theorem kX5_live_31 : lk LX5_live 31 = some (xLdA 32 0) := rfl
theorem kX5_live_32 : lk LX5_live 32 = some (xGf 35 5 8) := rfl
theorem kX5_live_35 : lk LX5_live 35 = some (xLdA 36 0) := rfl
theorem kX5_live_36 : lk LX5_live 36 = some (xGf 39 5 6) := rfl
theorem kX5_live_39 : lk LX5_live 39 = some (xCallV MX2_add 2 1 42) := rfl
theorem kX5_live_42 : lk LX5_live 42 = some (xLdA 43 0) := rfl
theorem kX5_live_43 : lk LX5_live 43 = some (xGf 46 5 6) := rfl
theorem kX5_live_46 : lk LX5_live 46 = some (xLdA 47 0) := rfl
theorem kX5_live_47 : lk LX5_live 47 = some (xGf 50 5 4) := rfl
theorem kX5_live_50 : lk LX5_live 50 = some (xLdI 51 1) := rfl
theorem kX5_live_51 : lk LX5_live 51 = some (xCallV MX1_liveLife 1 2 54) := rfl
theorem kX5_live_54 : lk LX5_live 54 = some (xRet) := rfl
def LX5_pass : List (Nat × XI) := [(0, xLdI 1 1),
  (1, xK 2 (nI 1)),
  (2, xC_lt 11 5),
  (5, xLdI 6 1),
  (6, xK 8 (nI 20)),
  (8, xC_le 13 11),
  (11, xK 12 ((-1))),
  (12, xRet),
  (13, xLdA 14 0),
  (14, xGf 17 5 8),
  (17, xLdA 18 0),
  (18, xGf 21 5 6),
  (21, xCallV MX2_add 2 1 24),
  (24, xLdA 25 0),
  (25, xGf 28 5 6),
  (28, xLdA 29 0),
  (29, xGf 32 5 4),
  (32, xLdI 33 1),
  (33, xCallV MX1_goBy 1 2 36),
  (36, xLdA 37 0),
  (37, xGf 40 5 6),
  (40, xGf 43 1 2),
  (43, xRet)]
theorem sX5_pass_0 : Snd MX5_pass 0 (xLdI 1 1) := snd_iload_n (M := MX5_pass) (pc := 0) dX5_pass_0
theorem sX5_pass_1 : Snd MX5_pass 1 (xK 2 (nI 1)) := snd_iconst (M := MX5_pass) (pc := 1) dX5_pass_1 (by decide +kernel)
theorem sX5_pass_2 : Snd MX5_pass 2 (xC_lt 11 5) := snd_icmp_lt (M := MX5_pass) (pc := 2) dX5_pass_2 (by decide)
theorem sX5_pass_5 : Snd MX5_pass 5 (xLdI 6 1) := snd_iload_n (M := MX5_pass) (pc := 5) dX5_pass_5
theorem sX5_pass_6 : Snd MX5_pass 6 (xK 8 (nI 20)) := snd_bipush (M := MX5_pass) (pc := 6) dX5_pass_6 (by decide +kernel)
theorem sX5_pass_8 : Snd MX5_pass 8 (xC_le 13 11) := snd_icmp_le (M := MX5_pass) (pc := 8) dX5_pass_8 (by decide)
theorem sX5_pass_11 : Snd MX5_pass 11 (xK 12 ((-1))) := snd_iconst (M := MX5_pass) (pc := 11) dX5_pass_11 (by decide +kernel)
theorem sX5_pass_12 : Snd MX5_pass 12 (xRet) := snd_iret (M := MX5_pass) (pc := 12) dX5_pass_12 rfl
theorem sX5_pass_13 : Snd MX5_pass 13 (xLdA 14 0) := snd_aload_n (M := MX5_pass) (pc := 13) dX5_pass_13
theorem sX5_pass_14 : Snd MX5_pass 14 (xGf 17 5 8) := snd_gf (M := MX5_pass) (pc := 14) (C0 := RX5) (T0 := TX5) (N := 13) dX5_pass_14 rfl tbX5 (by decide) w309
theorem sX5_pass_17 : Snd MX5_pass 17 (xLdA 18 0) := snd_aload_n (M := MX5_pass) (pc := 17) dX5_pass_17
theorem sX5_pass_18 : Snd MX5_pass 18 (xGf 21 5 6) := snd_gf (M := MX5_pass) (pc := 18) (C0 := RX5) (T0 := TX5) (N := 13) dX5_pass_18 rfl tbX5 (by decide) w307
theorem sX5_pass_21 : Snd MX5_pass 21 (xCallV MX2_add 2 1 24) := snd_callV (M := MX5_pass) (pc := 21) (n := 1) dX5_pass_21 rfl w354 w355 w356 ⟨w216, w353, ⟨by decide, by decide, by decide +kernel⟩, by decide⟩ ⟨rfl, rfl⟩
theorem sX5_pass_24 : Snd MX5_pass 24 (xLdA 25 0) := snd_aload_n (M := MX5_pass) (pc := 24) dX5_pass_24
theorem sX5_pass_25 : Snd MX5_pass 25 (xGf 28 5 6) := snd_gf (M := MX5_pass) (pc := 25) (C0 := RX5) (T0 := TX5) (N := 13) dX5_pass_25 rfl tbX5 (by decide) w307
theorem sX5_pass_28 : Snd MX5_pass 28 (xLdA 29 0) := snd_aload_n (M := MX5_pass) (pc := 28) dX5_pass_28
theorem sX5_pass_29 : Snd MX5_pass 29 (xGf 32 5 4) := snd_gf (M := MX5_pass) (pc := 29) (C0 := RX5) (T0 := TX5) (N := 13) dX5_pass_29 rfl tbX5 (by decide) w305
theorem sX5_pass_32 : Snd MX5_pass 32 (xLdI 33 1) := snd_iload_n (M := MX5_pass) (pc := 32) dX5_pass_32
theorem sX5_pass_33 : Snd MX5_pass 33 (xCallV MX1_goBy 1 2 36) := snd_callV (M := MX5_pass) (pc := 33) (n := 2) dX5_pass_33 rfl w365 w195 w196 ⟨w78, w193, ⟨by decide, by decide, by decide +kernel⟩, by decide⟩ ⟨rfl, rfl⟩
theorem sX5_pass_36 : Snd MX5_pass 36 (xLdA 37 0) := snd_aload_n (M := MX5_pass) (pc := 36) dX5_pass_36
theorem sX5_pass_37 : Snd MX5_pass 37 (xGf 40 5 6) := snd_gf (M := MX5_pass) (pc := 37) (C0 := RX5) (T0 := TX5) (N := 13) dX5_pass_37 rfl tbX5 (by decide) w307
theorem sX5_pass_40 : Snd MX5_pass 40 (xGf 43 1 2) := snd_gf (M := MX5_pass) (pc := 40) (C0 := RX1) (T0 := TX1) (N := 4) dX5_pass_40 rfl tbX1 (by decide) w366
theorem sX5_pass_43 : Snd MX5_pass 43 (xRet) := snd_iret (M := MX5_pass) (pc := 43) dX5_pass_43 rfl
theorem VX5_pass : Valid MX5_pass LX5_pass := va_lid sX5_pass_0 (va_lid sX5_pass_1 (va_lid sX5_pass_2 (va_lid sX5_pass_5 (va_lid sX5_pass_6 (va_lid sX5_pass_8 (va_lid sX5_pass_11 (va_lid sX5_pass_12 (va_lid sX5_pass_13 (va_lid sX5_pass_14 (va_lid sX5_pass_17 (va_lid sX5_pass_18 (va_lid sX5_pass_21 (va_lid sX5_pass_24 (va_lid sX5_pass_25 (va_lid sX5_pass_28 (va_lid sX5_pass_29 (va_lid sX5_pass_32 (va_lid sX5_pass_33 (va_lid sX5_pass_36 (va_lid sX5_pass_37 (va_lid sX5_pass_40 (va_lid sX5_pass_43 (va_lid0)))))))))))))))))))))))
theorem kX5_pass_0 : lk LX5_pass 0 = some (xLdI 1 1) := rfl
theorem kX5_pass_1 : lk LX5_pass 1 = some (xK 2 (nI 1)) := rfl
theorem kX5_pass_2 : lk LX5_pass 2 = some (xC_lt 11 5) := rfl
theorem kX5_pass_5 : lk LX5_pass 5 = some (xLdI 6 1) := rfl
theorem kX5_pass_6 : lk LX5_pass 6 = some (xK 8 (nI 20)) := rfl
theorem kX5_pass_8 : lk LX5_pass 8 = some (xC_le 13 11) := rfl
theorem kX5_pass_11 : lk LX5_pass 11 = some (xK 12 ((-1))) := rfl
theorem kX5_pass_12 : lk LX5_pass 12 = some (xRet) := rfl
theorem kX5_pass_13 : lk LX5_pass 13 = some (xLdA 14 0) := rfl
theorem kX5_pass_14 : lk LX5_pass 14 = some (xGf 17 5 8) := rfl
theorem kX5_pass_17 : lk LX5_pass 17 = some (xLdA 18 0) := rfl
theorem kX5_pass_18 : lk LX5_pass 18 = some (xGf 21 5 6) := rfl
theorem kX5_pass_21 : lk LX5_pass 21 = some (xCallV MX2_add 2 1 24) := rfl
theorem kX5_pass_24 : lk LX5_pass 24 = some (xLdA 25 0) := rfl
theorem kX5_pass_25 : lk LX5_pass 25 = some (xGf 28 5 6) := rfl
theorem kX5_pass_28 : lk LX5_pass 28 = some (xLdA 29 0) := rfl
theorem kX5_pass_29 : lk LX5_pass 29 = some (xGf 32 5 4) := rfl
theorem kX5_pass_32 : lk LX5_pass 32 = some (xLdI 33 1) := rfl
theorem kX5_pass_33 : lk LX5_pass 33 = some (xCallV MX1_goBy 1 2 36) := rfl
theorem kX5_pass_36 : lk LX5_pass 36 = some (xLdA 37 0) := rfl
theorem kX5_pass_37 : lk LX5_pass 37 = some (xGf 40 5 6) := rfl
theorem kX5_pass_40 : lk LX5_pass 40 = some (xGf 43 1 2) := rfl
theorem kX5_pass_43 : lk LX5_pass 43 = some (xRet) := rfl
def LX5_undo : List (Nat × XI) := [(0, xLdA 1 0),
  (1, xGf 4 5 8),
  (4, xGf 7 2 0),
  (7, xZ_ne 13 10),
  (10, xK 12 ((-2))),
  (12, xRet),
  (13, xLdA 14 0),
  (14, xGf 17 5 8),
  (17, xLdA 18 0),
  (18, xGf 21 5 6),
  (21, xCallV MX2_takeTop 2 1 24),
  (24, xLdA 25 0),
  (25, xGf 28 5 8),
  (28, xGf 31 2 0),
  (31, xRet)]
theorem sX5_undo_0 : Snd MX5_undo 0 (xLdA 1 0) := snd_aload_n (M := MX5_undo) (pc := 0) dX5_undo_0
theorem sX5_undo_1 : Snd MX5_undo 1 (xGf 4 5 8) := snd_gf (M := MX5_undo) (pc := 1) (C0 := RX5) (T0 := TX5) (N := 13) dX5_undo_1 rfl tbX5 (by decide) w309
theorem sX5_undo_4 : Snd MX5_undo 4 (xGf 7 2 0) := snd_gf (M := MX5_undo) (pc := 4) (C0 := RX2) (T0 := TX2) (N := 6) dX5_undo_4 rfl tbX2 (by decide) w367
theorem sX5_undo_7 : Snd MX5_undo 7 (xZ_ne 13 10) := snd_if_ne (M := MX5_undo) (pc := 7) dX5_undo_7 (by decide)
theorem sX5_undo_10 : Snd MX5_undo 10 (xK 12 ((-2))) := snd_bipush (M := MX5_undo) (pc := 10) dX5_undo_10 (by decide +kernel)
theorem sX5_undo_12 : Snd MX5_undo 12 (xRet) := snd_iret (M := MX5_undo) (pc := 12) dX5_undo_12 rfl
theorem sX5_undo_13 : Snd MX5_undo 13 (xLdA 14 0) := snd_aload_n (M := MX5_undo) (pc := 13) dX5_undo_13
theorem sX5_undo_14 : Snd MX5_undo 14 (xGf 17 5 8) := snd_gf (M := MX5_undo) (pc := 14) (C0 := RX5) (T0 := TX5) (N := 13) dX5_undo_14 rfl tbX5 (by decide) w309
theorem sX5_undo_17 : Snd MX5_undo 17 (xLdA 18 0) := snd_aload_n (M := MX5_undo) (pc := 17) dX5_undo_17
theorem sX5_undo_18 : Snd MX5_undo 18 (xGf 21 5 6) := snd_gf (M := MX5_undo) (pc := 18) (C0 := RX5) (T0 := TX5) (N := 13) dX5_undo_18 rfl tbX5 (by decide) w307
theorem sX5_undo_21 : Snd MX5_undo 21 (xCallV MX2_takeTop 2 1 24) := snd_callV (M := MX5_undo) (pc := 21) (n := 1) dX5_undo_21 rfl w369 w370 w371 ⟨w216, w368, ⟨by decide, by decide, by decide +kernel⟩, by decide⟩ ⟨rfl, rfl⟩
theorem sX5_undo_24 : Snd MX5_undo 24 (xLdA 25 0) := snd_aload_n (M := MX5_undo) (pc := 24) dX5_undo_24
theorem sX5_undo_25 : Snd MX5_undo 25 (xGf 28 5 8) := snd_gf (M := MX5_undo) (pc := 25) (C0 := RX5) (T0 := TX5) (N := 13) dX5_undo_25 rfl tbX5 (by decide) w309
theorem sX5_undo_28 : Snd MX5_undo 28 (xGf 31 2 0) := snd_gf (M := MX5_undo) (pc := 28) (C0 := RX2) (T0 := TX2) (N := 6) dX5_undo_28 rfl tbX2 (by decide) w367
theorem sX5_undo_31 : Snd MX5_undo 31 (xRet) := snd_iret (M := MX5_undo) (pc := 31) dX5_undo_31 rfl
theorem VX5_undo : Valid MX5_undo LX5_undo := va_lid sX5_undo_0 (va_lid sX5_undo_1 (va_lid sX5_undo_4 (va_lid sX5_undo_7 (va_lid sX5_undo_10 (va_lid sX5_undo_12 (va_lid sX5_undo_13 (va_lid sX5_undo_14 (va_lid sX5_undo_17 (va_lid sX5_undo_18 (va_lid sX5_undo_21 (va_lid sX5_undo_24 (va_lid sX5_undo_25 (va_lid sX5_undo_28 (va_lid sX5_undo_31 (va_lid0)))))))))))))))
theorem kX5_undo_0 : lk LX5_undo 0 = some (xLdA 1 0) := rfl
theorem kX5_undo_1 : lk LX5_undo 1 = some (xGf 4 5 8) := rfl
theorem kX5_undo_4 : lk LX5_undo 4 = some (xGf 7 2 0) := rfl
theorem kX5_undo_7 : lk LX5_undo 7 = some (xZ_ne 13 10) := rfl
theorem kX5_undo_10 : lk LX5_undo 10 = some (xK 12 ((-2))) := rfl
theorem kX5_undo_12 : lk LX5_undo 12 = some (xRet) := rfl
theorem kX5_undo_13 : lk LX5_undo 13 = some (xLdA 14 0) := rfl
theorem kX5_undo_14 : lk LX5_undo 14 = some (xGf 17 5 8) := rfl
theorem kX5_undo_17 : lk LX5_undo 17 = some (xLdA 18 0) := rfl
theorem kX5_undo_18 : lk LX5_undo 18 = some (xGf 21 5 6) := rfl
theorem kX5_undo_21 : lk LX5_undo 21 = some (xCallV MX2_takeTop 2 1 24) := rfl
theorem kX5_undo_24 : lk LX5_undo 24 = some (xLdA 25 0) := rfl
theorem kX5_undo_25 : lk LX5_undo 25 = some (xGf 28 5 8) := rfl
theorem kX5_undo_28 : lk LX5_undo 28 = some (xGf 31 2 0) := rfl
theorem kX5_undo_31 : lk LX5_undo 31 = some (xRet) := rfl
def LX5_best : List (Nat × XI) := [(0, xLdI 1 1),
  (1, xZ_lt 19 4),
  (4, xLdI 5 1),
  (5, xK 7 (nI 20)),
  (7, xC_gt 19 10),
  (10, xLdI 11 2),
  (11, xZ_lt 19 14),
  (14, xLdI 15 2),
  (15, xK 16 (nI 2)),
  (16, xC_le 21 19),
  (19, xK 20 ((-1))),
  (20, xRet),
  (21, xLdA 22 0),
  (22, xGf 25 5 3),
  (25, xLdA 26 0),
  (26, xGf 29 5 4),
  (29, xLdA 30 0),
  (30, xGf 33 5 6),
  (33, xLdI 34 1),
  (34, xCallV MX0_bestSet 0 3 37),
  (37, xStI 38 3),
  (38, xLdI 39 2),
  (39, xZ_ne 46 42),
  (42, xLdI 43 3),
  (43, xGo 54),
  (46, xLdA 47 0),
  (47, xLdI 48 3),
  (48, xLdI 49 2),
  (49, xK 50 (nI 1)),
  (50, xBin 51 f_isub),
  (51, xCallV MX5_worthPart 5 2 54),
  (54, xRet)]
theorem sX5_best_0 : Snd MX5_best 0 (xLdI 1 1) := snd_iload_n (M := MX5_best) (pc := 0) dX5_best_0
theorem sX5_best_1 : Snd MX5_best 1 (xZ_lt 19 4) := snd_if_lt (M := MX5_best) (pc := 1) dX5_best_1 (by decide)
theorem sX5_best_4 : Snd MX5_best 4 (xLdI 5 1) := snd_iload_n (M := MX5_best) (pc := 4) dX5_best_4
theorem sX5_best_5 : Snd MX5_best 5 (xK 7 (nI 20)) := snd_bipush (M := MX5_best) (pc := 5) dX5_best_5 (by decide +kernel)
theorem sX5_best_7 : Snd MX5_best 7 (xC_gt 19 10) := snd_icmp_gt (M := MX5_best) (pc := 7) dX5_best_7 (by decide)
theorem sX5_best_10 : Snd MX5_best 10 (xLdI 11 2) := snd_iload_n (M := MX5_best) (pc := 10) dX5_best_10
theorem sX5_best_11 : Snd MX5_best 11 (xZ_lt 19 14) := snd_if_lt (M := MX5_best) (pc := 11) dX5_best_11 (by decide)
theorem sX5_best_14 : Snd MX5_best 14 (xLdI 15 2) := snd_iload_n (M := MX5_best) (pc := 14) dX5_best_14
theorem sX5_best_15 : Snd MX5_best 15 (xK 16 (nI 2)) := snd_iconst (M := MX5_best) (pc := 15) dX5_best_15 (by decide +kernel)
theorem sX5_best_16 : Snd MX5_best 16 (xC_le 21 19) := snd_icmp_le (M := MX5_best) (pc := 16) dX5_best_16 (by decide)
theorem sX5_best_19 : Snd MX5_best 19 (xK 20 ((-1))) := snd_iconst (M := MX5_best) (pc := 19) dX5_best_19 (by decide +kernel)
theorem sX5_best_20 : Snd MX5_best 20 (xRet) := snd_iret (M := MX5_best) (pc := 20) dX5_best_20 rfl
theorem sX5_best_21 : Snd MX5_best 21 (xLdA 22 0) := snd_aload_n (M := MX5_best) (pc := 21) dX5_best_21
theorem sX5_best_22 : Snd MX5_best 22 (xGf 25 5 3) := snd_gf (M := MX5_best) (pc := 22) (C0 := RX5) (T0 := TX5) (N := 13) dX5_best_22 rfl tbX5 (by decide) w304
theorem sX5_best_25 : Snd MX5_best 25 (xLdA 26 0) := snd_aload_n (M := MX5_best) (pc := 25) dX5_best_25
theorem sX5_best_26 : Snd MX5_best 26 (xGf 29 5 4) := snd_gf (M := MX5_best) (pc := 26) (C0 := RX5) (T0 := TX5) (N := 13) dX5_best_26 rfl tbX5 (by decide) w305
theorem sX5_best_29 : Snd MX5_best 29 (xLdA 30 0) := snd_aload_n (M := MX5_best) (pc := 29) dX5_best_29
theorem sX5_best_30 : Snd MX5_best 30 (xGf 33 5 6) := snd_gf (M := MX5_best) (pc := 30) (C0 := RX5) (T0 := TX5) (N := 13) dX5_best_30 rfl tbX5 (by decide) w307
theorem sX5_best_33 : Snd MX5_best 33 (xLdI 34 1) := snd_iload_n (M := MX5_best) (pc := 33) dX5_best_33
theorem sX5_best_34 : Snd MX5_best 34 (xCallV MX0_bestSet 0 3 37) := snd_callV (M := MX5_best) (pc := 34) (n := 3) dX5_best_34 rfl w373 w374 w375 ⟨w102, w372, ⟨by decide, by decide, by decide +kernel⟩, by decide⟩ ⟨rfl, rfl⟩
theorem sX5_best_37 : Snd MX5_best 37 (xStI 38 3) := snd_istore_n (M := MX5_best) (pc := 37) dX5_best_37 (by decide)
theorem sX5_best_38 : Snd MX5_best 38 (xLdI 39 2) := snd_iload_n (M := MX5_best) (pc := 38) dX5_best_38
theorem sX5_best_39 : Snd MX5_best 39 (xZ_ne 46 42) := snd_if_ne (M := MX5_best) (pc := 39) dX5_best_39 (by decide)
theorem sX5_best_42 : Snd MX5_best 42 (xLdI 43 3) := snd_iload_n (M := MX5_best) (pc := 42) dX5_best_42
theorem sX5_best_43 : Snd MX5_best 43 (xGo 54) := snd_goto (M := MX5_best) (pc := 43) dX5_best_43 (by decide)
theorem sX5_best_46 : Snd MX5_best 46 (xLdA 47 0) := snd_aload_n (M := MX5_best) (pc := 46) dX5_best_46
theorem sX5_best_47 : Snd MX5_best 47 (xLdI 48 3) := snd_iload_n (M := MX5_best) (pc := 47) dX5_best_47
theorem sX5_best_48 : Snd MX5_best 48 (xLdI 49 2) := snd_iload_n (M := MX5_best) (pc := 48) dX5_best_48
theorem sX5_best_49 : Snd MX5_best 49 (xK 50 (nI 1)) := snd_iconst (M := MX5_best) (pc := 49) dX5_best_49 (by decide +kernel)
theorem sX5_best_50 : Snd MX5_best 50 (xBin 51 f_isub) := snd_isub (M := MX5_best) (pc := 50) dX5_best_50
theorem sX5_best_51 : Snd MX5_best 51 (xCallV MX5_worthPart 5 2 54) := snd_callV (M := MX5_best) (pc := 51) (n := 2) dX5_best_51 rfl w350 w351 w352 ⟨w115, w349, ⟨by decide, by decide, by decide +kernel⟩, by decide⟩ ⟨rfl, rfl⟩
theorem sX5_best_54 : Snd MX5_best 54 (xRet) := snd_iret (M := MX5_best) (pc := 54) dX5_best_54 rfl
theorem VX5_best : Valid MX5_best LX5_best := va_lid sX5_best_0 (va_lid sX5_best_1 (va_lid sX5_best_4 (va_lid sX5_best_5 (va_lid sX5_best_7 (va_lid sX5_best_10 (va_lid sX5_best_11 (va_lid sX5_best_14 (va_lid sX5_best_15 (va_lid sX5_best_16 (va_lid sX5_best_19 (va_lid sX5_best_20 (va_lid sX5_best_21 (va_lid sX5_best_22 (va_lid sX5_best_25 (va_lid sX5_best_26 (va_lid sX5_best_29 (va_lid sX5_best_30 (va_lid sX5_best_33 (va_lid sX5_best_34 (va_lid sX5_best_37 (va_lid sX5_best_38 (va_lid sX5_best_39 (va_lid sX5_best_42 (va_lid sX5_best_43 (va_lid sX5_best_46 (va_lid sX5_best_47 (va_lid sX5_best_48 (va_lid sX5_best_49 (va_lid sX5_best_50 (va_lid sX5_best_51 (va_lid sX5_best_54 (va_lid0))))))))))))))))))))))))))))))))
theorem kX5_best_0 : lk LX5_best 0 = some (xLdI 1 1) := rfl
theorem kX5_best_1 : lk LX5_best 1 = some (xZ_lt 19 4) := rfl
theorem kX5_best_4 : lk LX5_best 4 = some (xLdI 5 1) := rfl
theorem kX5_best_5 : lk LX5_best 5 = some (xK 7 (nI 20)) := rfl
theorem kX5_best_7 : lk LX5_best 7 = some (xC_gt 19 10) := rfl
theorem kX5_best_10 : lk LX5_best 10 = some (xLdI 11 2) := rfl
theorem kX5_best_11 : lk LX5_best 11 = some (xZ_lt 19 14) := rfl
theorem kX5_best_14 : lk LX5_best 14 = some (xLdI 15 2) := rfl
theorem kX5_best_15 : lk LX5_best 15 = some (xK 16 (nI 2)) := rfl
theorem kX5_best_16 : lk LX5_best 16 = some (xC_le 21 19) := rfl
theorem kX5_best_19 : lk LX5_best 19 = some (xK 20 ((-1))) := rfl
theorem kX5_best_20 : lk LX5_best 20 = some (xRet) := rfl
theorem kX5_best_21 : lk LX5_best 21 = some (xLdA 22 0) := rfl
theorem kX5_best_22 : lk LX5_best 22 = some (xGf 25 5 3) := rfl
theorem kX5_best_25 : lk LX5_best 25 = some (xLdA 26 0) := rfl
theorem kX5_best_26 : lk LX5_best 26 = some (xGf 29 5 4) := rfl
theorem kX5_best_29 : lk LX5_best 29 = some (xLdA 30 0) := rfl
theorem kX5_best_30 : lk LX5_best 30 = some (xGf 33 5 6) := rfl
theorem kX5_best_33 : lk LX5_best 33 = some (xLdI 34 1) := rfl
theorem kX5_best_34 : lk LX5_best 34 = some (xCallV MX0_bestSet 0 3 37) := rfl
theorem kX5_best_37 : lk LX5_best 37 = some (xStI 38 3) := rfl
theorem kX5_best_38 : lk LX5_best 38 = some (xLdI 39 2) := rfl
theorem kX5_best_39 : lk LX5_best 39 = some (xZ_ne 46 42) := rfl
theorem kX5_best_42 : lk LX5_best 42 = some (xLdI 43 3) := rfl
theorem kX5_best_43 : lk LX5_best 43 = some (xGo 54) := rfl
theorem kX5_best_46 : lk LX5_best 46 = some (xLdA 47 0) := rfl
theorem kX5_best_47 : lk LX5_best 47 = some (xLdI 48 3) := rfl
theorem kX5_best_48 : lk LX5_best 48 = some (xLdI 49 2) := rfl
theorem kX5_best_49 : lk LX5_best 49 = some (xK 50 (nI 1)) := rfl
theorem kX5_best_50 : lk LX5_best 50 = some (xBin 51 f_isub) := rfl
theorem kX5_best_51 : lk LX5_best 51 = some (xCallV MX5_worthPart 5 2 54) := rfl
theorem kX5_best_54 : lk LX5_best 54 = some (xRet) := rfl
def LX5_cover : List (Nat × XI) := [(0, xLdA 1 0),
  (1, xGf 4 5 4),
  (4, xLdI 5 1),
  (5, xCallV MX3_isSetOfLives 3 1 8),
  (8, xZ_eq 20 11),
  (11, xLdI 12 2),
  (12, xZ_lt 20 15),
  (15, xLdI 16 2),
  (16, xK 17 (nI 2)),
  (17, xC_le 22 20),
  (20, xK 21 ((-1))),
  (21, xRet),
  (22, xLdA 23 0),
  (23, xGf 26 5 3),
  (26, xLdA 27 0),
  (27, xGf 30 5 4),
  (30, xLdI 31 1),
  (31, xCallV MX0_fewestThings 0 2 34),
  (34, xStI 35 3),
  (35, xLdI 36 2),
  (36, xZ_ne 41 39),
  (39, xLdI 40 3),
  (40, xRet),
  (41, xLdI 42 2),
  (42, xK 43 (nI 1)),
  (43, xC_ne 53 46),
  (46, xLdI 47 3),
  (47, xCallS MJ6_bitCount_0f7a4 1 50),
  (50, xGo 61),
  (53, xLdA 54 0),
  (54, xGf 57 5 4),
  (57, xLdI 58 3),
  (58, xCallV MX3_roomTaken 3 1 61),
  (61, xRet)]
theorem sX5_cover_0 : Snd MX5_cover 0 (xLdA 1 0) := snd_aload_n (M := MX5_cover) (pc := 0) dX5_cover_0
theorem sX5_cover_1 : Snd MX5_cover 1 (xGf 4 5 4) := snd_gf (M := MX5_cover) (pc := 1) (C0 := RX5) (T0 := TX5) (N := 13) dX5_cover_1 rfl tbX5 (by decide) w305
theorem sX5_cover_4 : Snd MX5_cover 4 (xLdI 5 1) := snd_iload_n (M := MX5_cover) (pc := 4) dX5_cover_4
theorem sX5_cover_5 : Snd MX5_cover 5 (xCallV MX3_isSetOfLives 3 1 8) := snd_callV (M := MX5_cover) (pc := 5) (n := 1) dX5_cover_5 rfl w377 w378 w379 ⟨w83, w376, ⟨by decide, by decide, by decide +kernel⟩, by decide⟩ ⟨rfl, rfl⟩
theorem sX5_cover_8 : Snd MX5_cover 8 (xZ_eq 20 11) := snd_if_eq (M := MX5_cover) (pc := 8) dX5_cover_8 (by decide)
theorem sX5_cover_11 : Snd MX5_cover 11 (xLdI 12 2) := snd_iload_n (M := MX5_cover) (pc := 11) dX5_cover_11
theorem sX5_cover_12 : Snd MX5_cover 12 (xZ_lt 20 15) := snd_if_lt (M := MX5_cover) (pc := 12) dX5_cover_12 (by decide)
theorem sX5_cover_15 : Snd MX5_cover 15 (xLdI 16 2) := snd_iload_n (M := MX5_cover) (pc := 15) dX5_cover_15
theorem sX5_cover_16 : Snd MX5_cover 16 (xK 17 (nI 2)) := snd_iconst (M := MX5_cover) (pc := 16) dX5_cover_16 (by decide +kernel)
theorem sX5_cover_17 : Snd MX5_cover 17 (xC_le 22 20) := snd_icmp_le (M := MX5_cover) (pc := 17) dX5_cover_17 (by decide)
theorem sX5_cover_20 : Snd MX5_cover 20 (xK 21 ((-1))) := snd_iconst (M := MX5_cover) (pc := 20) dX5_cover_20 (by decide +kernel)
theorem sX5_cover_21 : Snd MX5_cover 21 (xRet) := snd_iret (M := MX5_cover) (pc := 21) dX5_cover_21 rfl
theorem sX5_cover_22 : Snd MX5_cover 22 (xLdA 23 0) := snd_aload_n (M := MX5_cover) (pc := 22) dX5_cover_22
theorem sX5_cover_23 : Snd MX5_cover 23 (xGf 26 5 3) := snd_gf (M := MX5_cover) (pc := 23) (C0 := RX5) (T0 := TX5) (N := 13) dX5_cover_23 rfl tbX5 (by decide) w304
theorem sX5_cover_26 : Snd MX5_cover 26 (xLdA 27 0) := snd_aload_n (M := MX5_cover) (pc := 26) dX5_cover_26
theorem sX5_cover_27 : Snd MX5_cover 27 (xGf 30 5 4) := snd_gf (M := MX5_cover) (pc := 27) (C0 := RX5) (T0 := TX5) (N := 13) dX5_cover_27 rfl tbX5 (by decide) w305
theorem sX5_cover_30 : Snd MX5_cover 30 (xLdI 31 1) := snd_iload_n (M := MX5_cover) (pc := 30) dX5_cover_30
theorem sX5_cover_31 : Snd MX5_cover 31 (xCallV MX0_fewestThings 0 2 34) := snd_callV (M := MX5_cover) (pc := 31) (n := 2) dX5_cover_31 rfl w381 w382 w383 ⟨w102, w380, ⟨by decide, by decide, by decide +kernel⟩, by decide⟩ ⟨rfl, rfl⟩
theorem sX5_cover_34 : Snd MX5_cover 34 (xStI 35 3) := snd_istore_n (M := MX5_cover) (pc := 34) dX5_cover_34 (by decide)
theorem sX5_cover_35 : Snd MX5_cover 35 (xLdI 36 2) := snd_iload_n (M := MX5_cover) (pc := 35) dX5_cover_35
theorem sX5_cover_36 : Snd MX5_cover 36 (xZ_ne 41 39) := snd_if_ne (M := MX5_cover) (pc := 36) dX5_cover_36 (by decide)
theorem sX5_cover_39 : Snd MX5_cover 39 (xLdI 40 3) := snd_iload_n (M := MX5_cover) (pc := 39) dX5_cover_39
theorem sX5_cover_40 : Snd MX5_cover 40 (xRet) := snd_iret (M := MX5_cover) (pc := 40) dX5_cover_40 rfl
theorem sX5_cover_41 : Snd MX5_cover 41 (xLdI 42 2) := snd_iload_n (M := MX5_cover) (pc := 41) dX5_cover_41
theorem sX5_cover_42 : Snd MX5_cover 42 (xK 43 (nI 1)) := snd_iconst (M := MX5_cover) (pc := 42) dX5_cover_42 (by decide +kernel)
theorem sX5_cover_43 : Snd MX5_cover 43 (xC_ne 53 46) := snd_icmp_ne (M := MX5_cover) (pc := 43) dX5_cover_43 (by decide)
theorem sX5_cover_46 : Snd MX5_cover 46 (xLdI 47 3) := snd_iload_n (M := MX5_cover) (pc := 46) dX5_cover_46
theorem sX5_cover_47 : Snd MX5_cover 47 (xCallS MJ6_bitCount_0f7a4 1 50) := snd_callS (M := MX5_cover) (pc := 47) (n := 1) dX5_cover_47 w384 w109 ⟨w106, w107, ⟨by decide, by decide, by decide +kernel⟩, by decide⟩ ⟨rfl, rfl⟩
theorem sX5_cover_50 : Snd MX5_cover 50 (xGo 61) := snd_goto (M := MX5_cover) (pc := 50) dX5_cover_50 (by decide)
theorem sX5_cover_53 : Snd MX5_cover 53 (xLdA 54 0) := snd_aload_n (M := MX5_cover) (pc := 53) dX5_cover_53
theorem sX5_cover_54 : Snd MX5_cover 54 (xGf 57 5 4) := snd_gf (M := MX5_cover) (pc := 54) (C0 := RX5) (T0 := TX5) (N := 13) dX5_cover_54 rfl tbX5 (by decide) w305
theorem sX5_cover_57 : Snd MX5_cover 57 (xLdI 58 3) := snd_iload_n (M := MX5_cover) (pc := 57) dX5_cover_57
theorem sX5_cover_58 : Snd MX5_cover 58 (xCallV MX3_roomTaken 3 1 61) := snd_callV (M := MX5_cover) (pc := 58) (n := 1) dX5_cover_58 rfl w341 w94 w95 ⟨w83, w92, ⟨by decide, by decide, by decide +kernel⟩, by decide⟩ ⟨rfl, rfl⟩
theorem sX5_cover_61 : Snd MX5_cover 61 (xRet) := snd_iret (M := MX5_cover) (pc := 61) dX5_cover_61 rfl
theorem VX5_cover : Valid MX5_cover LX5_cover := va_lid sX5_cover_0 (va_lid sX5_cover_1 (va_lid sX5_cover_4 (va_lid sX5_cover_5 (va_lid sX5_cover_8 (va_lid sX5_cover_11 (va_lid sX5_cover_12 (va_lid sX5_cover_15 (va_lid sX5_cover_16 (va_lid sX5_cover_17 (va_lid sX5_cover_20 (va_lid sX5_cover_21 (va_lid sX5_cover_22 (va_lid sX5_cover_23 (va_lid sX5_cover_26 (va_lid sX5_cover_27 (va_lid sX5_cover_30 (va_lid sX5_cover_31 (va_lid sX5_cover_34 (va_lid sX5_cover_35 (va_lid sX5_cover_36 (va_lid sX5_cover_39 (va_lid sX5_cover_40 (va_lid sX5_cover_41 (va_lid sX5_cover_42 (va_lid sX5_cover_43 (va_lid sX5_cover_46 (va_lid sX5_cover_47 (va_lid sX5_cover_50 (va_lid sX5_cover_53 (va_lid sX5_cover_54 (va_lid sX5_cover_57 (va_lid sX5_cover_58 (va_lid sX5_cover_61 (va_lid0))))))))))))))))))))))))))))))))))
theorem kX5_cover_0 : lk LX5_cover 0 = some (xLdA 1 0) := rfl
theorem kX5_cover_1 : lk LX5_cover 1 = some (xGf 4 5 4) := rfl
theorem kX5_cover_4 : lk LX5_cover 4 = some (xLdI 5 1) := rfl
theorem kX5_cover_5 : lk LX5_cover 5 = some (xCallV MX3_isSetOfLives 3 1 8) := rfl
theorem kX5_cover_8 : lk LX5_cover 8 = some (xZ_eq 20 11) := rfl
theorem kX5_cover_11 : lk LX5_cover 11 = some (xLdI 12 2) := rfl
theorem kX5_cover_12 : lk LX5_cover 12 = some (xZ_lt 20 15) := rfl
theorem kX5_cover_15 : lk LX5_cover 15 = some (xLdI 16 2) := rfl
theorem kX5_cover_16 : lk LX5_cover 16 = some (xK 17 (nI 2)) := rfl
theorem kX5_cover_17 : lk LX5_cover 17 = some (xC_le 22 20) := rfl
theorem kX5_cover_20 : lk LX5_cover 20 = some (xK 21 ((-1))) := rfl
theorem kX5_cover_21 : lk LX5_cover 21 = some (xRet) := rfl
theorem kX5_cover_22 : lk LX5_cover 22 = some (xLdA 23 0) := rfl
theorem kX5_cover_23 : lk LX5_cover 23 = some (xGf 26 5 3) := rfl
theorem kX5_cover_26 : lk LX5_cover 26 = some (xLdA 27 0) := rfl
theorem kX5_cover_27 : lk LX5_cover 27 = some (xGf 30 5 4) := rfl
theorem kX5_cover_30 : lk LX5_cover 30 = some (xLdI 31 1) := rfl
theorem kX5_cover_31 : lk LX5_cover 31 = some (xCallV MX0_fewestThings 0 2 34) := rfl
theorem kX5_cover_34 : lk LX5_cover 34 = some (xStI 35 3) := rfl
theorem kX5_cover_35 : lk LX5_cover 35 = some (xLdI 36 2) := rfl
theorem kX5_cover_36 : lk LX5_cover 36 = some (xZ_ne 41 39) := rfl
theorem kX5_cover_39 : lk LX5_cover 39 = some (xLdI 40 3) := rfl
theorem kX5_cover_40 : lk LX5_cover 40 = some (xRet) := rfl
theorem kX5_cover_41 : lk LX5_cover 41 = some (xLdI 42 2) := rfl
theorem kX5_cover_42 : lk LX5_cover 42 = some (xK 43 (nI 1)) := rfl
theorem kX5_cover_43 : lk LX5_cover 43 = some (xC_ne 53 46) := rfl
theorem kX5_cover_46 : lk LX5_cover 46 = some (xLdI 47 3) := rfl
theorem kX5_cover_47 : lk LX5_cover 47 = some (xCallS MJ6_bitCount_0f7a4 1 50) := rfl
theorem kX5_cover_50 : lk LX5_cover 50 = some (xGo 61) := rfl
theorem kX5_cover_53 : lk LX5_cover 53 = some (xLdA 54 0) := rfl
theorem kX5_cover_54 : lk LX5_cover 54 = some (xGf 57 5 4) := rfl
theorem kX5_cover_57 : lk LX5_cover 57 = some (xLdI 58 3) := rfl
theorem kX5_cover_58 : lk LX5_cover 58 = some (xCallV MX3_roomTaken 3 1 61) := rfl
theorem kX5_cover_61 : lk LX5_cover 61 = some (xRet) := rfl
def LX5_serves : List (Nat × XI) := [(0, xLdA 1 0),
  (1, xGf 4 5 3),
  (4, xLdA 5 0),
  (5, xGf 8 5 4),
  (8, xLdA 9 0),
  (9, xGf 12 5 6),
  (12, xGf 15 1 0),
  (15, xCallV MX0_servesMost 0 2 18),
  (18, xRet)]
theorem sX5_serves_0 : Snd MX5_serves 0 (xLdA 1 0) := snd_aload_n (M := MX5_serves) (pc := 0) dX5_serves_0
theorem sX5_serves_1 : Snd MX5_serves 1 (xGf 4 5 3) := snd_gf (M := MX5_serves) (pc := 1) (C0 := RX5) (T0 := TX5) (N := 13) dX5_serves_1 rfl tbX5 (by decide) w304
theorem sX5_serves_4 : Snd MX5_serves 4 (xLdA 5 0) := snd_aload_n (M := MX5_serves) (pc := 4) dX5_serves_4
theorem sX5_serves_5 : Snd MX5_serves 5 (xGf 8 5 4) := snd_gf (M := MX5_serves) (pc := 5) (C0 := RX5) (T0 := TX5) (N := 13) dX5_serves_5 rfl tbX5 (by decide) w305
theorem sX5_serves_8 : Snd MX5_serves 8 (xLdA 9 0) := snd_aload_n (M := MX5_serves) (pc := 8) dX5_serves_8
theorem sX5_serves_9 : Snd MX5_serves 9 (xGf 12 5 6) := snd_gf (M := MX5_serves) (pc := 9) (C0 := RX5) (T0 := TX5) (N := 13) dX5_serves_9 rfl tbX5 (by decide) w307
theorem sX5_serves_12 : Snd MX5_serves 12 (xGf 15 1 0) := snd_gf (M := MX5_serves) (pc := 12) (C0 := RX1) (T0 := TX1) (N := 4) dX5_serves_12 rfl tbX1 (by decide) w326
theorem sX5_serves_15 : Snd MX5_serves 15 (xCallV MX0_servesMost 0 2 18) := snd_callV (M := MX5_serves) (pc := 15) (n := 2) dX5_serves_15 rfl w386 w387 w388 ⟨w102, w385, ⟨by decide, by decide, by decide +kernel⟩, by decide⟩ ⟨rfl, rfl⟩
theorem sX5_serves_18 : Snd MX5_serves 18 (xRet) := snd_iret (M := MX5_serves) (pc := 18) dX5_serves_18 rfl
theorem VX5_serves : Valid MX5_serves LX5_serves := va_lid sX5_serves_0 (va_lid sX5_serves_1 (va_lid sX5_serves_4 (va_lid sX5_serves_5 (va_lid sX5_serves_8 (va_lid sX5_serves_9 (va_lid sX5_serves_12 (va_lid sX5_serves_15 (va_lid sX5_serves_18 (va_lid0)))))))))
theorem kX5_serves_0 : lk LX5_serves 0 = some (xLdA 1 0) := rfl
theorem kX5_serves_1 : lk LX5_serves 1 = some (xGf 4 5 3) := rfl
theorem kX5_serves_4 : lk LX5_serves 4 = some (xLdA 5 0) := rfl
theorem kX5_serves_5 : lk LX5_serves 5 = some (xGf 8 5 4) := rfl
theorem kX5_serves_8 : lk LX5_serves 8 = some (xLdA 9 0) := rfl
theorem kX5_serves_9 : lk LX5_serves 9 = some (xGf 12 5 6) := rfl
theorem kX5_serves_12 : lk LX5_serves 12 = some (xGf 15 1 0) := rfl
theorem kX5_serves_15 : lk LX5_serves 15 = some (xCallV MX0_servesMost 0 2 18) := rfl
theorem kX5_serves_18 : lk LX5_serves 18 = some (xRet) := rfl
def LX5_row : List (Nat × XI) := [(0, xLdI 1 1),
  (1, xZ_lt 10 4),
  (4, xLdI 5 1),
  (5, xK 7 (nI 6)),
  (7, xC_le 12 10),
  (10, xK 11 ((-1))),
  (11, xRet),
  (12, xLdA 13 0),
  (13, xGf 16 5 3),
  (16, xLdA 17 0),
  (17, xGf 20 5 4),
  (20, xLdA 21 0),
  (21, xGf 24 5 6),
  (24, xLdI 25 1),
  (25, xCallV MX0_longestRow 0 3 28),
  (28, xRet)]
theorem sX5_row_0 : Snd MX5_row 0 (xLdI 1 1) := snd_iload_n (M := MX5_row) (pc := 0) dX5_row_0
theorem sX5_row_1 : Snd MX5_row 1 (xZ_lt 10 4) := snd_if_lt (M := MX5_row) (pc := 1) dX5_row_1 (by decide)
theorem sX5_row_4 : Snd MX5_row 4 (xLdI 5 1) := snd_iload_n (M := MX5_row) (pc := 4) dX5_row_4
theorem sX5_row_5 : Snd MX5_row 5 (xK 7 (nI 6)) := snd_bipush (M := MX5_row) (pc := 5) dX5_row_5 (by decide +kernel)
theorem sX5_row_7 : Snd MX5_row 7 (xC_le 12 10) := snd_icmp_le (M := MX5_row) (pc := 7) dX5_row_7 (by decide)
theorem sX5_row_10 : Snd MX5_row 10 (xK 11 ((-1))) := snd_iconst (M := MX5_row) (pc := 10) dX5_row_10 (by decide +kernel)
theorem sX5_row_11 : Snd MX5_row 11 (xRet) := snd_iret (M := MX5_row) (pc := 11) dX5_row_11 rfl
theorem sX5_row_12 : Snd MX5_row 12 (xLdA 13 0) := snd_aload_n (M := MX5_row) (pc := 12) dX5_row_12
theorem sX5_row_13 : Snd MX5_row 13 (xGf 16 5 3) := snd_gf (M := MX5_row) (pc := 13) (C0 := RX5) (T0 := TX5) (N := 13) dX5_row_13 rfl tbX5 (by decide) w304
theorem sX5_row_16 : Snd MX5_row 16 (xLdA 17 0) := snd_aload_n (M := MX5_row) (pc := 16) dX5_row_16
theorem sX5_row_17 : Snd MX5_row 17 (xGf 20 5 4) := snd_gf (M := MX5_row) (pc := 17) (C0 := RX5) (T0 := TX5) (N := 13) dX5_row_17 rfl tbX5 (by decide) w305
theorem sX5_row_20 : Snd MX5_row 20 (xLdA 21 0) := snd_aload_n (M := MX5_row) (pc := 20) dX5_row_20
theorem sX5_row_21 : Snd MX5_row 21 (xGf 24 5 6) := snd_gf (M := MX5_row) (pc := 21) (C0 := RX5) (T0 := TX5) (N := 13) dX5_row_21 rfl tbX5 (by decide) w307
theorem sX5_row_24 : Snd MX5_row 24 (xLdI 25 1) := snd_iload_n (M := MX5_row) (pc := 24) dX5_row_24
theorem sX5_row_25 : Snd MX5_row 25 (xCallV MX0_longestRow 0 3 28) := snd_callV (M := MX5_row) (pc := 25) (n := 3) dX5_row_25 rfl w390 w391 w392 ⟨w102, w389, ⟨by decide, by decide, by decide +kernel⟩, by decide⟩ ⟨rfl, rfl⟩
theorem sX5_row_28 : Snd MX5_row 28 (xRet) := snd_iret (M := MX5_row) (pc := 28) dX5_row_28 rfl
theorem VX5_row : Valid MX5_row LX5_row := va_lid sX5_row_0 (va_lid sX5_row_1 (va_lid sX5_row_4 (va_lid sX5_row_5 (va_lid sX5_row_7 (va_lid sX5_row_10 (va_lid sX5_row_11 (va_lid sX5_row_12 (va_lid sX5_row_13 (va_lid sX5_row_16 (va_lid sX5_row_17 (va_lid sX5_row_20 (va_lid sX5_row_21 (va_lid sX5_row_24 (va_lid sX5_row_25 (va_lid sX5_row_28 (va_lid0))))))))))))))))
theorem kX5_row_0 : lk LX5_row 0 = some (xLdI 1 1) := rfl
theorem kX5_row_1 : lk LX5_row 1 = some (xZ_lt 10 4) := rfl
theorem kX5_row_4 : lk LX5_row 4 = some (xLdI 5 1) := rfl
theorem kX5_row_5 : lk LX5_row 5 = some (xK 7 (nI 6)) := rfl
theorem kX5_row_7 : lk LX5_row 7 = some (xC_le 12 10) := rfl
theorem kX5_row_10 : lk LX5_row 10 = some (xK 11 ((-1))) := rfl
theorem kX5_row_11 : lk LX5_row 11 = some (xRet) := rfl
theorem kX5_row_12 : lk LX5_row 12 = some (xLdA 13 0) := rfl
theorem kX5_row_13 : lk LX5_row 13 = some (xGf 16 5 3) := rfl
theorem kX5_row_16 : lk LX5_row 16 = some (xLdA 17 0) := rfl
theorem kX5_row_17 : lk LX5_row 17 = some (xGf 20 5 4) := rfl
theorem kX5_row_20 : lk LX5_row 20 = some (xLdA 21 0) := rfl
theorem kX5_row_21 : lk LX5_row 21 = some (xGf 24 5 6) := rfl
theorem kX5_row_24 : lk LX5_row 24 = some (xLdI 25 1) := rfl
theorem kX5_row_25 : lk LX5_row 25 = some (xCallV MX0_longestRow 0 3 28) := rfl
theorem kX5_row_28 : lk LX5_row 28 = some (xRet) := rfl
def LX5_bargain : List (Nat × XI) := [(0, xLdA 1 0),
  (1, xGf 4 5 3),
  (4, xLdA 5 0),
  (5, xGf 8 5 4),
  (8, xLdA 9 0),
  (9, xGf 12 5 4),
  (12, xLdA 13 0),
  (13, xGf 16 5 6),
  (16, xGf 19 1 0),
  (19, xCallV MX3_livesBy 3 1 22),
  (22, xCallV MX0_bargains 0 2 25),
  (25, xRet)]
theorem sX5_bargain_0 : Snd MX5_bargain 0 (xLdA 1 0) := snd_aload_n (M := MX5_bargain) (pc := 0) dX5_bargain_0
theorem sX5_bargain_1 : Snd MX5_bargain 1 (xGf 4 5 3) := snd_gf (M := MX5_bargain) (pc := 1) (C0 := RX5) (T0 := TX5) (N := 13) dX5_bargain_1 rfl tbX5 (by decide) w304
theorem sX5_bargain_4 : Snd MX5_bargain 4 (xLdA 5 0) := snd_aload_n (M := MX5_bargain) (pc := 4) dX5_bargain_4
theorem sX5_bargain_5 : Snd MX5_bargain 5 (xGf 8 5 4) := snd_gf (M := MX5_bargain) (pc := 5) (C0 := RX5) (T0 := TX5) (N := 13) dX5_bargain_5 rfl tbX5 (by decide) w305
theorem sX5_bargain_8 : Snd MX5_bargain 8 (xLdA 9 0) := snd_aload_n (M := MX5_bargain) (pc := 8) dX5_bargain_8
theorem sX5_bargain_9 : Snd MX5_bargain 9 (xGf 12 5 4) := snd_gf (M := MX5_bargain) (pc := 9) (C0 := RX5) (T0 := TX5) (N := 13) dX5_bargain_9 rfl tbX5 (by decide) w305
theorem sX5_bargain_12 : Snd MX5_bargain 12 (xLdA 13 0) := snd_aload_n (M := MX5_bargain) (pc := 12) dX5_bargain_12
theorem sX5_bargain_13 : Snd MX5_bargain 13 (xGf 16 5 6) := snd_gf (M := MX5_bargain) (pc := 13) (C0 := RX5) (T0 := TX5) (N := 13) dX5_bargain_13 rfl tbX5 (by decide) w307
theorem sX5_bargain_16 : Snd MX5_bargain 16 (xGf 19 1 0) := snd_gf (M := MX5_bargain) (pc := 16) (C0 := RX1) (T0 := TX1) (N := 4) dX5_bargain_16 rfl tbX1 (by decide) w326
theorem sX5_bargain_19 : Snd MX5_bargain 19 (xCallV MX3_livesBy 3 1 22) := snd_callV (M := MX5_bargain) (pc := 19) (n := 1) dX5_bargain_19 rfl w393 w112 w113 ⟨w83, w110, ⟨by decide, by decide, by decide +kernel⟩, by decide⟩ ⟨rfl, rfl⟩
theorem sX5_bargain_22 : Snd MX5_bargain 22 (xCallV MX0_bargains 0 2 25) := snd_callV (M := MX5_bargain) (pc := 22) (n := 2) dX5_bargain_22 rfl w395 w396 w397 ⟨w102, w394, ⟨by decide, by decide, by decide +kernel⟩, by decide⟩ ⟨rfl, rfl⟩
theorem sX5_bargain_25 : Snd MX5_bargain 25 (xRet) := snd_iret (M := MX5_bargain) (pc := 25) dX5_bargain_25 rfl
theorem VX5_bargain : Valid MX5_bargain LX5_bargain := va_lid sX5_bargain_0 (va_lid sX5_bargain_1 (va_lid sX5_bargain_4 (va_lid sX5_bargain_5 (va_lid sX5_bargain_8 (va_lid sX5_bargain_9 (va_lid sX5_bargain_12 (va_lid sX5_bargain_13 (va_lid sX5_bargain_16 (va_lid sX5_bargain_19 (va_lid sX5_bargain_22 (va_lid sX5_bargain_25 (va_lid0))))))))))))
theorem kX5_bargain_0 : lk LX5_bargain 0 = some (xLdA 1 0) := rfl
theorem kX5_bargain_1 : lk LX5_bargain 1 = some (xGf 4 5 3) := rfl
theorem kX5_bargain_4 : lk LX5_bargain 4 = some (xLdA 5 0) := rfl
theorem kX5_bargain_5 : lk LX5_bargain 5 = some (xGf 8 5 4) := rfl
theorem kX5_bargain_8 : lk LX5_bargain 8 = some (xLdA 9 0) := rfl
theorem kX5_bargain_9 : lk LX5_bargain 9 = some (xGf 12 5 4) := rfl
theorem kX5_bargain_12 : lk LX5_bargain 12 = some (xLdA 13 0) := rfl
theorem kX5_bargain_13 : lk LX5_bargain 13 = some (xGf 16 5 6) := rfl
theorem kX5_bargain_16 : lk LX5_bargain 16 = some (xGf 19 1 0) := rfl
theorem kX5_bargain_19 : lk LX5_bargain 19 = some (xCallV MX3_livesBy 3 1 22) := rfl
theorem kX5_bargain_22 : lk LX5_bargain 22 = some (xCallV MX0_bargains 0 2 25) := rfl
theorem kX5_bargain_25 : lk LX5_bargain 25 = some (xRet) := rfl
def LX5_talk : List (Nat × XI) := [(0, xLdI 1 1),
  (1, xZ_lt 9 4),
  (4, xLdI 5 1),
  (5, xK 6 (nI 1)),
  (6, xC_le 11 9),
  (9, xK 10 ((-1))),
  (10, xRet),
  (11, xLdA 12 0),
  (12, xGf 15 5 4),
  (15, xLdA 16 0),
  (16, xGf 19 5 6),
  (19, xGf 22 1 0),
  (22, xCallV MX3_livesBy 3 1 25),
  (25, xStI 26 2),
  (26, xLdI 27 1),
  (27, xZ_ne 45 30),
  (30, xLdA 31 0),
  (31, xGf 34 5 3),
  (34, xLdA 35 0),
  (35, xGf 38 5 4),
  (38, xLdI 39 2),
  (39, xCallV MX0_leftByTalk 0 2 42),
  (42, xGo 57),
  (45, xLdA 46 0),
  (46, xGf 49 5 3),
  (49, xLdA 50 0),
  (50, xGf 53 5 4),
  (53, xLdI 54 2),
  (54, xCallV MX0_struckFirst 0 2 57),
  (57, xRet)]
theorem sX5_talk_0 : Snd MX5_talk 0 (xLdI 1 1) := snd_iload_n (M := MX5_talk) (pc := 0) dX5_talk_0
theorem sX5_talk_1 : Snd MX5_talk 1 (xZ_lt 9 4) := snd_if_lt (M := MX5_talk) (pc := 1) dX5_talk_1 (by decide)
theorem sX5_talk_4 : Snd MX5_talk 4 (xLdI 5 1) := snd_iload_n (M := MX5_talk) (pc := 4) dX5_talk_4
theorem sX5_talk_5 : Snd MX5_talk 5 (xK 6 (nI 1)) := snd_iconst (M := MX5_talk) (pc := 5) dX5_talk_5 (by decide +kernel)
theorem sX5_talk_6 : Snd MX5_talk 6 (xC_le 11 9) := snd_icmp_le (M := MX5_talk) (pc := 6) dX5_talk_6 (by decide)
theorem sX5_talk_9 : Snd MX5_talk 9 (xK 10 ((-1))) := snd_iconst (M := MX5_talk) (pc := 9) dX5_talk_9 (by decide +kernel)
theorem sX5_talk_10 : Snd MX5_talk 10 (xRet) := snd_iret (M := MX5_talk) (pc := 10) dX5_talk_10 rfl
theorem sX5_talk_11 : Snd MX5_talk 11 (xLdA 12 0) := snd_aload_n (M := MX5_talk) (pc := 11) dX5_talk_11
theorem sX5_talk_12 : Snd MX5_talk 12 (xGf 15 5 4) := snd_gf (M := MX5_talk) (pc := 12) (C0 := RX5) (T0 := TX5) (N := 13) dX5_talk_12 rfl tbX5 (by decide) w305
theorem sX5_talk_15 : Snd MX5_talk 15 (xLdA 16 0) := snd_aload_n (M := MX5_talk) (pc := 15) dX5_talk_15
theorem sX5_talk_16 : Snd MX5_talk 16 (xGf 19 5 6) := snd_gf (M := MX5_talk) (pc := 16) (C0 := RX5) (T0 := TX5) (N := 13) dX5_talk_16 rfl tbX5 (by decide) w307
theorem sX5_talk_19 : Snd MX5_talk 19 (xGf 22 1 0) := snd_gf (M := MX5_talk) (pc := 19) (C0 := RX1) (T0 := TX1) (N := 4) dX5_talk_19 rfl tbX1 (by decide) w326
theorem sX5_talk_22 : Snd MX5_talk 22 (xCallV MX3_livesBy 3 1 25) := snd_callV (M := MX5_talk) (pc := 22) (n := 1) dX5_talk_22 rfl w393 w112 w113 ⟨w83, w110, ⟨by decide, by decide, by decide +kernel⟩, by decide⟩ ⟨rfl, rfl⟩
theorem sX5_talk_25 : Snd MX5_talk 25 (xStI 26 2) := snd_istore_n (M := MX5_talk) (pc := 25) dX5_talk_25 (by decide)
theorem sX5_talk_26 : Snd MX5_talk 26 (xLdI 27 1) := snd_iload_n (M := MX5_talk) (pc := 26) dX5_talk_26
theorem sX5_talk_27 : Snd MX5_talk 27 (xZ_ne 45 30) := snd_if_ne (M := MX5_talk) (pc := 27) dX5_talk_27 (by decide)
theorem sX5_talk_30 : Snd MX5_talk 30 (xLdA 31 0) := snd_aload_n (M := MX5_talk) (pc := 30) dX5_talk_30
theorem sX5_talk_31 : Snd MX5_talk 31 (xGf 34 5 3) := snd_gf (M := MX5_talk) (pc := 31) (C0 := RX5) (T0 := TX5) (N := 13) dX5_talk_31 rfl tbX5 (by decide) w304
theorem sX5_talk_34 : Snd MX5_talk 34 (xLdA 35 0) := snd_aload_n (M := MX5_talk) (pc := 34) dX5_talk_34
theorem sX5_talk_35 : Snd MX5_talk 35 (xGf 38 5 4) := snd_gf (M := MX5_talk) (pc := 35) (C0 := RX5) (T0 := TX5) (N := 13) dX5_talk_35 rfl tbX5 (by decide) w305
theorem sX5_talk_38 : Snd MX5_talk 38 (xLdI 39 2) := snd_iload_n (M := MX5_talk) (pc := 38) dX5_talk_38
theorem sX5_talk_39 : Snd MX5_talk 39 (xCallV MX0_leftByTalk 0 2 42) := snd_callV (M := MX5_talk) (pc := 39) (n := 2) dX5_talk_39 rfl w399 w400 w401 ⟨w102, w398, ⟨by decide, by decide, by decide +kernel⟩, by decide⟩ ⟨rfl, rfl⟩
theorem sX5_talk_42 : Snd MX5_talk 42 (xGo 57) := snd_goto (M := MX5_talk) (pc := 42) dX5_talk_42 (by decide)
theorem sX5_talk_45 : Snd MX5_talk 45 (xLdA 46 0) := snd_aload_n (M := MX5_talk) (pc := 45) dX5_talk_45
theorem sX5_talk_46 : Snd MX5_talk 46 (xGf 49 5 3) := snd_gf (M := MX5_talk) (pc := 46) (C0 := RX5) (T0 := TX5) (N := 13) dX5_talk_46 rfl tbX5 (by decide) w304
theorem sX5_talk_49 : Snd MX5_talk 49 (xLdA 50 0) := snd_aload_n (M := MX5_talk) (pc := 49) dX5_talk_49
theorem sX5_talk_50 : Snd MX5_talk 50 (xGf 53 5 4) := snd_gf (M := MX5_talk) (pc := 50) (C0 := RX5) (T0 := TX5) (N := 13) dX5_talk_50 rfl tbX5 (by decide) w305
theorem sX5_talk_53 : Snd MX5_talk 53 (xLdI 54 2) := snd_iload_n (M := MX5_talk) (pc := 53) dX5_talk_53
theorem sX5_talk_54 : Snd MX5_talk 54 (xCallV MX0_struckFirst 0 2 57) := snd_callV (M := MX5_talk) (pc := 54) (n := 2) dX5_talk_54 rfl w403 w404 w405 ⟨w102, w402, ⟨by decide, by decide, by decide +kernel⟩, by decide⟩ ⟨rfl, rfl⟩
theorem sX5_talk_57 : Snd MX5_talk 57 (xRet) := snd_iret (M := MX5_talk) (pc := 57) dX5_talk_57 rfl
theorem VX5_talk : Valid MX5_talk LX5_talk := va_lid sX5_talk_0 (va_lid sX5_talk_1 (va_lid sX5_talk_4 (va_lid sX5_talk_5 (va_lid sX5_talk_6 (va_lid sX5_talk_9 (va_lid sX5_talk_10 (va_lid sX5_talk_11 (va_lid sX5_talk_12 (va_lid sX5_talk_15 (va_lid sX5_talk_16 (va_lid sX5_talk_19 (va_lid sX5_talk_22 (va_lid sX5_talk_25 (va_lid sX5_talk_26 (va_lid sX5_talk_27 (va_lid sX5_talk_30 (va_lid sX5_talk_31 (va_lid sX5_talk_34 (va_lid sX5_talk_35 (va_lid sX5_talk_38 (va_lid sX5_talk_39 (va_lid sX5_talk_42 (va_lid sX5_talk_45 (va_lid sX5_talk_46 (va_lid sX5_talk_49 (va_lid sX5_talk_50 (va_lid sX5_talk_53 (va_lid sX5_talk_54 (va_lid sX5_talk_57 (va_lid0))))))))))))))))))))))))))))))
theorem kX5_talk_0 : lk LX5_talk 0 = some (xLdI 1 1) := rfl
theorem kX5_talk_1 : lk LX5_talk 1 = some (xZ_lt 9 4) := rfl
theorem kX5_talk_4 : lk LX5_talk 4 = some (xLdI 5 1) := rfl
theorem kX5_talk_5 : lk LX5_talk 5 = some (xK 6 (nI 1)) := rfl
theorem kX5_talk_6 : lk LX5_talk 6 = some (xC_le 11 9) := rfl
theorem kX5_talk_9 : lk LX5_talk 9 = some (xK 10 ((-1))) := rfl
theorem kX5_talk_10 : lk LX5_talk 10 = some (xRet) := rfl
theorem kX5_talk_11 : lk LX5_talk 11 = some (xLdA 12 0) := rfl
theorem kX5_talk_12 : lk LX5_talk 12 = some (xGf 15 5 4) := rfl
theorem kX5_talk_15 : lk LX5_talk 15 = some (xLdA 16 0) := rfl
theorem kX5_talk_16 : lk LX5_talk 16 = some (xGf 19 5 6) := rfl
theorem kX5_talk_19 : lk LX5_talk 19 = some (xGf 22 1 0) := rfl
theorem kX5_talk_22 : lk LX5_talk 22 = some (xCallV MX3_livesBy 3 1 25) := rfl
theorem kX5_talk_25 : lk LX5_talk 25 = some (xStI 26 2) := rfl
theorem kX5_talk_26 : lk LX5_talk 26 = some (xLdI 27 1) := rfl
theorem kX5_talk_27 : lk LX5_talk 27 = some (xZ_ne 45 30) := rfl
theorem kX5_talk_30 : lk LX5_talk 30 = some (xLdA 31 0) := rfl
theorem kX5_talk_31 : lk LX5_talk 31 = some (xGf 34 5 3) := rfl
theorem kX5_talk_34 : lk LX5_talk 34 = some (xLdA 35 0) := rfl
theorem kX5_talk_35 : lk LX5_talk 35 = some (xGf 38 5 4) := rfl
theorem kX5_talk_38 : lk LX5_talk 38 = some (xLdI 39 2) := rfl
theorem kX5_talk_39 : lk LX5_talk 39 = some (xCallV MX0_leftByTalk 0 2 42) := rfl
theorem kX5_talk_42 : lk LX5_talk 42 = some (xGo 57) := rfl
theorem kX5_talk_45 : lk LX5_talk 45 = some (xLdA 46 0) := rfl
theorem kX5_talk_46 : lk LX5_talk 46 = some (xGf 49 5 3) := rfl
theorem kX5_talk_49 : lk LX5_talk 49 = some (xLdA 50 0) := rfl
theorem kX5_talk_50 : lk LX5_talk 50 = some (xGf 53 5 4) := rfl
theorem kX5_talk_53 : lk LX5_talk 53 = some (xLdI 54 2) := rfl
theorem kX5_talk_54 : lk LX5_talk 54 = some (xCallV MX0_struckFirst 0 2 57) := rfl
theorem kX5_talk_57 : lk LX5_talk 57 = some (xRet) := rfl
def LX5_see : List (Nat × XI) := [(0, xLdA 1 0),
  (1, xGf 4 5 4),
  (4, xLdI 5 1),
  (5, xCallV MX3_isThing 3 1 8),
  (8, xZ_ne 13 11),
  (11, xK 12 ((-1))),
  (12, xRet),
  (13, xLdA 14 0),
  (14, xGf 17 5 10),
  (17, xK 19 (nI 8)),
  (19, xC_lt 25 22),
  (22, xK 24 ((-3))),
  (24, xRet),
  (25, xLdI 26 2),
  (26, xZ_eq 44 29),
  (29, xLdA 30 0),
  (30, xDup 31),
  (31, xGf 34 5 11),
  (34, xK 35 (nI 1)),
  (35, xLdI 36 1),
  (36, xBin 37 f_ishl),
  (37, xBin 38 f_ior),
  (38, xPfI 41 5 11),
  (41, xGo 56),
  (44, xLdA 45 0),
  (45, xDup 46),
  (46, xGf 49 5 12),
  (49, xK 50 (nI 1)),
  (50, xLdI 51 1),
  (51, xBin 52 f_ishl),
  (52, xBin 53 f_ior),
  (53, xPfI 56 5 12),
  (56, xLdA 57 0),
  (57, xDup 58),
  (58, xGf 61 5 10),
  (61, xK 62 (nI 1)),
  (62, xBin 63 f_iadd),
  (63, xPfI 66 5 10),
  (66, xLdA 67 0),
  (67, xGf 70 5 10),
  (70, xRet)]
theorem sX5_see_0 : Snd MX5_see 0 (xLdA 1 0) := snd_aload_n (M := MX5_see) (pc := 0) dX5_see_0
theorem sX5_see_1 : Snd MX5_see 1 (xGf 4 5 4) := snd_gf (M := MX5_see) (pc := 1) (C0 := RX5) (T0 := TX5) (N := 13) dX5_see_1 rfl tbX5 (by decide) w305
theorem sX5_see_4 : Snd MX5_see 4 (xLdI 5 1) := snd_iload_n (M := MX5_see) (pc := 4) dX5_see_4
theorem sX5_see_5 : Snd MX5_see 5 (xCallV MX3_isThing 3 1 8) := snd_callV (M := MX5_see) (pc := 5) (n := 1) dX5_see_5 rfl w321 w248 w249 ⟨w83, w246, ⟨by decide, by decide, by decide +kernel⟩, by decide⟩ ⟨rfl, rfl⟩
theorem sX5_see_8 : Snd MX5_see 8 (xZ_ne 13 11) := snd_if_ne (M := MX5_see) (pc := 8) dX5_see_8 (by decide)
theorem sX5_see_11 : Snd MX5_see 11 (xK 12 ((-1))) := snd_iconst (M := MX5_see) (pc := 11) dX5_see_11 (by decide +kernel)
theorem sX5_see_12 : Snd MX5_see 12 (xRet) := snd_iret (M := MX5_see) (pc := 12) dX5_see_12 rfl
theorem sX5_see_13 : Snd MX5_see 13 (xLdA 14 0) := snd_aload_n (M := MX5_see) (pc := 13) dX5_see_13
theorem sX5_see_14 : Snd MX5_see 14 (xGf 17 5 10) := snd_gf (M := MX5_see) (pc := 14) (C0 := RX5) (T0 := TX5) (N := 13) dX5_see_14 rfl tbX5 (by decide) w406
theorem sX5_see_17 : Snd MX5_see 17 (xK 19 (nI 8)) := snd_bipush (M := MX5_see) (pc := 17) dX5_see_17 (by decide +kernel)
theorem sX5_see_19 : Snd MX5_see 19 (xC_lt 25 22) := snd_icmp_lt (M := MX5_see) (pc := 19) dX5_see_19 (by decide)
theorem sX5_see_22 : Snd MX5_see 22 (xK 24 ((-3))) := snd_bipush (M := MX5_see) (pc := 22) dX5_see_22 (by decide +kernel)
theorem sX5_see_24 : Snd MX5_see 24 (xRet) := snd_iret (M := MX5_see) (pc := 24) dX5_see_24 rfl
theorem sX5_see_25 : Snd MX5_see 25 (xLdI 26 2) := snd_iload_n (M := MX5_see) (pc := 25) dX5_see_25
theorem sX5_see_26 : Snd MX5_see 26 (xZ_eq 44 29) := snd_if_eq (M := MX5_see) (pc := 26) dX5_see_26 (by decide)
theorem sX5_see_29 : Snd MX5_see 29 (xLdA 30 0) := snd_aload_n (M := MX5_see) (pc := 29) dX5_see_29
theorem sX5_see_30 : Snd MX5_see 30 (xDup 31) := snd_dup (M := MX5_see) (pc := 30) dX5_see_30
theorem sX5_see_31 : Snd MX5_see 31 (xGf 34 5 11) := snd_gf (M := MX5_see) (pc := 31) (C0 := RX5) (T0 := TX5) (N := 13) dX5_see_31 rfl tbX5 (by decide) w407
theorem sX5_see_34 : Snd MX5_see 34 (xK 35 (nI 1)) := snd_iconst (M := MX5_see) (pc := 34) dX5_see_34 (by decide +kernel)
theorem sX5_see_35 : Snd MX5_see 35 (xLdI 36 1) := snd_iload_n (M := MX5_see) (pc := 35) dX5_see_35
theorem sX5_see_36 : Snd MX5_see 36 (xBin 37 f_ishl) := snd_ishl (M := MX5_see) (pc := 36) dX5_see_36
theorem sX5_see_37 : Snd MX5_see 37 (xBin 38 f_ior) := snd_ior (M := MX5_see) (pc := 37) dX5_see_37
theorem sX5_see_38 : Snd MX5_see 38 (xPfI 41 5 11) := snd_pfI (M := MX5_see) (pc := 38) (C0 := RX5) (T0 := TX5) (N := 13) dX5_see_38 rfl tbX5 tyX5 tyX5_ok nmX5 (by decide) w407 rfl (by decide +kernel)
theorem sX5_see_41 : Snd MX5_see 41 (xGo 56) := snd_goto (M := MX5_see) (pc := 41) dX5_see_41 (by decide)
theorem sX5_see_44 : Snd MX5_see 44 (xLdA 45 0) := snd_aload_n (M := MX5_see) (pc := 44) dX5_see_44
theorem sX5_see_45 : Snd MX5_see 45 (xDup 46) := snd_dup (M := MX5_see) (pc := 45) dX5_see_45
theorem sX5_see_46 : Snd MX5_see 46 (xGf 49 5 12) := snd_gf (M := MX5_see) (pc := 46) (C0 := RX5) (T0 := TX5) (N := 13) dX5_see_46 rfl tbX5 (by decide) w408
theorem sX5_see_49 : Snd MX5_see 49 (xK 50 (nI 1)) := snd_iconst (M := MX5_see) (pc := 49) dX5_see_49 (by decide +kernel)
theorem sX5_see_50 : Snd MX5_see 50 (xLdI 51 1) := snd_iload_n (M := MX5_see) (pc := 50) dX5_see_50
theorem sX5_see_51 : Snd MX5_see 51 (xBin 52 f_ishl) := snd_ishl (M := MX5_see) (pc := 51) dX5_see_51
theorem sX5_see_52 : Snd MX5_see 52 (xBin 53 f_ior) := snd_ior (M := MX5_see) (pc := 52) dX5_see_52
theorem sX5_see_53 : Snd MX5_see 53 (xPfI 56 5 12) := snd_pfI (M := MX5_see) (pc := 53) (C0 := RX5) (T0 := TX5) (N := 13) dX5_see_53 rfl tbX5 tyX5 tyX5_ok nmX5 (by decide) w408 rfl (by decide +kernel)
theorem sX5_see_56 : Snd MX5_see 56 (xLdA 57 0) := snd_aload_n (M := MX5_see) (pc := 56) dX5_see_56
theorem sX5_see_57 : Snd MX5_see 57 (xDup 58) := snd_dup (M := MX5_see) (pc := 57) dX5_see_57
theorem sX5_see_58 : Snd MX5_see 58 (xGf 61 5 10) := snd_gf (M := MX5_see) (pc := 58) (C0 := RX5) (T0 := TX5) (N := 13) dX5_see_58 rfl tbX5 (by decide) w406
theorem sX5_see_61 : Snd MX5_see 61 (xK 62 (nI 1)) := snd_iconst (M := MX5_see) (pc := 61) dX5_see_61 (by decide +kernel)
theorem sX5_see_62 : Snd MX5_see 62 (xBin 63 f_iadd) := snd_iadd (M := MX5_see) (pc := 62) dX5_see_62
theorem sX5_see_63 : Snd MX5_see 63 (xPfI 66 5 10) := snd_pfI (M := MX5_see) (pc := 63) (C0 := RX5) (T0 := TX5) (N := 13) dX5_see_63 rfl tbX5 tyX5 tyX5_ok nmX5 (by decide) w406 rfl (by decide +kernel)
theorem sX5_see_66 : Snd MX5_see 66 (xLdA 67 0) := snd_aload_n (M := MX5_see) (pc := 66) dX5_see_66
theorem sX5_see_67 : Snd MX5_see 67 (xGf 70 5 10) := snd_gf (M := MX5_see) (pc := 67) (C0 := RX5) (T0 := TX5) (N := 13) dX5_see_67 rfl tbX5 (by decide) w406
theorem sX5_see_70 : Snd MX5_see 70 (xRet) := snd_iret (M := MX5_see) (pc := 70) dX5_see_70 rfl
theorem VX5_see : Valid MX5_see LX5_see := va_lid sX5_see_0 (va_lid sX5_see_1 (va_lid sX5_see_4 (va_lid sX5_see_5 (va_lid sX5_see_8 (va_lid sX5_see_11 (va_lid sX5_see_12 (va_lid sX5_see_13 (va_lid sX5_see_14 (va_lid sX5_see_17 (va_lid sX5_see_19 (va_lid sX5_see_22 (va_lid sX5_see_24 (va_lid sX5_see_25 (va_lid sX5_see_26 (va_lid sX5_see_29 (va_lid sX5_see_30 (va_lid sX5_see_31 (va_lid sX5_see_34 (va_lid sX5_see_35 (va_lid sX5_see_36 (va_lid sX5_see_37 (va_lid sX5_see_38 (va_lid sX5_see_41 (va_lid sX5_see_44 (va_lid sX5_see_45 (va_lid sX5_see_46 (va_lid sX5_see_49 (va_lid sX5_see_50 (va_lid sX5_see_51 (va_lid sX5_see_52 (va_lid sX5_see_53 (va_lid sX5_see_56 (va_lid sX5_see_57 (va_lid sX5_see_58 (va_lid sX5_see_61 (va_lid sX5_see_62 (va_lid sX5_see_63 (va_lid sX5_see_66 (va_lid sX5_see_67 (va_lid sX5_see_70 (va_lid0)))))))))))))))))))))))))))))))))))))))))
theorem kX5_see_0 : lk LX5_see 0 = some (xLdA 1 0) := rfl
theorem kX5_see_1 : lk LX5_see 1 = some (xGf 4 5 4) := rfl
theorem kX5_see_4 : lk LX5_see 4 = some (xLdI 5 1) := rfl
theorem kX5_see_5 : lk LX5_see 5 = some (xCallV MX3_isThing 3 1 8) := rfl
theorem kX5_see_8 : lk LX5_see 8 = some (xZ_ne 13 11) := rfl
theorem kX5_see_11 : lk LX5_see 11 = some (xK 12 ((-1))) := rfl
theorem kX5_see_12 : lk LX5_see 12 = some (xRet) := rfl
theorem kX5_see_13 : lk LX5_see 13 = some (xLdA 14 0) := rfl
theorem kX5_see_14 : lk LX5_see 14 = some (xGf 17 5 10) := rfl
theorem kX5_see_17 : lk LX5_see 17 = some (xK 19 (nI 8)) := rfl
theorem kX5_see_19 : lk LX5_see 19 = some (xC_lt 25 22) := rfl
theorem kX5_see_22 : lk LX5_see 22 = some (xK 24 ((-3))) := rfl
theorem kX5_see_24 : lk LX5_see 24 = some (xRet) := rfl
theorem kX5_see_25 : lk LX5_see 25 = some (xLdI 26 2) := rfl
theorem kX5_see_26 : lk LX5_see 26 = some (xZ_eq 44 29) := rfl
theorem kX5_see_29 : lk LX5_see 29 = some (xLdA 30 0) := rfl
theorem kX5_see_30 : lk LX5_see 30 = some (xDup 31) := rfl
theorem kX5_see_31 : lk LX5_see 31 = some (xGf 34 5 11) := rfl
theorem kX5_see_34 : lk LX5_see 34 = some (xK 35 (nI 1)) := rfl
theorem kX5_see_35 : lk LX5_see 35 = some (xLdI 36 1) := rfl
theorem kX5_see_36 : lk LX5_see 36 = some (xBin 37 f_ishl) := rfl
theorem kX5_see_37 : lk LX5_see 37 = some (xBin 38 f_ior) := rfl
theorem kX5_see_38 : lk LX5_see 38 = some (xPfI 41 5 11) := rfl
theorem kX5_see_41 : lk LX5_see 41 = some (xGo 56) := rfl
theorem kX5_see_44 : lk LX5_see 44 = some (xLdA 45 0) := rfl
theorem kX5_see_45 : lk LX5_see 45 = some (xDup 46) := rfl
theorem kX5_see_46 : lk LX5_see 46 = some (xGf 49 5 12) := rfl
theorem kX5_see_49 : lk LX5_see 49 = some (xK 50 (nI 1)) := rfl
theorem kX5_see_50 : lk LX5_see 50 = some (xLdI 51 1) := rfl
theorem kX5_see_51 : lk LX5_see 51 = some (xBin 52 f_ishl) := rfl
theorem kX5_see_52 : lk LX5_see 52 = some (xBin 53 f_ior) := rfl
theorem kX5_see_53 : lk LX5_see 53 = some (xPfI 56 5 12) := rfl
theorem kX5_see_56 : lk LX5_see 56 = some (xLdA 57 0) := rfl
theorem kX5_see_57 : lk LX5_see 57 = some (xDup 58) := rfl
theorem kX5_see_58 : lk LX5_see 58 = some (xGf 61 5 10) := rfl
theorem kX5_see_61 : lk LX5_see 61 = some (xK 62 (nI 1)) := rfl
theorem kX5_see_62 : lk LX5_see 62 = some (xBin 63 f_iadd) := rfl
theorem kX5_see_63 : lk LX5_see 63 = some (xPfI 66 5 10) := rfl
theorem kX5_see_66 : lk LX5_see 66 = some (xLdA 67 0) := rfl
theorem kX5_see_67 : lk LX5_see 67 = some (xGf 70 5 10) := rfl
theorem kX5_see_70 : lk LX5_see 70 = some (xRet) := rfl
def LX5_forget : List (Nat × XI) := [(0, xLdA 1 0),
  (1, xGf 4 5 10),
  (4, xStI 5 1),
  (5, xLdA 6 0),
  (6, xK 7 (nI 0)),
  (7, xPfI 10 5 10),
  (10, xLdA 11 0),
  (11, xK 12 (nI 0)),
  (12, xPfI 15 5 11),
  (15, xLdA 16 0),
  (16, xK 17 (nI 0)),
  (17, xPfI 20 5 12),
  (20, xLdI 21 1),
  (21, xRet)]
theorem sX5_forget_0 : Snd MX5_forget 0 (xLdA 1 0) := snd_aload_n (M := MX5_forget) (pc := 0) dX5_forget_0
theorem sX5_forget_1 : Snd MX5_forget 1 (xGf 4 5 10) := snd_gf (M := MX5_forget) (pc := 1) (C0 := RX5) (T0 := TX5) (N := 13) dX5_forget_1 rfl tbX5 (by decide) w406
theorem sX5_forget_4 : Snd MX5_forget 4 (xStI 5 1) := snd_istore_n (M := MX5_forget) (pc := 4) dX5_forget_4 (by decide)
theorem sX5_forget_5 : Snd MX5_forget 5 (xLdA 6 0) := snd_aload_n (M := MX5_forget) (pc := 5) dX5_forget_5
theorem sX5_forget_6 : Snd MX5_forget 6 (xK 7 (nI 0)) := snd_iconst (M := MX5_forget) (pc := 6) dX5_forget_6 (by decide +kernel)
theorem sX5_forget_7 : Snd MX5_forget 7 (xPfI 10 5 10) := snd_pfI (M := MX5_forget) (pc := 7) (C0 := RX5) (T0 := TX5) (N := 13) dX5_forget_7 rfl tbX5 tyX5 tyX5_ok nmX5 (by decide) w406 rfl (by decide +kernel)
theorem sX5_forget_10 : Snd MX5_forget 10 (xLdA 11 0) := snd_aload_n (M := MX5_forget) (pc := 10) dX5_forget_10
theorem sX5_forget_11 : Snd MX5_forget 11 (xK 12 (nI 0)) := snd_iconst (M := MX5_forget) (pc := 11) dX5_forget_11 (by decide +kernel)
theorem sX5_forget_12 : Snd MX5_forget 12 (xPfI 15 5 11) := snd_pfI (M := MX5_forget) (pc := 12) (C0 := RX5) (T0 := TX5) (N := 13) dX5_forget_12 rfl tbX5 tyX5 tyX5_ok nmX5 (by decide) w407 rfl (by decide +kernel)
theorem sX5_forget_15 : Snd MX5_forget 15 (xLdA 16 0) := snd_aload_n (M := MX5_forget) (pc := 15) dX5_forget_15
theorem sX5_forget_16 : Snd MX5_forget 16 (xK 17 (nI 0)) := snd_iconst (M := MX5_forget) (pc := 16) dX5_forget_16 (by decide +kernel)
theorem sX5_forget_17 : Snd MX5_forget 17 (xPfI 20 5 12) := snd_pfI (M := MX5_forget) (pc := 17) (C0 := RX5) (T0 := TX5) (N := 13) dX5_forget_17 rfl tbX5 tyX5 tyX5_ok nmX5 (by decide) w408 rfl (by decide +kernel)
theorem sX5_forget_20 : Snd MX5_forget 20 (xLdI 21 1) := snd_iload_n (M := MX5_forget) (pc := 20) dX5_forget_20
theorem sX5_forget_21 : Snd MX5_forget 21 (xRet) := snd_iret (M := MX5_forget) (pc := 21) dX5_forget_21 rfl
theorem VX5_forget : Valid MX5_forget LX5_forget := va_lid sX5_forget_0 (va_lid sX5_forget_1 (va_lid sX5_forget_4 (va_lid sX5_forget_5 (va_lid sX5_forget_6 (va_lid sX5_forget_7 (va_lid sX5_forget_10 (va_lid sX5_forget_11 (va_lid sX5_forget_12 (va_lid sX5_forget_15 (va_lid sX5_forget_16 (va_lid sX5_forget_17 (va_lid sX5_forget_20 (va_lid sX5_forget_21 (va_lid0))))))))))))))
theorem kX5_forget_0 : lk LX5_forget 0 = some (xLdA 1 0) := rfl
theorem kX5_forget_1 : lk LX5_forget 1 = some (xGf 4 5 10) := rfl
theorem kX5_forget_4 : lk LX5_forget 4 = some (xStI 5 1) := rfl
theorem kX5_forget_5 : lk LX5_forget 5 = some (xLdA 6 0) := rfl
theorem kX5_forget_6 : lk LX5_forget 6 = some (xK 7 (nI 0)) := rfl
theorem kX5_forget_7 : lk LX5_forget 7 = some (xPfI 10 5 10) := rfl
theorem kX5_forget_10 : lk LX5_forget 10 = some (xLdA 11 0) := rfl
theorem kX5_forget_11 : lk LX5_forget 11 = some (xK 12 (nI 0)) := rfl
theorem kX5_forget_12 : lk LX5_forget 12 = some (xPfI 15 5 11) := rfl
theorem kX5_forget_15 : lk LX5_forget 15 = some (xLdA 16 0) := rfl
theorem kX5_forget_16 : lk LX5_forget 16 = some (xK 17 (nI 0)) := rfl
theorem kX5_forget_17 : lk LX5_forget 17 = some (xPfI 20 5 12) := rfl
theorem kX5_forget_20 : lk LX5_forget 20 = some (xLdI 21 1) := rfl
theorem kX5_forget_21 : lk LX5_forget 21 = some (xRet) := rfl
def LX5_meant : List (Nat × XI) := [(0, xK 1 (nI 0)),
  (1, xStI 2 1),
  (2, xK 3 (nI 0)),
  (3, xStI 4 2),
  (4, xLdI 5 2),
  (5, xLdA 6 0),
  (6, xGf 9 5 4),
  (9, xGf 12 3 3),
  (12, xC_ge 59 15),
  (15, xLdA 16 0),
  (16, xGf 19 5 4),
  (19, xGf 22 3 13),
  (22, xLdI 23 2),
  (23, xCallS MX5_at 2 26),
  (26, xStI 27 3),
  (27, xLdA 28 0),
  (28, xGf 31 5 11),
  (31, xLdI 32 3),
  (32, xK 33 ((-1))),
  (33, xBin 34 f_ixor),
  (34, xBin 35 f_iand),
  (35, xZ_ne 53 38),
  (38, xLdA 39 0),
  (39, xGf 42 5 12),
  (42, xLdI 43 3),
  (43, xBin 44 f_iand),
  (44, xZ_ne 53 47),
  (47, xLdI 48 1),
  (48, xK 49 (nI 1)),
  (49, xLdI 50 2),
  (50, xBin 51 f_ishl),
  (51, xBin 52 f_ior),
  (52, xStI 53 1),
  (53, xInc 56 2 (nI 1)),
  (56, xGo 4),
  (59, xLdI 60 1),
  (60, xRet)]
theorem sX5_meant_0 : Snd MX5_meant 0 (xK 1 (nI 0)) := snd_iconst (M := MX5_meant) (pc := 0) dX5_meant_0 (by decide +kernel)
theorem sX5_meant_1 : Snd MX5_meant 1 (xStI 2 1) := snd_istore_n (M := MX5_meant) (pc := 1) dX5_meant_1 (by decide)
theorem sX5_meant_2 : Snd MX5_meant 2 (xK 3 (nI 0)) := snd_iconst (M := MX5_meant) (pc := 2) dX5_meant_2 (by decide +kernel)
theorem sX5_meant_3 : Snd MX5_meant 3 (xStI 4 2) := snd_istore_n (M := MX5_meant) (pc := 3) dX5_meant_3 (by decide)
theorem sX5_meant_4 : Snd MX5_meant 4 (xLdI 5 2) := snd_iload_n (M := MX5_meant) (pc := 4) dX5_meant_4
theorem sX5_meant_5 : Snd MX5_meant 5 (xLdA 6 0) := snd_aload_n (M := MX5_meant) (pc := 5) dX5_meant_5
theorem sX5_meant_6 : Snd MX5_meant 6 (xGf 9 5 4) := snd_gf (M := MX5_meant) (pc := 6) (C0 := RX5) (T0 := TX5) (N := 13) dX5_meant_6 rfl tbX5 (by decide) w305
theorem sX5_meant_9 : Snd MX5_meant 9 (xGf 12 3 3) := snd_gf (M := MX5_meant) (pc := 9) (C0 := RX3) (T0 := TX3) (N := 14) dX5_meant_9 rfl tbX3 (by decide) w312
theorem sX5_meant_12 : Snd MX5_meant 12 (xC_ge 59 15) := snd_icmp_ge (M := MX5_meant) (pc := 12) dX5_meant_12 (by decide)
theorem sX5_meant_15 : Snd MX5_meant 15 (xLdA 16 0) := snd_aload_n (M := MX5_meant) (pc := 15) dX5_meant_15
theorem sX5_meant_16 : Snd MX5_meant 16 (xGf 19 5 4) := snd_gf (M := MX5_meant) (pc := 16) (C0 := RX5) (T0 := TX5) (N := 13) dX5_meant_16 rfl tbX5 (by decide) w305
theorem sX5_meant_19 : Snd MX5_meant 19 (xGf 22 3 13) := snd_gf (M := MX5_meant) (pc := 19) (C0 := RX3) (T0 := TX3) (N := 14) dX5_meant_19 rfl tbX3 (by decide) w338
theorem sX5_meant_22 : Snd MX5_meant 22 (xLdI 23 2) := snd_iload_n (M := MX5_meant) (pc := 22) dX5_meant_22
theorem sX5_meant_23 : Snd MX5_meant 23 (xCallS MX5_at 2 26) := snd_callS (M := MX5_meant) (pc := 23) (n := 2) dX5_meant_23 w323 w123 ⟨w115, w122, ⟨by decide, by decide, by decide +kernel⟩, by decide⟩ ⟨rfl, rfl⟩
theorem sX5_meant_26 : Snd MX5_meant 26 (xStI 27 3) := snd_istore_n (M := MX5_meant) (pc := 26) dX5_meant_26 (by decide)
theorem sX5_meant_27 : Snd MX5_meant 27 (xLdA 28 0) := snd_aload_n (M := MX5_meant) (pc := 27) dX5_meant_27
theorem sX5_meant_28 : Snd MX5_meant 28 (xGf 31 5 11) := snd_gf (M := MX5_meant) (pc := 28) (C0 := RX5) (T0 := TX5) (N := 13) dX5_meant_28 rfl tbX5 (by decide) w407
theorem sX5_meant_31 : Snd MX5_meant 31 (xLdI 32 3) := snd_iload_n (M := MX5_meant) (pc := 31) dX5_meant_31
theorem sX5_meant_32 : Snd MX5_meant 32 (xK 33 ((-1))) := snd_iconst (M := MX5_meant) (pc := 32) dX5_meant_32 (by decide +kernel)
theorem sX5_meant_33 : Snd MX5_meant 33 (xBin 34 f_ixor) := snd_ixor (M := MX5_meant) (pc := 33) dX5_meant_33
theorem sX5_meant_34 : Snd MX5_meant 34 (xBin 35 f_iand) := snd_iand (M := MX5_meant) (pc := 34) dX5_meant_34
theorem sX5_meant_35 : Snd MX5_meant 35 (xZ_ne 53 38) := snd_if_ne (M := MX5_meant) (pc := 35) dX5_meant_35 (by decide)
theorem sX5_meant_38 : Snd MX5_meant 38 (xLdA 39 0) := snd_aload_n (M := MX5_meant) (pc := 38) dX5_meant_38
theorem sX5_meant_39 : Snd MX5_meant 39 (xGf 42 5 12) := snd_gf (M := MX5_meant) (pc := 39) (C0 := RX5) (T0 := TX5) (N := 13) dX5_meant_39 rfl tbX5 (by decide) w408
theorem sX5_meant_42 : Snd MX5_meant 42 (xLdI 43 3) := snd_iload_n (M := MX5_meant) (pc := 42) dX5_meant_42
theorem sX5_meant_43 : Snd MX5_meant 43 (xBin 44 f_iand) := snd_iand (M := MX5_meant) (pc := 43) dX5_meant_43
theorem sX5_meant_44 : Snd MX5_meant 44 (xZ_ne 53 47) := snd_if_ne (M := MX5_meant) (pc := 44) dX5_meant_44 (by decide)
theorem sX5_meant_47 : Snd MX5_meant 47 (xLdI 48 1) := snd_iload_n (M := MX5_meant) (pc := 47) dX5_meant_47
theorem sX5_meant_48 : Snd MX5_meant 48 (xK 49 (nI 1)) := snd_iconst (M := MX5_meant) (pc := 48) dX5_meant_48 (by decide +kernel)
theorem sX5_meant_49 : Snd MX5_meant 49 (xLdI 50 2) := snd_iload_n (M := MX5_meant) (pc := 49) dX5_meant_49
theorem sX5_meant_50 : Snd MX5_meant 50 (xBin 51 f_ishl) := snd_ishl (M := MX5_meant) (pc := 50) dX5_meant_50
theorem sX5_meant_51 : Snd MX5_meant 51 (xBin 52 f_ior) := snd_ior (M := MX5_meant) (pc := 51) dX5_meant_51
theorem sX5_meant_52 : Snd MX5_meant 52 (xStI 53 1) := snd_istore_n (M := MX5_meant) (pc := 52) dX5_meant_52 (by decide)
theorem sX5_meant_53 : Snd MX5_meant 53 (xInc 56 2 (nI 1)) := snd_iinc (M := MX5_meant) (pc := 53) dX5_meant_53 (by decide +kernel) (by decide)
theorem sX5_meant_56 : Snd MX5_meant 56 (xGo 4) := snd_goto (M := MX5_meant) (pc := 56) dX5_meant_56 (by decide)
theorem sX5_meant_59 : Snd MX5_meant 59 (xLdI 60 1) := snd_iload_n (M := MX5_meant) (pc := 59) dX5_meant_59
theorem sX5_meant_60 : Snd MX5_meant 60 (xRet) := snd_iret (M := MX5_meant) (pc := 60) dX5_meant_60 rfl
theorem VX5_meant : Valid MX5_meant LX5_meant := va_lid sX5_meant_0 (va_lid sX5_meant_1 (va_lid sX5_meant_2 (va_lid sX5_meant_3 (va_lid sX5_meant_4 (va_lid sX5_meant_5 (va_lid sX5_meant_6 (va_lid sX5_meant_9 (va_lid sX5_meant_12 (va_lid sX5_meant_15 (va_lid sX5_meant_16 (va_lid sX5_meant_19 (va_lid sX5_meant_22 (va_lid sX5_meant_23 (va_lid sX5_meant_26 (va_lid sX5_meant_27 (va_lid sX5_meant_28 (va_lid sX5_meant_31 (va_lid sX5_meant_32 (va_lid sX5_meant_33 (va_lid sX5_meant_34 (va_lid sX5_meant_35 (va_lid sX5_meant_38 (va_lid sX5_meant_39 (va_lid sX5_meant_42 (va_lid sX5_meant_43 (va_lid sX5_meant_44 (va_lid sX5_meant_47 (va_lid sX5_meant_48 (va_lid sX5_meant_49 (va_lid sX5_meant_50 (va_lid sX5_meant_51 (va_lid sX5_meant_52 (va_lid sX5_meant_53 (va_lid sX5_meant_56 (va_lid sX5_meant_59 (va_lid sX5_meant_60 (va_lid0)))))))))))))))))))))))))))))))))))))
theorem kX5_meant_0 : lk LX5_meant 0 = some (xK 1 (nI 0)) := rfl
theorem kX5_meant_1 : lk LX5_meant 1 = some (xStI 2 1) := rfl
theorem kX5_meant_2 : lk LX5_meant 2 = some (xK 3 (nI 0)) := rfl
theorem kX5_meant_3 : lk LX5_meant 3 = some (xStI 4 2) := rfl
theorem kX5_meant_4 : lk LX5_meant 4 = some (xLdI 5 2) := rfl
theorem kX5_meant_5 : lk LX5_meant 5 = some (xLdA 6 0) := rfl
theorem kX5_meant_6 : lk LX5_meant 6 = some (xGf 9 5 4) := rfl
theorem kX5_meant_9 : lk LX5_meant 9 = some (xGf 12 3 3) := rfl
theorem kX5_meant_12 : lk LX5_meant 12 = some (xC_ge 59 15) := rfl
theorem kX5_meant_15 : lk LX5_meant 15 = some (xLdA 16 0) := rfl
theorem kX5_meant_16 : lk LX5_meant 16 = some (xGf 19 5 4) := rfl
theorem kX5_meant_19 : lk LX5_meant 19 = some (xGf 22 3 13) := rfl
theorem kX5_meant_22 : lk LX5_meant 22 = some (xLdI 23 2) := rfl
theorem kX5_meant_23 : lk LX5_meant 23 = some (xCallS MX5_at 2 26) := rfl
theorem kX5_meant_26 : lk LX5_meant 26 = some (xStI 27 3) := rfl
theorem kX5_meant_27 : lk LX5_meant 27 = some (xLdA 28 0) := rfl
theorem kX5_meant_28 : lk LX5_meant 28 = some (xGf 31 5 11) := rfl
theorem kX5_meant_31 : lk LX5_meant 31 = some (xLdI 32 3) := rfl
theorem kX5_meant_32 : lk LX5_meant 32 = some (xK 33 ((-1))) := rfl
theorem kX5_meant_33 : lk LX5_meant 33 = some (xBin 34 f_ixor) := rfl
theorem kX5_meant_34 : lk LX5_meant 34 = some (xBin 35 f_iand) := rfl
theorem kX5_meant_35 : lk LX5_meant 35 = some (xZ_ne 53 38) := rfl
theorem kX5_meant_38 : lk LX5_meant 38 = some (xLdA 39 0) := rfl
theorem kX5_meant_39 : lk LX5_meant 39 = some (xGf 42 5 12) := rfl
theorem kX5_meant_42 : lk LX5_meant 42 = some (xLdI 43 3) := rfl
theorem kX5_meant_43 : lk LX5_meant 43 = some (xBin 44 f_iand) := rfl
theorem kX5_meant_44 : lk LX5_meant 44 = some (xZ_ne 53 47) := rfl
theorem kX5_meant_47 : lk LX5_meant 47 = some (xLdI 48 1) := rfl
theorem kX5_meant_48 : lk LX5_meant 48 = some (xK 49 (nI 1)) := rfl
theorem kX5_meant_49 : lk LX5_meant 49 = some (xLdI 50 2) := rfl
theorem kX5_meant_50 : lk LX5_meant 50 = some (xBin 51 f_ishl) := rfl
theorem kX5_meant_51 : lk LX5_meant 51 = some (xBin 52 f_ior) := rfl
theorem kX5_meant_52 : lk LX5_meant 52 = some (xStI 53 1) := rfl
theorem kX5_meant_53 : lk LX5_meant 53 = some (xInc 56 2 (nI 1)) := rfl
theorem kX5_meant_56 : lk LX5_meant 56 = some (xGo 4) := rfl
theorem kX5_meant_59 : lk LX5_meant 59 = some (xLdI 60 1) := rfl
theorem kX5_meant_60 : lk LX5_meant 60 = some (xRet) := rfl
def LX5_moths : List (Nat × XI) := [(0, xLdA 1 0),
  (1, xGf 4 5 4),
  (4, xLdI 5 1),
  (5, xCallV MX3_isLife 3 1 8),
  (8, xZ_eq 28 11),
  (11, xLdI 12 2),
  (12, xZ_lt 28 15),
  (15, xLdI 16 2),
  (16, xK 18 (nI 10)),
  (18, xC_gt 28 21),
  (21, xLdI 22 3),
  (22, xCallS MX5_isPart 1 25),
  (25, xZ_ne 30 28),
  (28, xK 29 ((-1))),
  (29, xRet),
  (30, xK 32 (nI 10)),
  (32, xLdA 33 0),
  (33, xGf 36 5 6),
  (36, xGf 39 1 0),
  (39, xCallS MJ6_bitCount_0f7a4 1 42),
  (42, xCallS MX5_power 2 45),
  (45, xStI 47 4),
  (47, xLdA 48 0),
  (48, xLdI 49 1),
  (49, xLdI 50 2),
  (50, xCallV MX5_chanceBehindMoths 5 2 53),
  (53, xLdI 55 4),
  (55, xLdI 56 3),
  (56, xCallS MX5_lowestTerms 3 59),
  (59, xRet)]
theorem sX5_moths_0 : Snd MX5_moths 0 (xLdA 1 0) := snd_aload_n (M := MX5_moths) (pc := 0) dX5_moths_0
theorem sX5_moths_1 : Snd MX5_moths 1 (xGf 4 5 4) := snd_gf (M := MX5_moths) (pc := 1) (C0 := RX5) (T0 := TX5) (N := 13) dX5_moths_1 rfl tbX5 (by decide) w305
theorem sX5_moths_4 : Snd MX5_moths 4 (xLdI 5 1) := snd_iload_n (M := MX5_moths) (pc := 4) dX5_moths_4
theorem sX5_moths_5 : Snd MX5_moths 5 (xCallV MX3_isLife 3 1 8) := snd_callV (M := MX5_moths) (pc := 5) (n := 1) dX5_moths_5 rfl w334 w244 w245 ⟨w83, w242, ⟨by decide, by decide, by decide +kernel⟩, by decide⟩ ⟨rfl, rfl⟩
theorem sX5_moths_8 : Snd MX5_moths 8 (xZ_eq 28 11) := snd_if_eq (M := MX5_moths) (pc := 8) dX5_moths_8 (by decide)
theorem sX5_moths_11 : Snd MX5_moths 11 (xLdI 12 2) := snd_iload_n (M := MX5_moths) (pc := 11) dX5_moths_11
theorem sX5_moths_12 : Snd MX5_moths 12 (xZ_lt 28 15) := snd_if_lt (M := MX5_moths) (pc := 12) dX5_moths_12 (by decide)
theorem sX5_moths_15 : Snd MX5_moths 15 (xLdI 16 2) := snd_iload_n (M := MX5_moths) (pc := 15) dX5_moths_15
theorem sX5_moths_16 : Snd MX5_moths 16 (xK 18 (nI 10)) := snd_bipush (M := MX5_moths) (pc := 16) dX5_moths_16 (by decide +kernel)
theorem sX5_moths_18 : Snd MX5_moths 18 (xC_gt 28 21) := snd_icmp_gt (M := MX5_moths) (pc := 18) dX5_moths_18 (by decide)
theorem sX5_moths_21 : Snd MX5_moths 21 (xLdI 22 3) := snd_iload_n (M := MX5_moths) (pc := 21) dX5_moths_21
theorem sX5_moths_22 : Snd MX5_moths 22 (xCallS MX5_isPart 1 25) := snd_callS (M := MX5_moths) (pc := 22) (n := 1) dX5_moths_22 w347 w348 ⟨w115, w346, ⟨by decide, by decide, by decide +kernel⟩, by decide⟩ ⟨rfl, rfl⟩
theorem sX5_moths_25 : Snd MX5_moths 25 (xZ_ne 30 28) := snd_if_ne (M := MX5_moths) (pc := 25) dX5_moths_25 (by decide)
theorem sX5_moths_28 : Snd MX5_moths 28 (xK 29 ((-1))) := snd_iconst (M := MX5_moths) (pc := 28) dX5_moths_28 (by decide +kernel)
theorem sX5_moths_29 : Snd MX5_moths 29 (xRet) := snd_iret (M := MX5_moths) (pc := 29) dX5_moths_29 rfl
theorem sX5_moths_30 : Snd MX5_moths 30 (xK 32 (nI 10)) := snd_bipush (M := MX5_moths) (pc := 30) dX5_moths_30 (by decide +kernel)
theorem sX5_moths_32 : Snd MX5_moths 32 (xLdA 33 0) := snd_aload_n (M := MX5_moths) (pc := 32) dX5_moths_32
theorem sX5_moths_33 : Snd MX5_moths 33 (xGf 36 5 6) := snd_gf (M := MX5_moths) (pc := 33) (C0 := RX5) (T0 := TX5) (N := 13) dX5_moths_33 rfl tbX5 (by decide) w307
theorem sX5_moths_36 : Snd MX5_moths 36 (xGf 39 1 0) := snd_gf (M := MX5_moths) (pc := 36) (C0 := RX1) (T0 := TX1) (N := 4) dX5_moths_36 rfl tbX1 (by decide) w326
theorem sX5_moths_39 : Snd MX5_moths 39 (xCallS MJ6_bitCount_0f7a4 1 42) := snd_callS (M := MX5_moths) (pc := 39) (n := 1) dX5_moths_39 w384 w109 ⟨w106, w107, ⟨by decide, by decide, by decide +kernel⟩, by decide⟩ ⟨rfl, rfl⟩
theorem sX5_moths_42 : Snd MX5_moths 42 (xCallS MX5_power 2 45) := snd_callS (M := MX5_moths) (pc := 42) (n := 2) dX5_moths_42 w410 w411 ⟨w115, w409, ⟨by decide, by decide, by decide +kernel⟩, by decide⟩ ⟨rfl, rfl⟩
theorem sX5_moths_45 : Snd MX5_moths 45 (xStI 47 4) := snd_istore (M := MX5_moths) (pc := 45) dX5_moths_45 (by decide)
theorem sX5_moths_47 : Snd MX5_moths 47 (xLdA 48 0) := snd_aload_n (M := MX5_moths) (pc := 47) dX5_moths_47
theorem sX5_moths_48 : Snd MX5_moths 48 (xLdI 49 1) := snd_iload_n (M := MX5_moths) (pc := 48) dX5_moths_48
theorem sX5_moths_49 : Snd MX5_moths 49 (xLdI 50 2) := snd_iload_n (M := MX5_moths) (pc := 49) dX5_moths_49
theorem sX5_moths_50 : Snd MX5_moths 50 (xCallV MX5_chanceBehindMoths 5 2 53) := snd_callV (M := MX5_moths) (pc := 50) (n := 2) dX5_moths_50 rfl w413 w414 w415 ⟨w115, w412, ⟨by decide, by decide, by decide +kernel⟩, by decide⟩ ⟨rfl, rfl⟩
theorem sX5_moths_53 : Snd MX5_moths 53 (xLdI 55 4) := snd_iload (M := MX5_moths) (pc := 53) dX5_moths_53
theorem sX5_moths_55 : Snd MX5_moths 55 (xLdI 56 3) := snd_iload_n (M := MX5_moths) (pc := 55) dX5_moths_55
theorem sX5_moths_56 : Snd MX5_moths 56 (xCallS MX5_lowestTerms 3 59) := snd_callS (M := MX5_moths) (pc := 56) (n := 3) dX5_moths_56 w417 w418 ⟨w115, w416, ⟨by decide, by decide, by decide +kernel⟩, by decide⟩ ⟨rfl, rfl⟩
theorem sX5_moths_59 : Snd MX5_moths 59 (xRet) := snd_iret (M := MX5_moths) (pc := 59) dX5_moths_59 rfl
theorem VX5_moths : Valid MX5_moths LX5_moths := va_lid sX5_moths_0 (va_lid sX5_moths_1 (va_lid sX5_moths_4 (va_lid sX5_moths_5 (va_lid sX5_moths_8 (va_lid sX5_moths_11 (va_lid sX5_moths_12 (va_lid sX5_moths_15 (va_lid sX5_moths_16 (va_lid sX5_moths_18 (va_lid sX5_moths_21 (va_lid sX5_moths_22 (va_lid sX5_moths_25 (va_lid sX5_moths_28 (va_lid sX5_moths_29 (va_lid sX5_moths_30 (va_lid sX5_moths_32 (va_lid sX5_moths_33 (va_lid sX5_moths_36 (va_lid sX5_moths_39 (va_lid sX5_moths_42 (va_lid sX5_moths_45 (va_lid sX5_moths_47 (va_lid sX5_moths_48 (va_lid sX5_moths_49 (va_lid sX5_moths_50 (va_lid sX5_moths_53 (va_lid sX5_moths_55 (va_lid sX5_moths_56 (va_lid sX5_moths_59 (va_lid0))))))))))))))))))))))))))))))
theorem kX5_moths_0 : lk LX5_moths 0 = some (xLdA 1 0) := rfl
theorem kX5_moths_1 : lk LX5_moths 1 = some (xGf 4 5 4) := rfl
theorem kX5_moths_4 : lk LX5_moths 4 = some (xLdI 5 1) := rfl
theorem kX5_moths_5 : lk LX5_moths 5 = some (xCallV MX3_isLife 3 1 8) := rfl
theorem kX5_moths_8 : lk LX5_moths 8 = some (xZ_eq 28 11) := rfl
theorem kX5_moths_11 : lk LX5_moths 11 = some (xLdI 12 2) := rfl
theorem kX5_moths_12 : lk LX5_moths 12 = some (xZ_lt 28 15) := rfl
theorem kX5_moths_15 : lk LX5_moths 15 = some (xLdI 16 2) := rfl
theorem kX5_moths_16 : lk LX5_moths 16 = some (xK 18 (nI 10)) := rfl
theorem kX5_moths_18 : lk LX5_moths 18 = some (xC_gt 28 21) := rfl
theorem kX5_moths_21 : lk LX5_moths 21 = some (xLdI 22 3) := rfl
theorem kX5_moths_22 : lk LX5_moths 22 = some (xCallS MX5_isPart 1 25) := rfl
theorem kX5_moths_25 : lk LX5_moths 25 = some (xZ_ne 30 28) := rfl
theorem kX5_moths_28 : lk LX5_moths 28 = some (xK 29 ((-1))) := rfl
theorem kX5_moths_29 : lk LX5_moths 29 = some (xRet) := rfl
theorem kX5_moths_30 : lk LX5_moths 30 = some (xK 32 (nI 10)) := rfl
theorem kX5_moths_32 : lk LX5_moths 32 = some (xLdA 33 0) := rfl
theorem kX5_moths_33 : lk LX5_moths 33 = some (xGf 36 5 6) := rfl
theorem kX5_moths_36 : lk LX5_moths 36 = some (xGf 39 1 0) := rfl
theorem kX5_moths_39 : lk LX5_moths 39 = some (xCallS MJ6_bitCount_0f7a4 1 42) := rfl
theorem kX5_moths_42 : lk LX5_moths 42 = some (xCallS MX5_power 2 45) := rfl
theorem kX5_moths_45 : lk LX5_moths 45 = some (xStI 47 4) := rfl
theorem kX5_moths_47 : lk LX5_moths 47 = some (xLdA 48 0) := rfl
theorem kX5_moths_48 : lk LX5_moths 48 = some (xLdI 49 1) := rfl
theorem kX5_moths_49 : lk LX5_moths 49 = some (xLdI 50 2) := rfl
theorem kX5_moths_50 : lk LX5_moths 50 = some (xCallV MX5_chanceBehindMoths 5 2 53) := rfl
theorem kX5_moths_53 : lk LX5_moths 53 = some (xLdI 55 4) := rfl
theorem kX5_moths_55 : lk LX5_moths 55 = some (xLdI 56 3) := rfl
theorem kX5_moths_56 : lk LX5_moths 56 = some (xCallS MX5_lowestTerms 3 59) := rfl
theorem kX5_moths_59 : lk LX5_moths 59 = some (xRet) := rfl
def LX5_year : List (Nat × XI) := [(0, xLdI 1 1),
  (1, xZ_lt 31 4),
  (4, xLdI 5 1),
  (5, xK 8 (nI 9999)),
  (8, xC_gt 31 11),
  (11, xLdI 12 2),
  (12, xK 13 (nI 1)),
  (13, xC_lt 31 16),
  (16, xLdI 17 2),
  (17, xK 19 (nI 40)),
  (19, xC_gt 31 22),
  (22, xLdI 23 3),
  (23, xZ_lt 31 26),
  (26, xLdI 27 3),
  (27, xK 28 (nI 1)),
  (28, xC_le 33 31),
  (31, xK 32 ((-1))),
  (32, xRet),
  (33, xLdA 34 0),
  (34, xGf 37 5 7),
  (37, xLdA 38 0),
  (38, xGf 41 5 6),
  (41, xCallV MX1_copy 1 1 44),
  (44, xK 45 (nI 0)),
  (45, xStI 47 4),
  (47, xLdI 49 4),
  (49, xLdI 50 2),
  (50, xC_ge 76 53),
  (53, xLdA 54 0),
  (54, xGf 57 5 7),
  (57, xLdA 58 0),
  (58, xGf 61 5 4),
  (61, xLdI 62 1),
  (62, xLdI 64 4),
  (64, xCallS MX5_draw 2 67),
  (67, xCallV MX1_goByDraw 1 2 70),
  (70, xInc 73 4 (nI 1)),
  (73, xGo 47),
  (76, xLdI 77 3),
  (77, xZ_ne 93 80),
  (80, xLdA 81 0),
  (81, xGf 84 5 7),
  (84, xGf 87 1 1),
  (87, xCallS MJ6_bitCount_0f7a4 1 90),
  (90, xGo 100),
  (93, xLdA 94 0),
  (94, xGf 97 5 7),
  (97, xGf 100 1 2),
  (100, xRet)]
theorem sX5_year_0 : Snd MX5_year 0 (xLdI 1 1) := snd_iload_n (M := MX5_year) (pc := 0) dX5_year_0
theorem sX5_year_1 : Snd MX5_year 1 (xZ_lt 31 4) := snd_if_lt (M := MX5_year) (pc := 1) dX5_year_1 (by decide)
theorem sX5_year_4 : Snd MX5_year 4 (xLdI 5 1) := snd_iload_n (M := MX5_year) (pc := 4) dX5_year_4
theorem sX5_year_5 : Snd MX5_year 5 (xK 8 (nI 9999)) := snd_sipush (M := MX5_year) (pc := 5) dX5_year_5 (by decide +kernel)
theorem sX5_year_8 : Snd MX5_year 8 (xC_gt 31 11) := snd_icmp_gt (M := MX5_year) (pc := 8) dX5_year_8 (by decide)
theorem sX5_year_11 : Snd MX5_year 11 (xLdI 12 2) := snd_iload_n (M := MX5_year) (pc := 11) dX5_year_11
theorem sX5_year_12 : Snd MX5_year 12 (xK 13 (nI 1)) := snd_iconst (M := MX5_year) (pc := 12) dX5_year_12 (by decide +kernel)
theorem sX5_year_13 : Snd MX5_year 13 (xC_lt 31 16) := snd_icmp_lt (M := MX5_year) (pc := 13) dX5_year_13 (by decide)
theorem sX5_year_16 : Snd MX5_year 16 (xLdI 17 2) := snd_iload_n (M := MX5_year) (pc := 16) dX5_year_16
theorem sX5_year_17 : Snd MX5_year 17 (xK 19 (nI 40)) := snd_bipush (M := MX5_year) (pc := 17) dX5_year_17 (by decide +kernel)
theorem sX5_year_19 : Snd MX5_year 19 (xC_gt 31 22) := snd_icmp_gt (M := MX5_year) (pc := 19) dX5_year_19 (by decide)
theorem sX5_year_22 : Snd MX5_year 22 (xLdI 23 3) := snd_iload_n (M := MX5_year) (pc := 22) dX5_year_22
theorem sX5_year_23 : Snd MX5_year 23 (xZ_lt 31 26) := snd_if_lt (M := MX5_year) (pc := 23) dX5_year_23 (by decide)
theorem sX5_year_26 : Snd MX5_year 26 (xLdI 27 3) := snd_iload_n (M := MX5_year) (pc := 26) dX5_year_26
theorem sX5_year_27 : Snd MX5_year 27 (xK 28 (nI 1)) := snd_iconst (M := MX5_year) (pc := 27) dX5_year_27 (by decide +kernel)
theorem sX5_year_28 : Snd MX5_year 28 (xC_le 33 31) := snd_icmp_le (M := MX5_year) (pc := 28) dX5_year_28 (by decide)
theorem sX5_year_31 : Snd MX5_year 31 (xK 32 ((-1))) := snd_iconst (M := MX5_year) (pc := 31) dX5_year_31 (by decide +kernel)
theorem sX5_year_32 : Snd MX5_year 32 (xRet) := snd_iret (M := MX5_year) (pc := 32) dX5_year_32 rfl
theorem sX5_year_33 : Snd MX5_year 33 (xLdA 34 0) := snd_aload_n (M := MX5_year) (pc := 33) dX5_year_33
theorem sX5_year_34 : Snd MX5_year 34 (xGf 37 5 7) := snd_gf (M := MX5_year) (pc := 34) (C0 := RX5) (T0 := TX5) (N := 13) dX5_year_34 rfl tbX5 (by decide) w308
theorem sX5_year_37 : Snd MX5_year 37 (xLdA 38 0) := snd_aload_n (M := MX5_year) (pc := 37) dX5_year_37
theorem sX5_year_38 : Snd MX5_year 38 (xGf 41 5 6) := snd_gf (M := MX5_year) (pc := 38) (C0 := RX5) (T0 := TX5) (N := 13) dX5_year_38 rfl tbX5 (by decide) w307
theorem sX5_year_41 : Snd MX5_year 41 (xCallV MX1_copy 1 1 44) := snd_callV (M := MX5_year) (pc := 41) (n := 1) dX5_year_41 rfl w420 w421 w422 ⟨w78, w419, ⟨by decide, by decide, by decide +kernel⟩, by decide⟩ ⟨rfl, rfl⟩
theorem sX5_year_44 : Snd MX5_year 44 (xK 45 (nI 0)) := snd_iconst (M := MX5_year) (pc := 44) dX5_year_44 (by decide +kernel)
theorem sX5_year_45 : Snd MX5_year 45 (xStI 47 4) := snd_istore (M := MX5_year) (pc := 45) dX5_year_45 (by decide)
theorem sX5_year_47 : Snd MX5_year 47 (xLdI 49 4) := snd_iload (M := MX5_year) (pc := 47) dX5_year_47
theorem sX5_year_49 : Snd MX5_year 49 (xLdI 50 2) := snd_iload_n (M := MX5_year) (pc := 49) dX5_year_49
theorem sX5_year_50 : Snd MX5_year 50 (xC_ge 76 53) := snd_icmp_ge (M := MX5_year) (pc := 50) dX5_year_50 (by decide)
theorem sX5_year_53 : Snd MX5_year 53 (xLdA 54 0) := snd_aload_n (M := MX5_year) (pc := 53) dX5_year_53
theorem sX5_year_54 : Snd MX5_year 54 (xGf 57 5 7) := snd_gf (M := MX5_year) (pc := 54) (C0 := RX5) (T0 := TX5) (N := 13) dX5_year_54 rfl tbX5 (by decide) w308
theorem sX5_year_57 : Snd MX5_year 57 (xLdA 58 0) := snd_aload_n (M := MX5_year) (pc := 57) dX5_year_57
theorem sX5_year_58 : Snd MX5_year 58 (xGf 61 5 4) := snd_gf (M := MX5_year) (pc := 58) (C0 := RX5) (T0 := TX5) (N := 13) dX5_year_58 rfl tbX5 (by decide) w305
theorem sX5_year_61 : Snd MX5_year 61 (xLdI 62 1) := snd_iload_n (M := MX5_year) (pc := 61) dX5_year_61
theorem sX5_year_62 : Snd MX5_year 62 (xLdI 64 4) := snd_iload (M := MX5_year) (pc := 62) dX5_year_62
theorem sX5_year_64 : Snd MX5_year 64 (xCallS MX5_draw 2 67) := snd_callS (M := MX5_year) (pc := 64) (n := 2) dX5_year_64 w424 w425 ⟨w115, w423, ⟨by decide, by decide, by decide +kernel⟩, by decide⟩ ⟨rfl, rfl⟩
theorem sX5_year_67 : Snd MX5_year 67 (xCallV MX1_goByDraw 1 2 70) := snd_callV (M := MX5_year) (pc := 67) (n := 2) dX5_year_67 rfl w427 w428 w429 ⟨w78, w426, ⟨by decide, by decide, by decide +kernel⟩, by decide⟩ ⟨rfl, rfl⟩
theorem sX5_year_70 : Snd MX5_year 70 (xInc 73 4 (nI 1)) := snd_iinc (M := MX5_year) (pc := 70) dX5_year_70 (by decide +kernel) (by decide)
theorem sX5_year_73 : Snd MX5_year 73 (xGo 47) := snd_goto (M := MX5_year) (pc := 73) dX5_year_73 (by decide)
theorem sX5_year_76 : Snd MX5_year 76 (xLdI 77 3) := snd_iload_n (M := MX5_year) (pc := 76) dX5_year_76
theorem sX5_year_77 : Snd MX5_year 77 (xZ_ne 93 80) := snd_if_ne (M := MX5_year) (pc := 77) dX5_year_77 (by decide)
theorem sX5_year_80 : Snd MX5_year 80 (xLdA 81 0) := snd_aload_n (M := MX5_year) (pc := 80) dX5_year_80
theorem sX5_year_81 : Snd MX5_year 81 (xGf 84 5 7) := snd_gf (M := MX5_year) (pc := 81) (C0 := RX5) (T0 := TX5) (N := 13) dX5_year_81 rfl tbX5 (by decide) w308
theorem sX5_year_84 : Snd MX5_year 84 (xGf 87 1 1) := snd_gf (M := MX5_year) (pc := 84) (C0 := RX1) (T0 := TX1) (N := 4) dX5_year_84 rfl tbX1 (by decide) w340
theorem sX5_year_87 : Snd MX5_year 87 (xCallS MJ6_bitCount_0f7a4 1 90) := snd_callS (M := MX5_year) (pc := 87) (n := 1) dX5_year_87 w384 w109 ⟨w106, w107, ⟨by decide, by decide, by decide +kernel⟩, by decide⟩ ⟨rfl, rfl⟩
theorem sX5_year_90 : Snd MX5_year 90 (xGo 100) := snd_goto (M := MX5_year) (pc := 90) dX5_year_90 (by decide)
theorem sX5_year_93 : Snd MX5_year 93 (xLdA 94 0) := snd_aload_n (M := MX5_year) (pc := 93) dX5_year_93
theorem sX5_year_94 : Snd MX5_year 94 (xGf 97 5 7) := snd_gf (M := MX5_year) (pc := 94) (C0 := RX5) (T0 := TX5) (N := 13) dX5_year_94 rfl tbX5 (by decide) w308
theorem sX5_year_97 : Snd MX5_year 97 (xGf 100 1 2) := snd_gf (M := MX5_year) (pc := 97) (C0 := RX1) (T0 := TX1) (N := 4) dX5_year_97 rfl tbX1 (by decide) w366
theorem sX5_year_100 : Snd MX5_year 100 (xRet) := snd_iret (M := MX5_year) (pc := 100) dX5_year_100 rfl
theorem VX5_year : Valid MX5_year LX5_year := va_lid sX5_year_0 (va_lid sX5_year_1 (va_lid sX5_year_4 (va_lid sX5_year_5 (va_lid sX5_year_8 (va_lid sX5_year_11 (va_lid sX5_year_12 (va_lid sX5_year_13 (va_lid sX5_year_16 (va_lid sX5_year_17 (va_lid sX5_year_19 (va_lid sX5_year_22 (va_lid sX5_year_23 (va_lid sX5_year_26 (va_lid sX5_year_27 (va_lid sX5_year_28 (va_lid sX5_year_31 (va_lid sX5_year_32 (va_lid sX5_year_33 (va_lid sX5_year_34 (va_lid sX5_year_37 (va_lid sX5_year_38 (va_lid sX5_year_41 (va_lid sX5_year_44 (va_lid sX5_year_45 (va_lid sX5_year_47 (va_lid sX5_year_49 (va_lid sX5_year_50 (va_lid sX5_year_53 (va_lid sX5_year_54 (va_lid sX5_year_57 (va_lid sX5_year_58 (va_lid sX5_year_61 (va_lid sX5_year_62 (va_lid sX5_year_64 (va_lid sX5_year_67 (va_lid sX5_year_70 (va_lid sX5_year_73 (va_lid sX5_year_76 (va_lid sX5_year_77 (va_lid sX5_year_80 (va_lid sX5_year_81 (va_lid sX5_year_84 (va_lid sX5_year_87 (va_lid sX5_year_90 (va_lid sX5_year_93 (va_lid sX5_year_94 (va_lid sX5_year_97 (va_lid sX5_year_100 (va_lid0)))))))))))))))))))))))))))))))))))))))))))))))))
theorem kX5_year_0 : lk LX5_year 0 = some (xLdI 1 1) := rfl
theorem kX5_year_1 : lk LX5_year 1 = some (xZ_lt 31 4) := rfl
theorem kX5_year_4 : lk LX5_year 4 = some (xLdI 5 1) := rfl
theorem kX5_year_5 : lk LX5_year 5 = some (xK 8 (nI 9999)) := rfl
theorem kX5_year_8 : lk LX5_year 8 = some (xC_gt 31 11) := rfl
theorem kX5_year_11 : lk LX5_year 11 = some (xLdI 12 2) := rfl
theorem kX5_year_12 : lk LX5_year 12 = some (xK 13 (nI 1)) := rfl
theorem kX5_year_13 : lk LX5_year 13 = some (xC_lt 31 16) := rfl
theorem kX5_year_16 : lk LX5_year 16 = some (xLdI 17 2) := rfl
theorem kX5_year_17 : lk LX5_year 17 = some (xK 19 (nI 40)) := rfl
theorem kX5_year_19 : lk LX5_year 19 = some (xC_gt 31 22) := rfl
theorem kX5_year_22 : lk LX5_year 22 = some (xLdI 23 3) := rfl
theorem kX5_year_23 : lk LX5_year 23 = some (xZ_lt 31 26) := rfl
theorem kX5_year_26 : lk LX5_year 26 = some (xLdI 27 3) := rfl
theorem kX5_year_27 : lk LX5_year 27 = some (xK 28 (nI 1)) := rfl
theorem kX5_year_28 : lk LX5_year 28 = some (xC_le 33 31) := rfl
theorem kX5_year_31 : lk LX5_year 31 = some (xK 32 ((-1))) := rfl
theorem kX5_year_32 : lk LX5_year 32 = some (xRet) := rfl
theorem kX5_year_33 : lk LX5_year 33 = some (xLdA 34 0) := rfl
theorem kX5_year_34 : lk LX5_year 34 = some (xGf 37 5 7) := rfl
theorem kX5_year_37 : lk LX5_year 37 = some (xLdA 38 0) := rfl
theorem kX5_year_38 : lk LX5_year 38 = some (xGf 41 5 6) := rfl
theorem kX5_year_41 : lk LX5_year 41 = some (xCallV MX1_copy 1 1 44) := rfl
theorem kX5_year_44 : lk LX5_year 44 = some (xK 45 (nI 0)) := rfl
theorem kX5_year_45 : lk LX5_year 45 = some (xStI 47 4) := rfl
theorem kX5_year_47 : lk LX5_year 47 = some (xLdI 49 4) := rfl
theorem kX5_year_49 : lk LX5_year 49 = some (xLdI 50 2) := rfl
theorem kX5_year_50 : lk LX5_year 50 = some (xC_ge 76 53) := rfl
theorem kX5_year_53 : lk LX5_year 53 = some (xLdA 54 0) := rfl
theorem kX5_year_54 : lk LX5_year 54 = some (xGf 57 5 7) := rfl
theorem kX5_year_57 : lk LX5_year 57 = some (xLdA 58 0) := rfl
theorem kX5_year_58 : lk LX5_year 58 = some (xGf 61 5 4) := rfl
theorem kX5_year_61 : lk LX5_year 61 = some (xLdI 62 1) := rfl
theorem kX5_year_62 : lk LX5_year 62 = some (xLdI 64 4) := rfl
theorem kX5_year_64 : lk LX5_year 64 = some (xCallS MX5_draw 2 67) := rfl
theorem kX5_year_67 : lk LX5_year 67 = some (xCallV MX1_goByDraw 1 2 70) := rfl
theorem kX5_year_70 : lk LX5_year 70 = some (xInc 73 4 (nI 1)) := rfl
theorem kX5_year_73 : lk LX5_year 73 = some (xGo 47) := rfl
theorem kX5_year_76 : lk LX5_year 76 = some (xLdI 77 3) := rfl
theorem kX5_year_77 : lk LX5_year 77 = some (xZ_ne 93 80) := rfl
theorem kX5_year_80 : lk LX5_year 80 = some (xLdA 81 0) := rfl
theorem kX5_year_81 : lk LX5_year 81 = some (xGf 84 5 7) := rfl
theorem kX5_year_84 : lk LX5_year 84 = some (xGf 87 1 1) := rfl
theorem kX5_year_87 : lk LX5_year 87 = some (xCallS MJ6_bitCount_0f7a4 1 90) := rfl
theorem kX5_year_90 : lk LX5_year 90 = some (xGo 100) := rfl
theorem kX5_year_93 : lk LX5_year 93 = some (xLdA 94 0) := rfl
theorem kX5_year_94 : lk LX5_year 94 = some (xGf 97 5 7) := rfl
theorem kX5_year_97 : lk LX5_year 97 = some (xGf 100 1 2) := rfl
theorem kX5_year_100 : lk LX5_year 100 = some (xRet) := rfl
def LX5_keep : List (Nat × XI) := [(0, xLdA 1 0),
  (1, xGf 4 5 9),
  (4, xGf 7 2 0),
  (7, xK 8 (nI 2)),
  (8, xC_lt 14 11),
  (11, xK 13 ((-3))),
  (13, xRet),
  (14, xLdA 15 0),
  (15, xGf 18 5 9),
  (18, xLdA 19 0),
  (19, xGf 22 5 6),
  (22, xCallV MX2_add 2 1 25),
  (25, xLdA 26 0),
  (26, xGf 29 5 9),
  (29, xGf 32 2 0),
  (32, xRet)]
theorem sX5_keep_0 : Snd MX5_keep 0 (xLdA 1 0) := snd_aload_n (M := MX5_keep) (pc := 0) dX5_keep_0
theorem sX5_keep_1 : Snd MX5_keep 1 (xGf 4 5 9) := snd_gf (M := MX5_keep) (pc := 1) (C0 := RX5) (T0 := TX5) (N := 13) dX5_keep_1 rfl tbX5 (by decide) w310
theorem sX5_keep_4 : Snd MX5_keep 4 (xGf 7 2 0) := snd_gf (M := MX5_keep) (pc := 4) (C0 := RX2) (T0 := TX2) (N := 6) dX5_keep_4 rfl tbX2 (by decide) w367
theorem sX5_keep_7 : Snd MX5_keep 7 (xK 8 (nI 2)) := snd_iconst (M := MX5_keep) (pc := 7) dX5_keep_7 (by decide +kernel)
theorem sX5_keep_8 : Snd MX5_keep 8 (xC_lt 14 11) := snd_icmp_lt (M := MX5_keep) (pc := 8) dX5_keep_8 (by decide)
theorem sX5_keep_11 : Snd MX5_keep 11 (xK 13 ((-3))) := snd_bipush (M := MX5_keep) (pc := 11) dX5_keep_11 (by decide +kernel)
theorem sX5_keep_13 : Snd MX5_keep 13 (xRet) := snd_iret (M := MX5_keep) (pc := 13) dX5_keep_13 rfl
theorem sX5_keep_14 : Snd MX5_keep 14 (xLdA 15 0) := snd_aload_n (M := MX5_keep) (pc := 14) dX5_keep_14
theorem sX5_keep_15 : Snd MX5_keep 15 (xGf 18 5 9) := snd_gf (M := MX5_keep) (pc := 15) (C0 := RX5) (T0 := TX5) (N := 13) dX5_keep_15 rfl tbX5 (by decide) w310
theorem sX5_keep_18 : Snd MX5_keep 18 (xLdA 19 0) := snd_aload_n (M := MX5_keep) (pc := 18) dX5_keep_18
theorem sX5_keep_19 : Snd MX5_keep 19 (xGf 22 5 6) := snd_gf (M := MX5_keep) (pc := 19) (C0 := RX5) (T0 := TX5) (N := 13) dX5_keep_19 rfl tbX5 (by decide) w307
theorem sX5_keep_22 : Snd MX5_keep 22 (xCallV MX2_add 2 1 25) := snd_callV (M := MX5_keep) (pc := 22) (n := 1) dX5_keep_22 rfl w354 w355 w356 ⟨w216, w353, ⟨by decide, by decide, by decide +kernel⟩, by decide⟩ ⟨rfl, rfl⟩
theorem sX5_keep_25 : Snd MX5_keep 25 (xLdA 26 0) := snd_aload_n (M := MX5_keep) (pc := 25) dX5_keep_25
theorem sX5_keep_26 : Snd MX5_keep 26 (xGf 29 5 9) := snd_gf (M := MX5_keep) (pc := 26) (C0 := RX5) (T0 := TX5) (N := 13) dX5_keep_26 rfl tbX5 (by decide) w310
theorem sX5_keep_29 : Snd MX5_keep 29 (xGf 32 2 0) := snd_gf (M := MX5_keep) (pc := 29) (C0 := RX2) (T0 := TX2) (N := 6) dX5_keep_29 rfl tbX2 (by decide) w367
theorem sX5_keep_32 : Snd MX5_keep 32 (xRet) := snd_iret (M := MX5_keep) (pc := 32) dX5_keep_32 rfl
theorem VX5_keep : Valid MX5_keep LX5_keep := va_lid sX5_keep_0 (va_lid sX5_keep_1 (va_lid sX5_keep_4 (va_lid sX5_keep_7 (va_lid sX5_keep_8 (va_lid sX5_keep_11 (va_lid sX5_keep_13 (va_lid sX5_keep_14 (va_lid sX5_keep_15 (va_lid sX5_keep_18 (va_lid sX5_keep_19 (va_lid sX5_keep_22 (va_lid sX5_keep_25 (va_lid sX5_keep_26 (va_lid sX5_keep_29 (va_lid sX5_keep_32 (va_lid0))))))))))))))))
theorem kX5_keep_0 : lk LX5_keep 0 = some (xLdA 1 0) := rfl
theorem kX5_keep_1 : lk LX5_keep 1 = some (xGf 4 5 9) := rfl
theorem kX5_keep_4 : lk LX5_keep 4 = some (xGf 7 2 0) := rfl
theorem kX5_keep_7 : lk LX5_keep 7 = some (xK 8 (nI 2)) := rfl
theorem kX5_keep_8 : lk LX5_keep 8 = some (xC_lt 14 11) := rfl
theorem kX5_keep_11 : lk LX5_keep 11 = some (xK 13 ((-3))) := rfl
theorem kX5_keep_13 : lk LX5_keep 13 = some (xRet) := rfl
theorem kX5_keep_14 : lk LX5_keep 14 = some (xLdA 15 0) := rfl
theorem kX5_keep_15 : lk LX5_keep 15 = some (xGf 18 5 9) := rfl
theorem kX5_keep_18 : lk LX5_keep 18 = some (xLdA 19 0) := rfl
theorem kX5_keep_19 : lk LX5_keep 19 = some (xGf 22 5 6) := rfl
theorem kX5_keep_22 : lk LX5_keep 22 = some (xCallV MX2_add 2 1 25) := rfl
theorem kX5_keep_25 : lk LX5_keep 25 = some (xLdA 26 0) := rfl
theorem kX5_keep_26 : lk LX5_keep 26 = some (xGf 29 5 9) := rfl
theorem kX5_keep_29 : lk LX5_keep 29 = some (xGf 32 2 0) := rfl
theorem kX5_keep_32 : lk LX5_keep 32 = some (xRet) := rfl
def LX5_back : List (Nat × XI) := [(0, xLdA 1 0),
  (1, xGf 4 5 9),
  (4, xGf 7 2 0),
  (7, xZ_ne 13 10),
  (10, xK 12 ((-2))),
  (12, xRet),
  (13, xLdA 14 0),
  (14, xGf 17 5 9),
  (17, xLdA 18 0),
  (18, xGf 21 5 6),
  (21, xCallV MX2_takeTop 2 1 24),
  (24, xLdA 25 0),
  (25, xGf 28 5 8),
  (28, xCallV MX2_empty 2 0 31),
  (31, xLdA 32 0),
  (32, xGf 35 5 9),
  (35, xGf 38 2 0),
  (38, xRet)]
theorem sX5_back_0 : Snd MX5_back 0 (xLdA 1 0) := snd_aload_n (M := MX5_back) (pc := 0) dX5_back_0
theorem sX5_back_1 : Snd MX5_back 1 (xGf 4 5 9) := snd_gf (M := MX5_back) (pc := 1) (C0 := RX5) (T0 := TX5) (N := 13) dX5_back_1 rfl tbX5 (by decide) w310
theorem sX5_back_4 : Snd MX5_back 4 (xGf 7 2 0) := snd_gf (M := MX5_back) (pc := 4) (C0 := RX2) (T0 := TX2) (N := 6) dX5_back_4 rfl tbX2 (by decide) w367
theorem sX5_back_7 : Snd MX5_back 7 (xZ_ne 13 10) := snd_if_ne (M := MX5_back) (pc := 7) dX5_back_7 (by decide)
theorem sX5_back_10 : Snd MX5_back 10 (xK 12 ((-2))) := snd_bipush (M := MX5_back) (pc := 10) dX5_back_10 (by decide +kernel)
theorem sX5_back_12 : Snd MX5_back 12 (xRet) := snd_iret (M := MX5_back) (pc := 12) dX5_back_12 rfl
theorem sX5_back_13 : Snd MX5_back 13 (xLdA 14 0) := snd_aload_n (M := MX5_back) (pc := 13) dX5_back_13
theorem sX5_back_14 : Snd MX5_back 14 (xGf 17 5 9) := snd_gf (M := MX5_back) (pc := 14) (C0 := RX5) (T0 := TX5) (N := 13) dX5_back_14 rfl tbX5 (by decide) w310
theorem sX5_back_17 : Snd MX5_back 17 (xLdA 18 0) := snd_aload_n (M := MX5_back) (pc := 17) dX5_back_17
theorem sX5_back_18 : Snd MX5_back 18 (xGf 21 5 6) := snd_gf (M := MX5_back) (pc := 18) (C0 := RX5) (T0 := TX5) (N := 13) dX5_back_18 rfl tbX5 (by decide) w307
theorem sX5_back_21 : Snd MX5_back 21 (xCallV MX2_takeTop 2 1 24) := snd_callV (M := MX5_back) (pc := 21) (n := 1) dX5_back_21 rfl w369 w370 w371 ⟨w216, w368, ⟨by decide, by decide, by decide +kernel⟩, by decide⟩ ⟨rfl, rfl⟩
theorem sX5_back_24 : Snd MX5_back 24 (xLdA 25 0) := snd_aload_n (M := MX5_back) (pc := 24) dX5_back_24
theorem sX5_back_25 : Snd MX5_back 25 (xGf 28 5 8) := snd_gf (M := MX5_back) (pc := 25) (C0 := RX5) (T0 := TX5) (N := 13) dX5_back_25 rfl tbX5 (by decide) w309
theorem sX5_back_28 : Snd MX5_back 28 (xCallV MX2_empty 2 0 31) := snd_callV (M := MX5_back) (pc := 28) (n := 0) dX5_back_28 rfl w314 w315 w316 ⟨w216, w313, ⟨by decide, by decide, by decide +kernel⟩, by decide⟩ ⟨rfl, rfl⟩
theorem sX5_back_31 : Snd MX5_back 31 (xLdA 32 0) := snd_aload_n (M := MX5_back) (pc := 31) dX5_back_31
theorem sX5_back_32 : Snd MX5_back 32 (xGf 35 5 9) := snd_gf (M := MX5_back) (pc := 32) (C0 := RX5) (T0 := TX5) (N := 13) dX5_back_32 rfl tbX5 (by decide) w310
theorem sX5_back_35 : Snd MX5_back 35 (xGf 38 2 0) := snd_gf (M := MX5_back) (pc := 35) (C0 := RX2) (T0 := TX2) (N := 6) dX5_back_35 rfl tbX2 (by decide) w367
theorem sX5_back_38 : Snd MX5_back 38 (xRet) := snd_iret (M := MX5_back) (pc := 38) dX5_back_38 rfl
theorem VX5_back : Valid MX5_back LX5_back := va_lid sX5_back_0 (va_lid sX5_back_1 (va_lid sX5_back_4 (va_lid sX5_back_7 (va_lid sX5_back_10 (va_lid sX5_back_12 (va_lid sX5_back_13 (va_lid sX5_back_14 (va_lid sX5_back_17 (va_lid sX5_back_18 (va_lid sX5_back_21 (va_lid sX5_back_24 (va_lid sX5_back_25 (va_lid sX5_back_28 (va_lid sX5_back_31 (va_lid sX5_back_32 (va_lid sX5_back_35 (va_lid sX5_back_38 (va_lid0))))))))))))))))))
theorem kX5_back_0 : lk LX5_back 0 = some (xLdA 1 0) := rfl
theorem kX5_back_1 : lk LX5_back 1 = some (xGf 4 5 9) := rfl
theorem kX5_back_4 : lk LX5_back 4 = some (xGf 7 2 0) := rfl
theorem kX5_back_7 : lk LX5_back 7 = some (xZ_ne 13 10) := rfl
theorem kX5_back_10 : lk LX5_back 10 = some (xK 12 ((-2))) := rfl
theorem kX5_back_12 : lk LX5_back 12 = some (xRet) := rfl
theorem kX5_back_13 : lk LX5_back 13 = some (xLdA 14 0) := rfl
theorem kX5_back_14 : lk LX5_back 14 = some (xGf 17 5 9) := rfl
theorem kX5_back_17 : lk LX5_back 17 = some (xLdA 18 0) := rfl
theorem kX5_back_18 : lk LX5_back 18 = some (xGf 21 5 6) := rfl
theorem kX5_back_21 : lk LX5_back 21 = some (xCallV MX2_takeTop 2 1 24) := rfl
theorem kX5_back_24 : lk LX5_back 24 = some (xLdA 25 0) := rfl
theorem kX5_back_25 : lk LX5_back 25 = some (xGf 28 5 8) := rfl
theorem kX5_back_28 : lk LX5_back 28 = some (xCallV MX2_empty 2 0 31) := rfl
theorem kX5_back_31 : lk LX5_back 31 = some (xLdA 32 0) := rfl
theorem kX5_back_32 : lk LX5_back 32 = some (xGf 35 5 9) := rfl
theorem kX5_back_35 : lk LX5_back 35 = some (xGf 38 2 0) := rfl
theorem kX5_back_38 : lk LX5_back 38 = some (xRet) := rfl
def LX5_count : List (Nat × XI) := [(0, xLdI 1 1),
  (1, xTsw 170 0 [64, 72, 80, 88, 99, 117, 128, 136, 144, 149, 157, 165]),
  (64, xLdA 65 0),
  (65, xGf 68 5 4),
  (68, xGf 71 3 2),
  (71, xRet),
  (72, xLdA 73 0),
  (73, xGf 76 5 4),
  (76, xGf 79 3 3),
  (79, xRet),
  (80, xLdA 81 0),
  (81, xGf 84 5 4),
  (84, xGf 87 3 0),
  (87, xRet),
  (88, xLdA 89 0),
  (89, xGf 92 5 6),
  (92, xGf 95 1 0),
  (95, xCallS MJ6_bitCount_0f7a4 1 98),
  (98, xRet),
  (99, xLdA 100 0),
  (100, xGf 103 5 4),
  (103, xLdA 104 0),
  (104, xGf 107 5 6),
  (107, xGf 110 1 0),
  (110, xCallV MX3_livesBy 3 1 113),
  (113, xCallS MJ6_bitCount_0f7a4 1 116),
  (116, xRet),
  (117, xLdA 118 0),
  (118, xGf 121 5 6),
  (121, xGf 124 1 1),
  (124, xCallS MJ6_bitCount_0f7a4 1 127),
  (127, xRet),
  (128, xLdA 129 0),
  (129, xGf 132 5 6),
  (132, xGf 135 1 2),
  (135, xRet),
  (136, xLdA 137 0),
  (137, xGf 140 5 6),
  (140, xGf 143 1 3),
  (143, xRet),
  (144, xLdA 145 0),
  (145, xGf 148 5 10),
  (148, xRet),
  (149, xLdA 150 0),
  (150, xGf 153 5 8),
  (153, xGf 156 2 0),
  (156, xRet),
  (157, xLdA 158 0),
  (158, xGf 161 5 9),
  (161, xGf 164 2 0),
  (164, xRet),
  (165, xLdA 166 0),
  (166, xGf 169 5 1),
  (169, xRet),
  (170, xK 171 ((-1))),
  (171, xRet)]
theorem sX5_count_0 : Snd MX5_count 0 (xLdI 1 1) := snd_iload_n (M := MX5_count) (pc := 0) dX5_count_0
theorem sX5_count_1 : Snd MX5_count 1 (xTsw 170 0 [64, 72, 80, 88, 99, 117, 128, 136, 144, 149, 157, 165]) := snd_tsw (M := MX5_count) (pc := 1) dX5_count_1 rfl (by decide) (by decide) (by decide) (by decide +kernel)
theorem sX5_count_64 : Snd MX5_count 64 (xLdA 65 0) := snd_aload_n (M := MX5_count) (pc := 64) dX5_count_64
theorem sX5_count_65 : Snd MX5_count 65 (xGf 68 5 4) := snd_gf (M := MX5_count) (pc := 65) (C0 := RX5) (T0 := TX5) (N := 13) dX5_count_65 rfl tbX5 (by decide) w305
theorem sX5_count_68 : Snd MX5_count 68 (xGf 71 3 2) := snd_gf (M := MX5_count) (pc := 68) (C0 := RX3) (T0 := TX3) (N := 14) dX5_count_68 rfl tbX3 (by decide) w311
theorem sX5_count_71 : Snd MX5_count 71 (xRet) := snd_iret (M := MX5_count) (pc := 71) dX5_count_71 rfl
theorem sX5_count_72 : Snd MX5_count 72 (xLdA 73 0) := snd_aload_n (M := MX5_count) (pc := 72) dX5_count_72
theorem sX5_count_73 : Snd MX5_count 73 (xGf 76 5 4) := snd_gf (M := MX5_count) (pc := 73) (C0 := RX5) (T0 := TX5) (N := 13) dX5_count_73 rfl tbX5 (by decide) w305
theorem sX5_count_76 : Snd MX5_count 76 (xGf 79 3 3) := snd_gf (M := MX5_count) (pc := 76) (C0 := RX3) (T0 := TX3) (N := 14) dX5_count_76 rfl tbX3 (by decide) w312
theorem sX5_count_79 : Snd MX5_count 79 (xRet) := snd_iret (M := MX5_count) (pc := 79) dX5_count_79 rfl
theorem sX5_count_80 : Snd MX5_count 80 (xLdA 81 0) := snd_aload_n (M := MX5_count) (pc := 80) dX5_count_80
theorem sX5_count_81 : Snd MX5_count 81 (xGf 84 5 4) := snd_gf (M := MX5_count) (pc := 81) (C0 := RX5) (T0 := TX5) (N := 13) dX5_count_81 rfl tbX5 (by decide) w305
theorem sX5_count_84 : Snd MX5_count 84 (xGf 87 3 0) := snd_gf (M := MX5_count) (pc := 84) (C0 := RX3) (T0 := TX3) (N := 14) dX5_count_84 rfl tbX3 (by decide) w430
theorem sX5_count_87 : Snd MX5_count 87 (xRet) := snd_iret (M := MX5_count) (pc := 87) dX5_count_87 rfl
theorem sX5_count_88 : Snd MX5_count 88 (xLdA 89 0) := snd_aload_n (M := MX5_count) (pc := 88) dX5_count_88
theorem sX5_count_89 : Snd MX5_count 89 (xGf 92 5 6) := snd_gf (M := MX5_count) (pc := 89) (C0 := RX5) (T0 := TX5) (N := 13) dX5_count_89 rfl tbX5 (by decide) w307
theorem sX5_count_92 : Snd MX5_count 92 (xGf 95 1 0) := snd_gf (M := MX5_count) (pc := 92) (C0 := RX1) (T0 := TX1) (N := 4) dX5_count_92 rfl tbX1 (by decide) w326
theorem sX5_count_95 : Snd MX5_count 95 (xCallS MJ6_bitCount_0f7a4 1 98) := snd_callS (M := MX5_count) (pc := 95) (n := 1) dX5_count_95 w384 w109 ⟨w106, w107, ⟨by decide, by decide, by decide +kernel⟩, by decide⟩ ⟨rfl, rfl⟩
theorem sX5_count_98 : Snd MX5_count 98 (xRet) := snd_iret (M := MX5_count) (pc := 98) dX5_count_98 rfl
theorem sX5_count_99 : Snd MX5_count 99 (xLdA 100 0) := snd_aload_n (M := MX5_count) (pc := 99) dX5_count_99
theorem sX5_count_100 : Snd MX5_count 100 (xGf 103 5 4) := snd_gf (M := MX5_count) (pc := 100) (C0 := RX5) (T0 := TX5) (N := 13) dX5_count_100 rfl tbX5 (by decide) w305
theorem sX5_count_103 : Snd MX5_count 103 (xLdA 104 0) := snd_aload_n (M := MX5_count) (pc := 103) dX5_count_103
theorem sX5_count_104 : Snd MX5_count 104 (xGf 107 5 6) := snd_gf (M := MX5_count) (pc := 104) (C0 := RX5) (T0 := TX5) (N := 13) dX5_count_104 rfl tbX5 (by decide) w307
theorem sX5_count_107 : Snd MX5_count 107 (xGf 110 1 0) := snd_gf (M := MX5_count) (pc := 107) (C0 := RX1) (T0 := TX1) (N := 4) dX5_count_107 rfl tbX1 (by decide) w326
theorem sX5_count_110 : Snd MX5_count 110 (xCallV MX3_livesBy 3 1 113) := snd_callV (M := MX5_count) (pc := 110) (n := 1) dX5_count_110 rfl w393 w112 w113 ⟨w83, w110, ⟨by decide, by decide, by decide +kernel⟩, by decide⟩ ⟨rfl, rfl⟩
theorem sX5_count_113 : Snd MX5_count 113 (xCallS MJ6_bitCount_0f7a4 1 116) := snd_callS (M := MX5_count) (pc := 113) (n := 1) dX5_count_113 w384 w109 ⟨w106, w107, ⟨by decide, by decide, by decide +kernel⟩, by decide⟩ ⟨rfl, rfl⟩
theorem sX5_count_116 : Snd MX5_count 116 (xRet) := snd_iret (M := MX5_count) (pc := 116) dX5_count_116 rfl
theorem sX5_count_117 : Snd MX5_count 117 (xLdA 118 0) := snd_aload_n (M := MX5_count) (pc := 117) dX5_count_117
theorem sX5_count_118 : Snd MX5_count 118 (xGf 121 5 6) := snd_gf (M := MX5_count) (pc := 118) (C0 := RX5) (T0 := TX5) (N := 13) dX5_count_118 rfl tbX5 (by decide) w307
theorem sX5_count_121 : Snd MX5_count 121 (xGf 124 1 1) := snd_gf (M := MX5_count) (pc := 121) (C0 := RX1) (T0 := TX1) (N := 4) dX5_count_121 rfl tbX1 (by decide) w340
theorem sX5_count_124 : Snd MX5_count 124 (xCallS MJ6_bitCount_0f7a4 1 127) := snd_callS (M := MX5_count) (pc := 124) (n := 1) dX5_count_124 w384 w109 ⟨w106, w107, ⟨by decide, by decide, by decide +kernel⟩, by decide⟩ ⟨rfl, rfl⟩
theorem sX5_count_127 : Snd MX5_count 127 (xRet) := snd_iret (M := MX5_count) (pc := 127) dX5_count_127 rfl
theorem sX5_count_128 : Snd MX5_count 128 (xLdA 129 0) := snd_aload_n (M := MX5_count) (pc := 128) dX5_count_128
theorem sX5_count_129 : Snd MX5_count 129 (xGf 132 5 6) := snd_gf (M := MX5_count) (pc := 129) (C0 := RX5) (T0 := TX5) (N := 13) dX5_count_129 rfl tbX5 (by decide) w307
theorem sX5_count_132 : Snd MX5_count 132 (xGf 135 1 2) := snd_gf (M := MX5_count) (pc := 132) (C0 := RX1) (T0 := TX1) (N := 4) dX5_count_132 rfl tbX1 (by decide) w366
theorem sX5_count_135 : Snd MX5_count 135 (xRet) := snd_iret (M := MX5_count) (pc := 135) dX5_count_135 rfl
theorem sX5_count_136 : Snd MX5_count 136 (xLdA 137 0) := snd_aload_n (M := MX5_count) (pc := 136) dX5_count_136
theorem sX5_count_137 : Snd MX5_count 137 (xGf 140 5 6) := snd_gf (M := MX5_count) (pc := 137) (C0 := RX5) (T0 := TX5) (N := 13) dX5_count_137 rfl tbX5 (by decide) w307
theorem sX5_count_140 : Snd MX5_count 140 (xGf 143 1 3) := snd_gf (M := MX5_count) (pc := 140) (C0 := RX1) (T0 := TX1) (N := 4) dX5_count_140 rfl tbX1 (by decide) w431
theorem sX5_count_143 : Snd MX5_count 143 (xRet) := snd_iret (M := MX5_count) (pc := 143) dX5_count_143 rfl
theorem sX5_count_144 : Snd MX5_count 144 (xLdA 145 0) := snd_aload_n (M := MX5_count) (pc := 144) dX5_count_144
theorem sX5_count_145 : Snd MX5_count 145 (xGf 148 5 10) := snd_gf (M := MX5_count) (pc := 145) (C0 := RX5) (T0 := TX5) (N := 13) dX5_count_145 rfl tbX5 (by decide) w406
theorem sX5_count_148 : Snd MX5_count 148 (xRet) := snd_iret (M := MX5_count) (pc := 148) dX5_count_148 rfl
theorem sX5_count_149 : Snd MX5_count 149 (xLdA 150 0) := snd_aload_n (M := MX5_count) (pc := 149) dX5_count_149
theorem sX5_count_150 : Snd MX5_count 150 (xGf 153 5 8) := snd_gf (M := MX5_count) (pc := 150) (C0 := RX5) (T0 := TX5) (N := 13) dX5_count_150 rfl tbX5 (by decide) w309
theorem sX5_count_153 : Snd MX5_count 153 (xGf 156 2 0) := snd_gf (M := MX5_count) (pc := 153) (C0 := RX2) (T0 := TX2) (N := 6) dX5_count_153 rfl tbX2 (by decide) w367
theorem sX5_count_156 : Snd MX5_count 156 (xRet) := snd_iret (M := MX5_count) (pc := 156) dX5_count_156 rfl
theorem sX5_count_157 : Snd MX5_count 157 (xLdA 158 0) := snd_aload_n (M := MX5_count) (pc := 157) dX5_count_157
theorem sX5_count_158 : Snd MX5_count 158 (xGf 161 5 9) := snd_gf (M := MX5_count) (pc := 158) (C0 := RX5) (T0 := TX5) (N := 13) dX5_count_158 rfl tbX5 (by decide) w310
theorem sX5_count_161 : Snd MX5_count 161 (xGf 164 2 0) := snd_gf (M := MX5_count) (pc := 161) (C0 := RX2) (T0 := TX2) (N := 6) dX5_count_161 rfl tbX2 (by decide) w367
theorem sX5_count_164 : Snd MX5_count 164 (xRet) := snd_iret (M := MX5_count) (pc := 164) dX5_count_164 rfl
theorem sX5_count_165 : Snd MX5_count 165 (xLdA 166 0) := snd_aload_n (M := MX5_count) (pc := 165) dX5_count_165
theorem sX5_count_166 : Snd MX5_count 166 (xGf 169 5 1) := snd_gf (M := MX5_count) (pc := 166) (C0 := RX5) (T0 := TX5) (N := 13) dX5_count_166 rfl tbX5 (by decide) w292
theorem sX5_count_169 : Snd MX5_count 169 (xRet) := snd_iret (M := MX5_count) (pc := 169) dX5_count_169 rfl
theorem sX5_count_170 : Snd MX5_count 170 (xK 171 ((-1))) := snd_iconst (M := MX5_count) (pc := 170) dX5_count_170 (by decide +kernel)
theorem sX5_count_171 : Snd MX5_count 171 (xRet) := snd_iret (M := MX5_count) (pc := 171) dX5_count_171 rfl
theorem VX5_count : Valid MX5_count LX5_count := va_lid sX5_count_0 (va_lid sX5_count_1 (va_lid sX5_count_64 (va_lid sX5_count_65 (va_lid sX5_count_68 (va_lid sX5_count_71 (va_lid sX5_count_72 (va_lid sX5_count_73 (va_lid sX5_count_76 (va_lid sX5_count_79 (va_lid sX5_count_80 (va_lid sX5_count_81 (va_lid sX5_count_84 (va_lid sX5_count_87 (va_lid sX5_count_88 (va_lid sX5_count_89 (va_lid sX5_count_92 (va_lid sX5_count_95 (va_lid sX5_count_98 (va_lid sX5_count_99 (va_lid sX5_count_100 (va_lid sX5_count_103 (va_lid sX5_count_104 (va_lid sX5_count_107 (va_lid sX5_count_110 (va_lid sX5_count_113 (va_lid sX5_count_116 (va_lid sX5_count_117 (va_lid sX5_count_118 (va_lid sX5_count_121 (va_lid sX5_count_124 (va_lid sX5_count_127 (va_lid sX5_count_128 (va_lid sX5_count_129 (va_lid sX5_count_132 (va_lid sX5_count_135 (va_lid sX5_count_136 (va_lid sX5_count_137 (va_lid sX5_count_140 (va_lid sX5_count_143 (va_lid sX5_count_144 (va_lid sX5_count_145 (va_lid sX5_count_148 (va_lid sX5_count_149 (va_lid sX5_count_150 (va_lid sX5_count_153 (va_lid sX5_count_156 (va_lid sX5_count_157 (va_lid sX5_count_158 (va_lid sX5_count_161 (va_lid sX5_count_164 (va_lid sX5_count_165 (va_lid sX5_count_166 (va_lid sX5_count_169 (va_lid sX5_count_170 (va_lid sX5_count_171 (va_lid0))))))))))))))))))))))))))))))))))))))))))))))))))))))))
theorem kX5_count_0 : lk LX5_count 0 = some (xLdI 1 1) := rfl
theorem kX5_count_1 : lk LX5_count 1 = some (xTsw 170 0 [64, 72, 80, 88, 99, 117, 128, 136, 144, 149, 157, 165]) := rfl
theorem kX5_count_64 : lk LX5_count 64 = some (xLdA 65 0) := rfl
theorem kX5_count_65 : lk LX5_count 65 = some (xGf 68 5 4) := rfl
theorem kX5_count_68 : lk LX5_count 68 = some (xGf 71 3 2) := rfl
theorem kX5_count_71 : lk LX5_count 71 = some (xRet) := rfl
theorem kX5_count_72 : lk LX5_count 72 = some (xLdA 73 0) := rfl
theorem kX5_count_73 : lk LX5_count 73 = some (xGf 76 5 4) := rfl
theorem kX5_count_76 : lk LX5_count 76 = some (xGf 79 3 3) := rfl
theorem kX5_count_79 : lk LX5_count 79 = some (xRet) := rfl
theorem kX5_count_80 : lk LX5_count 80 = some (xLdA 81 0) := rfl
theorem kX5_count_81 : lk LX5_count 81 = some (xGf 84 5 4) := rfl
theorem kX5_count_84 : lk LX5_count 84 = some (xGf 87 3 0) := rfl
theorem kX5_count_87 : lk LX5_count 87 = some (xRet) := rfl
theorem kX5_count_88 : lk LX5_count 88 = some (xLdA 89 0) := rfl
theorem kX5_count_89 : lk LX5_count 89 = some (xGf 92 5 6) := rfl
theorem kX5_count_92 : lk LX5_count 92 = some (xGf 95 1 0) := rfl
theorem kX5_count_95 : lk LX5_count 95 = some (xCallS MJ6_bitCount_0f7a4 1 98) := rfl
theorem kX5_count_98 : lk LX5_count 98 = some (xRet) := rfl
theorem kX5_count_99 : lk LX5_count 99 = some (xLdA 100 0) := rfl
theorem kX5_count_100 : lk LX5_count 100 = some (xGf 103 5 4) := rfl
theorem kX5_count_103 : lk LX5_count 103 = some (xLdA 104 0) := rfl
theorem kX5_count_104 : lk LX5_count 104 = some (xGf 107 5 6) := rfl
theorem kX5_count_107 : lk LX5_count 107 = some (xGf 110 1 0) := rfl
theorem kX5_count_110 : lk LX5_count 110 = some (xCallV MX3_livesBy 3 1 113) := rfl
theorem kX5_count_113 : lk LX5_count 113 = some (xCallS MJ6_bitCount_0f7a4 1 116) := rfl
theorem kX5_count_116 : lk LX5_count 116 = some (xRet) := rfl
theorem kX5_count_117 : lk LX5_count 117 = some (xLdA 118 0) := rfl
theorem kX5_count_118 : lk LX5_count 118 = some (xGf 121 5 6) := rfl
theorem kX5_count_121 : lk LX5_count 121 = some (xGf 124 1 1) := rfl
theorem kX5_count_124 : lk LX5_count 124 = some (xCallS MJ6_bitCount_0f7a4 1 127) := rfl
theorem kX5_count_127 : lk LX5_count 127 = some (xRet) := rfl
theorem kX5_count_128 : lk LX5_count 128 = some (xLdA 129 0) := rfl
theorem kX5_count_129 : lk LX5_count 129 = some (xGf 132 5 6) := rfl
theorem kX5_count_132 : lk LX5_count 132 = some (xGf 135 1 2) := rfl
theorem kX5_count_135 : lk LX5_count 135 = some (xRet) := rfl
theorem kX5_count_136 : lk LX5_count 136 = some (xLdA 137 0) := rfl
theorem kX5_count_137 : lk LX5_count 137 = some (xGf 140 5 6) := rfl
theorem kX5_count_140 : lk LX5_count 140 = some (xGf 143 1 3) := rfl
theorem kX5_count_143 : lk LX5_count 143 = some (xRet) := rfl
theorem kX5_count_144 : lk LX5_count 144 = some (xLdA 145 0) := rfl
theorem kX5_count_145 : lk LX5_count 145 = some (xGf 148 5 10) := rfl
theorem kX5_count_148 : lk LX5_count 148 = some (xRet) := rfl
theorem kX5_count_149 : lk LX5_count 149 = some (xLdA 150 0) := rfl
theorem kX5_count_150 : lk LX5_count 150 = some (xGf 153 5 8) := rfl
theorem kX5_count_153 : lk LX5_count 153 = some (xGf 156 2 0) := rfl
theorem kX5_count_156 : lk LX5_count 156 = some (xRet) := rfl
theorem kX5_count_157 : lk LX5_count 157 = some (xLdA 158 0) := rfl
theorem kX5_count_158 : lk LX5_count 158 = some (xGf 161 5 9) := rfl
theorem kX5_count_161 : lk LX5_count 161 = some (xGf 164 2 0) := rfl
theorem kX5_count_164 : lk LX5_count 164 = some (xRet) := rfl
theorem kX5_count_165 : lk LX5_count 165 = some (xLdA 166 0) := rfl
theorem kX5_count_166 : lk LX5_count 166 = some (xGf 169 5 1) := rfl
theorem kX5_count_169 : lk LX5_count 169 = some (xRet) := rfl
theorem kX5_count_170 : lk LX5_count 170 = some (xK 171 ((-1))) := rfl
theorem kX5_count_171 : lk LX5_count 171 = some (xRet) := rfl
def LX5_roomLeft : List (Nat × XI) := [(0, xLdA 1 0),
  (1, xGf 4 5 4),
  (4, xGf 7 3 0),
  (7, xLdA 8 0),
  (8, xGf 11 5 4),
  (11, xLdA 12 0),
  (12, xGf 15 5 6),
  (15, xGf 18 1 0),
  (18, xCallV MX3_roomTaken 3 1 21),
  (21, xBin 22 f_isub),
  (22, xRet)]
theorem sX5_roomLeft_0 : Snd MX5_roomLeft 0 (xLdA 1 0) := snd_aload_n (M := MX5_roomLeft) (pc := 0) dX5_roomLeft_0
theorem sX5_roomLeft_1 : Snd MX5_roomLeft 1 (xGf 4 5 4) := snd_gf (M := MX5_roomLeft) (pc := 1) (C0 := RX5) (T0 := TX5) (N := 13) dX5_roomLeft_1 rfl tbX5 (by decide) w305
theorem sX5_roomLeft_4 : Snd MX5_roomLeft 4 (xGf 7 3 0) := snd_gf (M := MX5_roomLeft) (pc := 4) (C0 := RX3) (T0 := TX3) (N := 14) dX5_roomLeft_4 rfl tbX3 (by decide) w430
theorem sX5_roomLeft_7 : Snd MX5_roomLeft 7 (xLdA 8 0) := snd_aload_n (M := MX5_roomLeft) (pc := 7) dX5_roomLeft_7
theorem sX5_roomLeft_8 : Snd MX5_roomLeft 8 (xGf 11 5 4) := snd_gf (M := MX5_roomLeft) (pc := 8) (C0 := RX5) (T0 := TX5) (N := 13) dX5_roomLeft_8 rfl tbX5 (by decide) w305
theorem sX5_roomLeft_11 : Snd MX5_roomLeft 11 (xLdA 12 0) := snd_aload_n (M := MX5_roomLeft) (pc := 11) dX5_roomLeft_11
theorem sX5_roomLeft_12 : Snd MX5_roomLeft 12 (xGf 15 5 6) := snd_gf (M := MX5_roomLeft) (pc := 12) (C0 := RX5) (T0 := TX5) (N := 13) dX5_roomLeft_12 rfl tbX5 (by decide) w307
theorem sX5_roomLeft_15 : Snd MX5_roomLeft 15 (xGf 18 1 0) := snd_gf (M := MX5_roomLeft) (pc := 15) (C0 := RX1) (T0 := TX1) (N := 4) dX5_roomLeft_15 rfl tbX1 (by decide) w326
theorem sX5_roomLeft_18 : Snd MX5_roomLeft 18 (xCallV MX3_roomTaken 3 1 21) := snd_callV (M := MX5_roomLeft) (pc := 18) (n := 1) dX5_roomLeft_18 rfl w341 w94 w95 ⟨w83, w92, ⟨by decide, by decide, by decide +kernel⟩, by decide⟩ ⟨rfl, rfl⟩
theorem sX5_roomLeft_21 : Snd MX5_roomLeft 21 (xBin 22 f_isub) := snd_isub (M := MX5_roomLeft) (pc := 21) dX5_roomLeft_21
theorem sX5_roomLeft_22 : Snd MX5_roomLeft 22 (xRet) := snd_iret (M := MX5_roomLeft) (pc := 22) dX5_roomLeft_22 rfl
theorem VX5_roomLeft : Valid MX5_roomLeft LX5_roomLeft := va_lid sX5_roomLeft_0 (va_lid sX5_roomLeft_1 (va_lid sX5_roomLeft_4 (va_lid sX5_roomLeft_7 (va_lid sX5_roomLeft_8 (va_lid sX5_roomLeft_11 (va_lid sX5_roomLeft_12 (va_lid sX5_roomLeft_15 (va_lid sX5_roomLeft_18 (va_lid sX5_roomLeft_21 (va_lid sX5_roomLeft_22 (va_lid0)))))))))))
theorem kX5_roomLeft_0 : lk LX5_roomLeft 0 = some (xLdA 1 0) := rfl
theorem kX5_roomLeft_1 : lk LX5_roomLeft 1 = some (xGf 4 5 4) := rfl
theorem kX5_roomLeft_4 : lk LX5_roomLeft 4 = some (xGf 7 3 0) := rfl
theorem kX5_roomLeft_7 : lk LX5_roomLeft 7 = some (xLdA 8 0) := rfl
theorem kX5_roomLeft_8 : lk LX5_roomLeft 8 = some (xGf 11 5 4) := rfl
theorem kX5_roomLeft_11 : lk LX5_roomLeft 11 = some (xLdA 12 0) := rfl
theorem kX5_roomLeft_12 : lk LX5_roomLeft 12 = some (xGf 15 5 6) := rfl
theorem kX5_roomLeft_15 : lk LX5_roomLeft 15 = some (xGf 18 1 0) := rfl
theorem kX5_roomLeft_18 : lk LX5_roomLeft 18 = some (xCallV MX3_roomTaken 3 1 21) := rfl
theorem kX5_roomLeft_21 : lk LX5_roomLeft 21 = some (xBin 22 f_isub) := rfl
theorem kX5_roomLeft_22 : lk LX5_roomLeft 22 = some (xRet) := rfl
def LX5_worthPart : List (Nat × XI) := [(0, xLdA 1 0),
  (1, xGf 4 5 4),
  (4, xLdI 5 1),
  (5, xCallV MX3_gain 3 1 8),
  (8, xLdA 9 0),
  (9, xGf 12 5 4),
  (12, xCallV MX3_chanceOfAll 3 0 15),
  (15, xLdI 16 2),
  (16, xCallS MX5_lowestTerms 3 19),
  (19, xRet)]
theorem sX5_worthPart_0 : Snd MX5_worthPart 0 (xLdA 1 0) := snd_aload_n (M := MX5_worthPart) (pc := 0) dX5_worthPart_0
theorem sX5_worthPart_1 : Snd MX5_worthPart 1 (xGf 4 5 4) := snd_gf (M := MX5_worthPart) (pc := 1) (C0 := RX5) (T0 := TX5) (N := 13) dX5_worthPart_1 rfl tbX5 (by decide) w305
theorem sX5_worthPart_4 : Snd MX5_worthPart 4 (xLdI 5 1) := snd_iload_n (M := MX5_worthPart) (pc := 4) dX5_worthPart_4
theorem sX5_worthPart_5 : Snd MX5_worthPart 5 (xCallV MX3_gain 3 1 8) := snd_callV (M := MX5_worthPart) (pc := 5) (n := 1) dX5_worthPart_5 rfl w432 w86 w87 ⟨w83, w84, ⟨by decide, by decide, by decide +kernel⟩, by decide⟩ ⟨rfl, rfl⟩
theorem sX5_worthPart_8 : Snd MX5_worthPart 8 (xLdA 9 0) := snd_aload_n (M := MX5_worthPart) (pc := 8) dX5_worthPart_8
theorem sX5_worthPart_9 : Snd MX5_worthPart 9 (xGf 12 5 4) := snd_gf (M := MX5_worthPart) (pc := 9) (C0 := RX5) (T0 := TX5) (N := 13) dX5_worthPart_9 rfl tbX5 (by decide) w305
theorem sX5_worthPart_12 : Snd MX5_worthPart 12 (xCallV MX3_chanceOfAll 3 0 15) := snd_callV (M := MX5_worthPart) (pc := 12) (n := 0) dX5_worthPart_12 rfl w434 w435 w436 ⟨w83, w433, ⟨by decide, by decide, by decide +kernel⟩, by decide⟩ ⟨rfl, rfl⟩
theorem sX5_worthPart_15 : Snd MX5_worthPart 15 (xLdI 16 2) := snd_iload_n (M := MX5_worthPart) (pc := 15) dX5_worthPart_15
theorem sX5_worthPart_16 : Snd MX5_worthPart 16 (xCallS MX5_lowestTerms 3 19) := snd_callS (M := MX5_worthPart) (pc := 16) (n := 3) dX5_worthPart_16 w417 w418 ⟨w115, w416, ⟨by decide, by decide, by decide +kernel⟩, by decide⟩ ⟨rfl, rfl⟩
theorem sX5_worthPart_19 : Snd MX5_worthPart 19 (xRet) := snd_iret (M := MX5_worthPart) (pc := 19) dX5_worthPart_19 rfl
theorem VX5_worthPart : Valid MX5_worthPart LX5_worthPart := va_lid sX5_worthPart_0 (va_lid sX5_worthPart_1 (va_lid sX5_worthPart_4 (va_lid sX5_worthPart_5 (va_lid sX5_worthPart_8 (va_lid sX5_worthPart_9 (va_lid sX5_worthPart_12 (va_lid sX5_worthPart_15 (va_lid sX5_worthPart_16 (va_lid sX5_worthPart_19 (va_lid0))))))))))
theorem kX5_worthPart_0 : lk LX5_worthPart 0 = some (xLdA 1 0) := rfl
theorem kX5_worthPart_1 : lk LX5_worthPart 1 = some (xGf 4 5 4) := rfl
theorem kX5_worthPart_4 : lk LX5_worthPart 4 = some (xLdI 5 1) := rfl
theorem kX5_worthPart_5 : lk LX5_worthPart 5 = some (xCallV MX3_gain 3 1 8) := rfl
theorem kX5_worthPart_8 : lk LX5_worthPart 8 = some (xLdA 9 0) := rfl
theorem kX5_worthPart_9 : lk LX5_worthPart 9 = some (xGf 12 5 4) := rfl
theorem kX5_worthPart_12 : lk LX5_worthPart 12 = some (xCallV MX3_chanceOfAll 3 0 15) := rfl
theorem kX5_worthPart_15 : lk LX5_worthPart 15 = some (xLdI 16 2) := rfl
theorem kX5_worthPart_16 : lk LX5_worthPart 16 = some (xCallS MX5_lowestTerms 3 19) := rfl
theorem kX5_worthPart_19 : lk LX5_worthPart 19 = some (xRet) := rfl
def LX5_chanceBehindMoths : List (Nat × XI) := [(0, xLdA 1 0),
  (1, xGf 4 5 6),
  (4, xGf 7 1 0),
  (7, xCallS MJ6_bitCount_0f7a4 1 10),
  (10, xStI 11 3),
  (11, xK 12 (nI 0)),
  (12, xStI 14 4),
  (14, xK 15 (nI 0)),
  (15, xStI 17 5),
  (17, xLdI 19 5),
  (19, xLdA 20 0),
  (20, xGf 23 5 6),
  (23, xGf 26 1 0),
  (26, xC_gt 93 29),
  (29, xLdI 31 5),
  (31, xLdA 32 0),
  (32, xGf 35 5 6),
  (35, xGf 38 1 0),
  (38, xK 39 ((-1))),
  (39, xBin 40 f_ixor),
  (40, xBin 41 f_iand),
  (41, xZ_ne 87 44),
  (44, xLdA 45 0),
  (45, xGf 48 5 4),
  (48, xLdI 49 1),
  (49, xLdI 51 5),
  (51, xCallV MX3_canBe 3 2 54),
  (54, xZ_eq 87 57),
  (57, xLdI 59 5),
  (59, xCallS MJ6_bitCount_0f7a4 1 62),
  (62, xStI 64 6),
  (64, xLdI 66 4),
  (66, xK 68 (nI 10)),
  (68, xLdI 69 2),
  (69, xBin 70 f_isub),
  (70, xLdI 72 6),
  (72, xCallS MX5_power 2 75),
  (75, xLdI 76 2),
  (76, xLdI 77 3),
  (77, xLdI 79 6),
  (79, xBin 80 f_isub),
  (80, xCallS MX5_power 2 83),
  (83, xBin 84 f_imul),
  (84, xBin 85 f_iadd),
  (85, xStI 87 4),
  (87, xInc 90 5 (nI 1)),
  (90, xGo 17),
  (93, xLdI 95 4),
  (95, xRet)]
theorem sX5_chanceBehindMoths_0 : Snd MX5_chanceBehindMoths 0 (xLdA 1 0) := snd_aload_n (M := MX5_chanceBehindMoths) (pc := 0) dX5_chanceBehindMoths_0
theorem sX5_chanceBehindMoths_1 : Snd MX5_chanceBehindMoths 1 (xGf 4 5 6) := snd_gf (M := MX5_chanceBehindMoths) (pc := 1) (C0 := RX5) (T0 := TX5) (N := 13) dX5_chanceBehindMoths_1 rfl tbX5 (by decide) w307
theorem sX5_chanceBehindMoths_4 : Snd MX5_chanceBehindMoths 4 (xGf 7 1 0) := snd_gf (M := MX5_chanceBehindMoths) (pc := 4) (C0 := RX1) (T0 := TX1) (N := 4) dX5_chanceBehindMoths_4 rfl tbX1 (by decide) w326
theorem sX5_chanceBehindMoths_7 : Snd MX5_chanceBehindMoths 7 (xCallS MJ6_bitCount_0f7a4 1 10) := snd_callS (M := MX5_chanceBehindMoths) (pc := 7) (n := 1) dX5_chanceBehindMoths_7 w384 w109 ⟨w106, w107, ⟨by decide, by decide, by decide +kernel⟩, by decide⟩ ⟨rfl, rfl⟩
theorem sX5_chanceBehindMoths_10 : Snd MX5_chanceBehindMoths 10 (xStI 11 3) := snd_istore_n (M := MX5_chanceBehindMoths) (pc := 10) dX5_chanceBehindMoths_10 (by decide)
theorem sX5_chanceBehindMoths_11 : Snd MX5_chanceBehindMoths 11 (xK 12 (nI 0)) := snd_iconst (M := MX5_chanceBehindMoths) (pc := 11) dX5_chanceBehindMoths_11 (by decide +kernel)
theorem sX5_chanceBehindMoths_12 : Snd MX5_chanceBehindMoths 12 (xStI 14 4) := snd_istore (M := MX5_chanceBehindMoths) (pc := 12) dX5_chanceBehindMoths_12 (by decide)
theorem sX5_chanceBehindMoths_14 : Snd MX5_chanceBehindMoths 14 (xK 15 (nI 0)) := snd_iconst (M := MX5_chanceBehindMoths) (pc := 14) dX5_chanceBehindMoths_14 (by decide +kernel)
theorem sX5_chanceBehindMoths_15 : Snd MX5_chanceBehindMoths 15 (xStI 17 5) := snd_istore (M := MX5_chanceBehindMoths) (pc := 15) dX5_chanceBehindMoths_15 (by decide)
theorem sX5_chanceBehindMoths_17 : Snd MX5_chanceBehindMoths 17 (xLdI 19 5) := snd_iload (M := MX5_chanceBehindMoths) (pc := 17) dX5_chanceBehindMoths_17
theorem sX5_chanceBehindMoths_19 : Snd MX5_chanceBehindMoths 19 (xLdA 20 0) := snd_aload_n (M := MX5_chanceBehindMoths) (pc := 19) dX5_chanceBehindMoths_19
theorem sX5_chanceBehindMoths_20 : Snd MX5_chanceBehindMoths 20 (xGf 23 5 6) := snd_gf (M := MX5_chanceBehindMoths) (pc := 20) (C0 := RX5) (T0 := TX5) (N := 13) dX5_chanceBehindMoths_20 rfl tbX5 (by decide) w307
theorem sX5_chanceBehindMoths_23 : Snd MX5_chanceBehindMoths 23 (xGf 26 1 0) := snd_gf (M := MX5_chanceBehindMoths) (pc := 23) (C0 := RX1) (T0 := TX1) (N := 4) dX5_chanceBehindMoths_23 rfl tbX1 (by decide) w326
theorem sX5_chanceBehindMoths_26 : Snd MX5_chanceBehindMoths 26 (xC_gt 93 29) := snd_icmp_gt (M := MX5_chanceBehindMoths) (pc := 26) dX5_chanceBehindMoths_26 (by decide)
theorem sX5_chanceBehindMoths_29 : Snd MX5_chanceBehindMoths 29 (xLdI 31 5) := snd_iload (M := MX5_chanceBehindMoths) (pc := 29) dX5_chanceBehindMoths_29
theorem sX5_chanceBehindMoths_31 : Snd MX5_chanceBehindMoths 31 (xLdA 32 0) := snd_aload_n (M := MX5_chanceBehindMoths) (pc := 31) dX5_chanceBehindMoths_31
theorem sX5_chanceBehindMoths_32 : Snd MX5_chanceBehindMoths 32 (xGf 35 5 6) := snd_gf (M := MX5_chanceBehindMoths) (pc := 32) (C0 := RX5) (T0 := TX5) (N := 13) dX5_chanceBehindMoths_32 rfl tbX5 (by decide) w307
theorem sX5_chanceBehindMoths_35 : Snd MX5_chanceBehindMoths 35 (xGf 38 1 0) := snd_gf (M := MX5_chanceBehindMoths) (pc := 35) (C0 := RX1) (T0 := TX1) (N := 4) dX5_chanceBehindMoths_35 rfl tbX1 (by decide) w326
theorem sX5_chanceBehindMoths_38 : Snd MX5_chanceBehindMoths 38 (xK 39 ((-1))) := snd_iconst (M := MX5_chanceBehindMoths) (pc := 38) dX5_chanceBehindMoths_38 (by decide +kernel)
theorem sX5_chanceBehindMoths_39 : Snd MX5_chanceBehindMoths 39 (xBin 40 f_ixor) := snd_ixor (M := MX5_chanceBehindMoths) (pc := 39) dX5_chanceBehindMoths_39
theorem sX5_chanceBehindMoths_40 : Snd MX5_chanceBehindMoths 40 (xBin 41 f_iand) := snd_iand (M := MX5_chanceBehindMoths) (pc := 40) dX5_chanceBehindMoths_40
theorem sX5_chanceBehindMoths_41 : Snd MX5_chanceBehindMoths 41 (xZ_ne 87 44) := snd_if_ne (M := MX5_chanceBehindMoths) (pc := 41) dX5_chanceBehindMoths_41 (by decide)
theorem sX5_chanceBehindMoths_44 : Snd MX5_chanceBehindMoths 44 (xLdA 45 0) := snd_aload_n (M := MX5_chanceBehindMoths) (pc := 44) dX5_chanceBehindMoths_44
theorem sX5_chanceBehindMoths_45 : Snd MX5_chanceBehindMoths 45 (xGf 48 5 4) := snd_gf (M := MX5_chanceBehindMoths) (pc := 45) (C0 := RX5) (T0 := TX5) (N := 13) dX5_chanceBehindMoths_45 rfl tbX5 (by decide) w305
theorem sX5_chanceBehindMoths_48 : Snd MX5_chanceBehindMoths 48 (xLdI 49 1) := snd_iload_n (M := MX5_chanceBehindMoths) (pc := 48) dX5_chanceBehindMoths_48
theorem sX5_chanceBehindMoths_49 : Snd MX5_chanceBehindMoths 49 (xLdI 51 5) := snd_iload (M := MX5_chanceBehindMoths) (pc := 49) dX5_chanceBehindMoths_49
theorem sX5_chanceBehindMoths_51 : Snd MX5_chanceBehindMoths 51 (xCallV MX3_canBe 3 2 54) := snd_callV (M := MX5_chanceBehindMoths) (pc := 51) (n := 2) dX5_chanceBehindMoths_51 rfl w339 w149 w150 ⟨w83, w147, ⟨by decide, by decide, by decide +kernel⟩, by decide⟩ ⟨rfl, rfl⟩
theorem sX5_chanceBehindMoths_54 : Snd MX5_chanceBehindMoths 54 (xZ_eq 87 57) := snd_if_eq (M := MX5_chanceBehindMoths) (pc := 54) dX5_chanceBehindMoths_54 (by decide)
theorem sX5_chanceBehindMoths_57 : Snd MX5_chanceBehindMoths 57 (xLdI 59 5) := snd_iload (M := MX5_chanceBehindMoths) (pc := 57) dX5_chanceBehindMoths_57
theorem sX5_chanceBehindMoths_59 : Snd MX5_chanceBehindMoths 59 (xCallS MJ6_bitCount_0f7a4 1 62) := snd_callS (M := MX5_chanceBehindMoths) (pc := 59) (n := 1) dX5_chanceBehindMoths_59 w384 w109 ⟨w106, w107, ⟨by decide, by decide, by decide +kernel⟩, by decide⟩ ⟨rfl, rfl⟩
theorem sX5_chanceBehindMoths_62 : Snd MX5_chanceBehindMoths 62 (xStI 64 6) := snd_istore (M := MX5_chanceBehindMoths) (pc := 62) dX5_chanceBehindMoths_62 (by decide)
theorem sX5_chanceBehindMoths_64 : Snd MX5_chanceBehindMoths 64 (xLdI 66 4) := snd_iload (M := MX5_chanceBehindMoths) (pc := 64) dX5_chanceBehindMoths_64
theorem sX5_chanceBehindMoths_66 : Snd MX5_chanceBehindMoths 66 (xK 68 (nI 10)) := snd_bipush (M := MX5_chanceBehindMoths) (pc := 66) dX5_chanceBehindMoths_66 (by decide +kernel)
theorem sX5_chanceBehindMoths_68 : Snd MX5_chanceBehindMoths 68 (xLdI 69 2) := snd_iload_n (M := MX5_chanceBehindMoths) (pc := 68) dX5_chanceBehindMoths_68
theorem sX5_chanceBehindMoths_69 : Snd MX5_chanceBehindMoths 69 (xBin 70 f_isub) := snd_isub (M := MX5_chanceBehindMoths) (pc := 69) dX5_chanceBehindMoths_69
theorem sX5_chanceBehindMoths_70 : Snd MX5_chanceBehindMoths 70 (xLdI 72 6) := snd_iload (M := MX5_chanceBehindMoths) (pc := 70) dX5_chanceBehindMoths_70
theorem sX5_chanceBehindMoths_72 : Snd MX5_chanceBehindMoths 72 (xCallS MX5_power 2 75) := snd_callS (M := MX5_chanceBehindMoths) (pc := 72) (n := 2) dX5_chanceBehindMoths_72 w410 w411 ⟨w115, w409, ⟨by decide, by decide, by decide +kernel⟩, by decide⟩ ⟨rfl, rfl⟩
theorem sX5_chanceBehindMoths_75 : Snd MX5_chanceBehindMoths 75 (xLdI 76 2) := snd_iload_n (M := MX5_chanceBehindMoths) (pc := 75) dX5_chanceBehindMoths_75
theorem sX5_chanceBehindMoths_76 : Snd MX5_chanceBehindMoths 76 (xLdI 77 3) := snd_iload_n (M := MX5_chanceBehindMoths) (pc := 76) dX5_chanceBehindMoths_76
theorem sX5_chanceBehindMoths_77 : Snd MX5_chanceBehindMoths 77 (xLdI 79 6) := snd_iload (M := MX5_chanceBehindMoths) (pc := 77) dX5_chanceBehindMoths_77
theorem sX5_chanceBehindMoths_79 : Snd MX5_chanceBehindMoths 79 (xBin 80 f_isub) := snd_isub (M := MX5_chanceBehindMoths) (pc := 79) dX5_chanceBehindMoths_79
theorem sX5_chanceBehindMoths_80 : Snd MX5_chanceBehindMoths 80 (xCallS MX5_power 2 83) := snd_callS (M := MX5_chanceBehindMoths) (pc := 80) (n := 2) dX5_chanceBehindMoths_80 w410 w411 ⟨w115, w409, ⟨by decide, by decide, by decide +kernel⟩, by decide⟩ ⟨rfl, rfl⟩
theorem sX5_chanceBehindMoths_83 : Snd MX5_chanceBehindMoths 83 (xBin 84 f_imul) := snd_imul (M := MX5_chanceBehindMoths) (pc := 83) dX5_chanceBehindMoths_83
theorem sX5_chanceBehindMoths_84 : Snd MX5_chanceBehindMoths 84 (xBin 85 f_iadd) := snd_iadd (M := MX5_chanceBehindMoths) (pc := 84) dX5_chanceBehindMoths_84
theorem sX5_chanceBehindMoths_85 : Snd MX5_chanceBehindMoths 85 (xStI 87 4) := snd_istore (M := MX5_chanceBehindMoths) (pc := 85) dX5_chanceBehindMoths_85 (by decide)
theorem sX5_chanceBehindMoths_87 : Snd MX5_chanceBehindMoths 87 (xInc 90 5 (nI 1)) := snd_iinc (M := MX5_chanceBehindMoths) (pc := 87) dX5_chanceBehindMoths_87 (by decide +kernel) (by decide)
theorem sX5_chanceBehindMoths_90 : Snd MX5_chanceBehindMoths 90 (xGo 17) := snd_goto (M := MX5_chanceBehindMoths) (pc := 90) dX5_chanceBehindMoths_90 (by decide)
theorem sX5_chanceBehindMoths_93 : Snd MX5_chanceBehindMoths 93 (xLdI 95 4) := snd_iload (M := MX5_chanceBehindMoths) (pc := 93) dX5_chanceBehindMoths_93
theorem sX5_chanceBehindMoths_95 : Snd MX5_chanceBehindMoths 95 (xRet) := snd_iret (M := MX5_chanceBehindMoths) (pc := 95) dX5_chanceBehindMoths_95 rfl
theorem VX5_chanceBehindMoths : Valid MX5_chanceBehindMoths LX5_chanceBehindMoths := va_lid sX5_chanceBehindMoths_0 (va_lid sX5_chanceBehindMoths_1 (va_lid sX5_chanceBehindMoths_4 (va_lid sX5_chanceBehindMoths_7 (va_lid sX5_chanceBehindMoths_10 (va_lid sX5_chanceBehindMoths_11 (va_lid sX5_chanceBehindMoths_12 (va_lid sX5_chanceBehindMoths_14 (va_lid sX5_chanceBehindMoths_15 (va_lid sX5_chanceBehindMoths_17 (va_lid sX5_chanceBehindMoths_19 (va_lid sX5_chanceBehindMoths_20 (va_lid sX5_chanceBehindMoths_23 (va_lid sX5_chanceBehindMoths_26 (va_lid sX5_chanceBehindMoths_29 (va_lid sX5_chanceBehindMoths_31 (va_lid sX5_chanceBehindMoths_32 (va_lid sX5_chanceBehindMoths_35 (va_lid sX5_chanceBehindMoths_38 (va_lid sX5_chanceBehindMoths_39 (va_lid sX5_chanceBehindMoths_40 (va_lid sX5_chanceBehindMoths_41 (va_lid sX5_chanceBehindMoths_44 (va_lid sX5_chanceBehindMoths_45 (va_lid sX5_chanceBehindMoths_48 (va_lid sX5_chanceBehindMoths_49 (va_lid sX5_chanceBehindMoths_51 (va_lid sX5_chanceBehindMoths_54 (va_lid sX5_chanceBehindMoths_57 (va_lid sX5_chanceBehindMoths_59 (va_lid sX5_chanceBehindMoths_62 (va_lid sX5_chanceBehindMoths_64 (va_lid sX5_chanceBehindMoths_66 (va_lid sX5_chanceBehindMoths_68 (va_lid sX5_chanceBehindMoths_69 (va_lid sX5_chanceBehindMoths_70 (va_lid sX5_chanceBehindMoths_72 (va_lid sX5_chanceBehindMoths_75 (va_lid sX5_chanceBehindMoths_76 (va_lid sX5_chanceBehindMoths_77 (va_lid sX5_chanceBehindMoths_79 (va_lid sX5_chanceBehindMoths_80 (va_lid sX5_chanceBehindMoths_83 (va_lid sX5_chanceBehindMoths_84 (va_lid sX5_chanceBehindMoths_85 (va_lid sX5_chanceBehindMoths_87 (va_lid sX5_chanceBehindMoths_90 (va_lid sX5_chanceBehindMoths_93 (va_lid sX5_chanceBehindMoths_95 (va_lid0)))))))))))))))))))))))))))))))))))))))))))))))))
theorem kX5_chanceBehindMoths_0 : lk LX5_chanceBehindMoths 0 = some (xLdA 1 0) := rfl
theorem kX5_chanceBehindMoths_1 : lk LX5_chanceBehindMoths 1 = some (xGf 4 5 6) := rfl
theorem kX5_chanceBehindMoths_4 : lk LX5_chanceBehindMoths 4 = some (xGf 7 1 0) := rfl
theorem kX5_chanceBehindMoths_7 : lk LX5_chanceBehindMoths 7 = some (xCallS MJ6_bitCount_0f7a4 1 10) := rfl
theorem kX5_chanceBehindMoths_10 : lk LX5_chanceBehindMoths 10 = some (xStI 11 3) := rfl
theorem kX5_chanceBehindMoths_11 : lk LX5_chanceBehindMoths 11 = some (xK 12 (nI 0)) := rfl
theorem kX5_chanceBehindMoths_12 : lk LX5_chanceBehindMoths 12 = some (xStI 14 4) := rfl
theorem kX5_chanceBehindMoths_14 : lk LX5_chanceBehindMoths 14 = some (xK 15 (nI 0)) := rfl
theorem kX5_chanceBehindMoths_15 : lk LX5_chanceBehindMoths 15 = some (xStI 17 5) := rfl
theorem kX5_chanceBehindMoths_17 : lk LX5_chanceBehindMoths 17 = some (xLdI 19 5) := rfl
theorem kX5_chanceBehindMoths_19 : lk LX5_chanceBehindMoths 19 = some (xLdA 20 0) := rfl
theorem kX5_chanceBehindMoths_20 : lk LX5_chanceBehindMoths 20 = some (xGf 23 5 6) := rfl
theorem kX5_chanceBehindMoths_23 : lk LX5_chanceBehindMoths 23 = some (xGf 26 1 0) := rfl
theorem kX5_chanceBehindMoths_26 : lk LX5_chanceBehindMoths 26 = some (xC_gt 93 29) := rfl
theorem kX5_chanceBehindMoths_29 : lk LX5_chanceBehindMoths 29 = some (xLdI 31 5) := rfl
theorem kX5_chanceBehindMoths_31 : lk LX5_chanceBehindMoths 31 = some (xLdA 32 0) := rfl
theorem kX5_chanceBehindMoths_32 : lk LX5_chanceBehindMoths 32 = some (xGf 35 5 6) := rfl
theorem kX5_chanceBehindMoths_35 : lk LX5_chanceBehindMoths 35 = some (xGf 38 1 0) := rfl
theorem kX5_chanceBehindMoths_38 : lk LX5_chanceBehindMoths 38 = some (xK 39 ((-1))) := rfl
theorem kX5_chanceBehindMoths_39 : lk LX5_chanceBehindMoths 39 = some (xBin 40 f_ixor) := rfl
theorem kX5_chanceBehindMoths_40 : lk LX5_chanceBehindMoths 40 = some (xBin 41 f_iand) := rfl
theorem kX5_chanceBehindMoths_41 : lk LX5_chanceBehindMoths 41 = some (xZ_ne 87 44) := rfl
theorem kX5_chanceBehindMoths_44 : lk LX5_chanceBehindMoths 44 = some (xLdA 45 0) := rfl
theorem kX5_chanceBehindMoths_45 : lk LX5_chanceBehindMoths 45 = some (xGf 48 5 4) := rfl
theorem kX5_chanceBehindMoths_48 : lk LX5_chanceBehindMoths 48 = some (xLdI 49 1) := rfl
theorem kX5_chanceBehindMoths_49 : lk LX5_chanceBehindMoths 49 = some (xLdI 51 5) := rfl
theorem kX5_chanceBehindMoths_51 : lk LX5_chanceBehindMoths 51 = some (xCallV MX3_canBe 3 2 54) := rfl
theorem kX5_chanceBehindMoths_54 : lk LX5_chanceBehindMoths 54 = some (xZ_eq 87 57) := rfl
theorem kX5_chanceBehindMoths_57 : lk LX5_chanceBehindMoths 57 = some (xLdI 59 5) := rfl
theorem kX5_chanceBehindMoths_59 : lk LX5_chanceBehindMoths 59 = some (xCallS MJ6_bitCount_0f7a4 1 62) := rfl
theorem kX5_chanceBehindMoths_62 : lk LX5_chanceBehindMoths 62 = some (xStI 64 6) := rfl
theorem kX5_chanceBehindMoths_64 : lk LX5_chanceBehindMoths 64 = some (xLdI 66 4) := rfl
theorem kX5_chanceBehindMoths_66 : lk LX5_chanceBehindMoths 66 = some (xK 68 (nI 10)) := rfl
theorem kX5_chanceBehindMoths_68 : lk LX5_chanceBehindMoths 68 = some (xLdI 69 2) := rfl
theorem kX5_chanceBehindMoths_69 : lk LX5_chanceBehindMoths 69 = some (xBin 70 f_isub) := rfl
theorem kX5_chanceBehindMoths_70 : lk LX5_chanceBehindMoths 70 = some (xLdI 72 6) := rfl
theorem kX5_chanceBehindMoths_72 : lk LX5_chanceBehindMoths 72 = some (xCallS MX5_power 2 75) := rfl
theorem kX5_chanceBehindMoths_75 : lk LX5_chanceBehindMoths 75 = some (xLdI 76 2) := rfl
theorem kX5_chanceBehindMoths_76 : lk LX5_chanceBehindMoths 76 = some (xLdI 77 3) := rfl
theorem kX5_chanceBehindMoths_77 : lk LX5_chanceBehindMoths 77 = some (xLdI 79 6) := rfl
theorem kX5_chanceBehindMoths_79 : lk LX5_chanceBehindMoths 79 = some (xBin 80 f_isub) := rfl
theorem kX5_chanceBehindMoths_80 : lk LX5_chanceBehindMoths 80 = some (xCallS MX5_power 2 83) := rfl
theorem kX5_chanceBehindMoths_83 : lk LX5_chanceBehindMoths 83 = some (xBin 84 f_imul) := rfl
theorem kX5_chanceBehindMoths_84 : lk LX5_chanceBehindMoths 84 = some (xBin 85 f_iadd) := rfl
theorem kX5_chanceBehindMoths_85 : lk LX5_chanceBehindMoths 85 = some (xStI 87 4) := rfl
theorem kX5_chanceBehindMoths_87 : lk LX5_chanceBehindMoths 87 = some (xInc 90 5 (nI 1)) := rfl
theorem kX5_chanceBehindMoths_90 : lk LX5_chanceBehindMoths 90 = some (xGo 17) := rfl
theorem kX5_chanceBehindMoths_93 : lk LX5_chanceBehindMoths 93 = some (xLdI 95 4) := rfl
theorem kX5_chanceBehindMoths_95 : lk LX5_chanceBehindMoths 95 = some (xRet) := rfl
def LX5_draw : List (Nat × XI) := [(0, xKL 3 (lN 7919)),
  (3, xLdI 4 0),
  (4, xI2l 5),
  (5, xBinL 6 f_lmul),
  (6, xKL 9 (lN 6151)),
  (9, xLdI 10 1),
  (10, xI2l 11),
  (11, xBinL 12 f_lmul),
  (12, xBinL 13 f_ladd),
  (13, xKL 14 (lN 1)),
  (14, xBinL 15 f_ladd),
  (15, xStL 16 2),
  (16, xLdL 17 2),
  (17, xLdL 18 2),
  (18, xBinL 19 f_lmul),
  (19, xKL 22 (lN 65521)),
  (22, xDivL 23 f_lrem),
  (23, xL2i 24),
  (24, xRet)]
theorem sX5_draw_0 : Snd MX5_draw 0 (xKL 3 (lN 7919)) := snd_ldc2 (M := MX5_draw) (pc := 0) dX5_draw_0 w437
theorem sX5_draw_3 : Snd MX5_draw 3 (xLdI 4 0) := snd_iload_n (M := MX5_draw) (pc := 3) dX5_draw_3
theorem sX5_draw_4 : Snd MX5_draw 4 (xI2l 5) := snd_i2l (M := MX5_draw) (pc := 4) dX5_draw_4
theorem sX5_draw_5 : Snd MX5_draw 5 (xBinL 6 f_lmul) := snd_lmul (M := MX5_draw) (pc := 5) dX5_draw_5
theorem sX5_draw_6 : Snd MX5_draw 6 (xKL 9 (lN 6151)) := snd_ldc2 (M := MX5_draw) (pc := 6) dX5_draw_6 w438
theorem sX5_draw_9 : Snd MX5_draw 9 (xLdI 10 1) := snd_iload_n (M := MX5_draw) (pc := 9) dX5_draw_9
theorem sX5_draw_10 : Snd MX5_draw 10 (xI2l 11) := snd_i2l (M := MX5_draw) (pc := 10) dX5_draw_10
theorem sX5_draw_11 : Snd MX5_draw 11 (xBinL 12 f_lmul) := snd_lmul (M := MX5_draw) (pc := 11) dX5_draw_11
theorem sX5_draw_12 : Snd MX5_draw 12 (xBinL 13 f_ladd) := snd_ladd (M := MX5_draw) (pc := 12) dX5_draw_12
theorem sX5_draw_13 : Snd MX5_draw 13 (xKL 14 (lN 1)) := snd_lconst (M := MX5_draw) (pc := 13) dX5_draw_13 rfl
theorem sX5_draw_14 : Snd MX5_draw 14 (xBinL 15 f_ladd) := snd_ladd (M := MX5_draw) (pc := 14) dX5_draw_14
theorem sX5_draw_15 : Snd MX5_draw 15 (xStL 16 2) := snd_lstore_n (M := MX5_draw) (pc := 15) dX5_draw_15 (by decide)
theorem sX5_draw_16 : Snd MX5_draw 16 (xLdL 17 2) := snd_lload_n (M := MX5_draw) (pc := 16) dX5_draw_16
theorem sX5_draw_17 : Snd MX5_draw 17 (xLdL 18 2) := snd_lload_n (M := MX5_draw) (pc := 17) dX5_draw_17
theorem sX5_draw_18 : Snd MX5_draw 18 (xBinL 19 f_lmul) := snd_lmul (M := MX5_draw) (pc := 18) dX5_draw_18
theorem sX5_draw_19 : Snd MX5_draw 19 (xKL 22 (lN 65521)) := snd_ldc2 (M := MX5_draw) (pc := 19) dX5_draw_19 w439
theorem sX5_draw_22 : Snd MX5_draw 22 (xDivL 23 f_lrem) := snd_lrem (M := MX5_draw) (pc := 22) dX5_draw_22
theorem sX5_draw_23 : Snd MX5_draw 23 (xL2i 24) := snd_l2i (M := MX5_draw) (pc := 23) dX5_draw_23
theorem sX5_draw_24 : Snd MX5_draw 24 (xRet) := snd_iret (M := MX5_draw) (pc := 24) dX5_draw_24 rfl
theorem VX5_draw : Valid MX5_draw LX5_draw := va_lid sX5_draw_0 (va_lid sX5_draw_3 (va_lid sX5_draw_4 (va_lid sX5_draw_5 (va_lid sX5_draw_6 (va_lid sX5_draw_9 (va_lid sX5_draw_10 (va_lid sX5_draw_11 (va_lid sX5_draw_12 (va_lid sX5_draw_13 (va_lid sX5_draw_14 (va_lid sX5_draw_15 (va_lid sX5_draw_16 (va_lid sX5_draw_17 (va_lid sX5_draw_18 (va_lid sX5_draw_19 (va_lid sX5_draw_22 (va_lid sX5_draw_23 (va_lid sX5_draw_24 (va_lid0)))))))))))))))))))
theorem kX5_draw_0 : lk LX5_draw 0 = some (xKL 3 (lN 7919)) := rfl
theorem kX5_draw_3 : lk LX5_draw 3 = some (xLdI 4 0) := rfl
theorem kX5_draw_4 : lk LX5_draw 4 = some (xI2l 5) := rfl
theorem kX5_draw_5 : lk LX5_draw 5 = some (xBinL 6 f_lmul) := rfl
theorem kX5_draw_6 : lk LX5_draw 6 = some (xKL 9 (lN 6151)) := rfl
theorem kX5_draw_9 : lk LX5_draw 9 = some (xLdI 10 1) := rfl
theorem kX5_draw_10 : lk LX5_draw 10 = some (xI2l 11) := rfl
theorem kX5_draw_11 : lk LX5_draw 11 = some (xBinL 12 f_lmul) := rfl
theorem kX5_draw_12 : lk LX5_draw 12 = some (xBinL 13 f_ladd) := rfl
theorem kX5_draw_13 : lk LX5_draw 13 = some (xKL 14 (lN 1)) := rfl
theorem kX5_draw_14 : lk LX5_draw 14 = some (xBinL 15 f_ladd) := rfl
theorem kX5_draw_15 : lk LX5_draw 15 = some (xStL 16 2) := rfl
theorem kX5_draw_16 : lk LX5_draw 16 = some (xLdL 17 2) := rfl
theorem kX5_draw_17 : lk LX5_draw 17 = some (xLdL 18 2) := rfl
theorem kX5_draw_18 : lk LX5_draw 18 = some (xBinL 19 f_lmul) := rfl
theorem kX5_draw_19 : lk LX5_draw 19 = some (xKL 22 (lN 65521)) := rfl
theorem kX5_draw_22 : lk LX5_draw 22 = some (xDivL 23 f_lrem) := rfl
theorem kX5_draw_23 : lk LX5_draw 23 = some (xL2i 24) := rfl
theorem kX5_draw_24 : lk LX5_draw 24 = some (xRet) := rfl
def LX5_isPart : List (Nat × XI) := [(0, xLdI 1 0),
  (1, xZ_eq 9 4),
  (4, xLdI 5 0),
  (5, xK 6 (nI 1)),
  (6, xC_ne 13 9),
  (9, xK 10 (nI 1)),
  (10, xGo 14),
  (13, xK 14 (nI 0)),
  (14, xRetZ)]
theorem sX5_isPart_0 : Snd MX5_isPart 0 (xLdI 1 0) := snd_iload_n (M := MX5_isPart) (pc := 0) dX5_isPart_0
theorem sX5_isPart_1 : Snd MX5_isPart 1 (xZ_eq 9 4) := snd_if_eq (M := MX5_isPart) (pc := 1) dX5_isPart_1 (by decide)
theorem sX5_isPart_4 : Snd MX5_isPart 4 (xLdI 5 0) := snd_iload_n (M := MX5_isPart) (pc := 4) dX5_isPart_4
theorem sX5_isPart_5 : Snd MX5_isPart 5 (xK 6 (nI 1)) := snd_iconst (M := MX5_isPart) (pc := 5) dX5_isPart_5 (by decide +kernel)
theorem sX5_isPart_6 : Snd MX5_isPart 6 (xC_ne 13 9) := snd_icmp_ne (M := MX5_isPart) (pc := 6) dX5_isPart_6 (by decide)
theorem sX5_isPart_9 : Snd MX5_isPart 9 (xK 10 (nI 1)) := snd_iconst (M := MX5_isPart) (pc := 9) dX5_isPart_9 (by decide +kernel)
theorem sX5_isPart_10 : Snd MX5_isPart 10 (xGo 14) := snd_goto (M := MX5_isPart) (pc := 10) dX5_isPart_10 (by decide)
theorem sX5_isPart_13 : Snd MX5_isPart 13 (xK 14 (nI 0)) := snd_iconst (M := MX5_isPart) (pc := 13) dX5_isPart_13 (by decide +kernel)
theorem sX5_isPart_14 : Snd MX5_isPart 14 (xRetZ) := snd_zret (M := MX5_isPart) (pc := 14) dX5_isPart_14 rfl
theorem VX5_isPart : Valid MX5_isPart LX5_isPart := va_lid sX5_isPart_0 (va_lid sX5_isPart_1 (va_lid sX5_isPart_4 (va_lid sX5_isPart_5 (va_lid sX5_isPart_6 (va_lid sX5_isPart_9 (va_lid sX5_isPart_10 (va_lid sX5_isPart_13 (va_lid sX5_isPart_14 (va_lid0)))))))))
theorem kX5_isPart_0 : lk LX5_isPart 0 = some (xLdI 1 0) := rfl
theorem kX5_isPart_1 : lk LX5_isPart 1 = some (xZ_eq 9 4) := rfl
theorem kX5_isPart_4 : lk LX5_isPart 4 = some (xLdI 5 0) := rfl
theorem kX5_isPart_5 : lk LX5_isPart 5 = some (xK 6 (nI 1)) := rfl
theorem kX5_isPart_6 : lk LX5_isPart 6 = some (xC_ne 13 9) := rfl
theorem kX5_isPart_9 : lk LX5_isPart 9 = some (xK 10 (nI 1)) := rfl
theorem kX5_isPart_10 : lk LX5_isPart 10 = some (xGo 14) := rfl
theorem kX5_isPart_13 : lk LX5_isPart 13 = some (xK 14 (nI 0)) := rfl
theorem kX5_isPart_14 : lk LX5_isPart 14 = some (xRetZ) := rfl
def LX5_bit : List (Nat × XI) := [(0, xLdI 1 0),
  (1, xZ_eq 8 4),
  (4, xK 5 (nI 1)),
  (5, xGo 9),
  (8, xK 9 (nI 0)),
  (9, xRet)]
theorem sX5_bit_0 : Snd MX5_bit 0 (xLdI 1 0) := snd_iload_n (M := MX5_bit) (pc := 0) dX5_bit_0
theorem sX5_bit_1 : Snd MX5_bit 1 (xZ_eq 8 4) := snd_if_eq (M := MX5_bit) (pc := 1) dX5_bit_1 (by decide)
theorem sX5_bit_4 : Snd MX5_bit 4 (xK 5 (nI 1)) := snd_iconst (M := MX5_bit) (pc := 4) dX5_bit_4 (by decide +kernel)
theorem sX5_bit_5 : Snd MX5_bit 5 (xGo 9) := snd_goto (M := MX5_bit) (pc := 5) dX5_bit_5 (by decide)
theorem sX5_bit_8 : Snd MX5_bit 8 (xK 9 (nI 0)) := snd_iconst (M := MX5_bit) (pc := 8) dX5_bit_8 (by decide +kernel)
theorem sX5_bit_9 : Snd MX5_bit 9 (xRet) := snd_iret (M := MX5_bit) (pc := 9) dX5_bit_9 rfl
theorem VX5_bit : Valid MX5_bit LX5_bit := va_lid sX5_bit_0 (va_lid sX5_bit_1 (va_lid sX5_bit_4 (va_lid sX5_bit_5 (va_lid sX5_bit_8 (va_lid sX5_bit_9 (va_lid0))))))
theorem kX5_bit_0 : lk LX5_bit 0 = some (xLdI 1 0) := rfl
theorem kX5_bit_1 : lk LX5_bit 1 = some (xZ_eq 8 4) := rfl
theorem kX5_bit_4 : lk LX5_bit 4 = some (xK 5 (nI 1)) := rfl
theorem kX5_bit_5 : lk LX5_bit 5 = some (xGo 9) := rfl
theorem kX5_bit_8 : lk LX5_bit 8 = some (xK 9 (nI 0)) := rfl
theorem kX5_bit_9 : lk LX5_bit 9 = some (xRet) := rfl
def LX5_has : List (Nat × XI) := [(0, xLdI 1 0),
  (1, xLdI 2 1),
  (2, xBin 3 f_ishr),
  (3, xK 4 (nI 1)),
  (4, xBin 5 f_iand),
  (5, xK 6 (nI 1)),
  (6, xC_ne 13 9),
  (9, xK 10 (nI 1)),
  (10, xGo 14),
  (13, xK 14 (nI 0)),
  (14, xRetZ)]
theorem sX5_has_0 : Snd MX5_has 0 (xLdI 1 0) := snd_iload_n (M := MX5_has) (pc := 0) dX5_has_0
theorem sX5_has_1 : Snd MX5_has 1 (xLdI 2 1) := snd_iload_n (M := MX5_has) (pc := 1) dX5_has_1
theorem sX5_has_2 : Snd MX5_has 2 (xBin 3 f_ishr) := snd_ishr (M := MX5_has) (pc := 2) dX5_has_2
theorem sX5_has_3 : Snd MX5_has 3 (xK 4 (nI 1)) := snd_iconst (M := MX5_has) (pc := 3) dX5_has_3 (by decide +kernel)
theorem sX5_has_4 : Snd MX5_has 4 (xBin 5 f_iand) := snd_iand (M := MX5_has) (pc := 4) dX5_has_4
theorem sX5_has_5 : Snd MX5_has 5 (xK 6 (nI 1)) := snd_iconst (M := MX5_has) (pc := 5) dX5_has_5 (by decide +kernel)
theorem sX5_has_6 : Snd MX5_has 6 (xC_ne 13 9) := snd_icmp_ne (M := MX5_has) (pc := 6) dX5_has_6 (by decide)
theorem sX5_has_9 : Snd MX5_has 9 (xK 10 (nI 1)) := snd_iconst (M := MX5_has) (pc := 9) dX5_has_9 (by decide +kernel)
theorem sX5_has_10 : Snd MX5_has 10 (xGo 14) := snd_goto (M := MX5_has) (pc := 10) dX5_has_10 (by decide)
theorem sX5_has_13 : Snd MX5_has 13 (xK 14 (nI 0)) := snd_iconst (M := MX5_has) (pc := 13) dX5_has_13 (by decide +kernel)
theorem sX5_has_14 : Snd MX5_has 14 (xRetZ) := snd_zret (M := MX5_has) (pc := 14) dX5_has_14 rfl
theorem VX5_has : Valid MX5_has LX5_has := va_lid sX5_has_0 (va_lid sX5_has_1 (va_lid sX5_has_2 (va_lid sX5_has_3 (va_lid sX5_has_4 (va_lid sX5_has_5 (va_lid sX5_has_6 (va_lid sX5_has_9 (va_lid sX5_has_10 (va_lid sX5_has_13 (va_lid sX5_has_14 (va_lid0)))))))))))
theorem kX5_has_0 : lk LX5_has 0 = some (xLdI 1 0) := rfl
theorem kX5_has_1 : lk LX5_has 1 = some (xLdI 2 1) := rfl
theorem kX5_has_2 : lk LX5_has 2 = some (xBin 3 f_ishr) := rfl
theorem kX5_has_3 : lk LX5_has 3 = some (xK 4 (nI 1)) := rfl
theorem kX5_has_4 : lk LX5_has 4 = some (xBin 5 f_iand) := rfl
theorem kX5_has_5 : lk LX5_has 5 = some (xK 6 (nI 1)) := rfl
theorem kX5_has_6 : lk LX5_has 6 = some (xC_ne 13 9) := rfl
theorem kX5_has_9 : lk LX5_has 9 = some (xK 10 (nI 1)) := rfl
theorem kX5_has_10 : lk LX5_has 10 = some (xGo 14) := rfl
theorem kX5_has_13 : lk LX5_has 13 = some (xK 14 (nI 0)) := rfl
theorem kX5_has_14 : lk LX5_has 14 = some (xRetZ) := rfl
def LX5_at : List (Nat × XI) := [(0, xLdI 1 1),
  (1, xZ_lt 16 4),
  (4, xLdI 5 1),
  (5, xLdA 6 0),
  (6, xAlen 7),
  (7, xC_ge 16 10),
  (10, xLdA 11 0),
  (11, xLdI 12 1),
  (12, xiaload 13),
  (13, xGo 17),
  (16, xK 17 (nI 0)),
  (17, xRet)]
theorem sX5_at_0 : Snd MX5_at 0 (xLdI 1 1) := snd_iload_n (M := MX5_at) (pc := 0) dX5_at_0
theorem sX5_at_1 : Snd MX5_at 1 (xZ_lt 16 4) := snd_if_lt (M := MX5_at) (pc := 1) dX5_at_1 (by decide)
theorem sX5_at_4 : Snd MX5_at 4 (xLdI 5 1) := snd_iload_n (M := MX5_at) (pc := 4) dX5_at_4
theorem sX5_at_5 : Snd MX5_at 5 (xLdA 6 0) := snd_aload_n (M := MX5_at) (pc := 5) dX5_at_5
theorem sX5_at_6 : Snd MX5_at 6 (xAlen 7) := snd_alen (M := MX5_at) (pc := 6) dX5_at_6
theorem sX5_at_7 : Snd MX5_at 7 (xC_ge 16 10) := snd_icmp_ge (M := MX5_at) (pc := 7) dX5_at_7 (by decide)
theorem sX5_at_10 : Snd MX5_at 10 (xLdA 11 0) := snd_aload_n (M := MX5_at) (pc := 10) dX5_at_10
theorem sX5_at_11 : Snd MX5_at 11 (xLdI 12 1) := snd_iload_n (M := MX5_at) (pc := 11) dX5_at_11
theorem sX5_at_12 : Snd MX5_at 12 (xiaload 13) := snd_iaload (M := MX5_at) (pc := 12) dX5_at_12
theorem sX5_at_13 : Snd MX5_at 13 (xGo 17) := snd_goto (M := MX5_at) (pc := 13) dX5_at_13 (by decide)
theorem sX5_at_16 : Snd MX5_at 16 (xK 17 (nI 0)) := snd_iconst (M := MX5_at) (pc := 16) dX5_at_16 (by decide +kernel)
theorem sX5_at_17 : Snd MX5_at 17 (xRet) := snd_iret (M := MX5_at) (pc := 17) dX5_at_17 rfl
theorem VX5_at : Valid MX5_at LX5_at := va_lid sX5_at_0 (va_lid sX5_at_1 (va_lid sX5_at_4 (va_lid sX5_at_5 (va_lid sX5_at_6 (va_lid sX5_at_7 (va_lid sX5_at_10 (va_lid sX5_at_11 (va_lid sX5_at_12 (va_lid sX5_at_13 (va_lid sX5_at_16 (va_lid sX5_at_17 (va_lid0))))))))))))
theorem kX5_at_0 : lk LX5_at 0 = some (xLdI 1 1) := rfl
theorem kX5_at_1 : lk LX5_at 1 = some (xZ_lt 16 4) := rfl
theorem kX5_at_4 : lk LX5_at 4 = some (xLdI 5 1) := rfl
theorem kX5_at_5 : lk LX5_at 5 = some (xLdA 6 0) := rfl
theorem kX5_at_6 : lk LX5_at 6 = some (xAlen 7) := rfl
theorem kX5_at_7 : lk LX5_at 7 = some (xC_ge 16 10) := rfl
theorem kX5_at_10 : lk LX5_at 10 = some (xLdA 11 0) := rfl
theorem kX5_at_11 : lk LX5_at 11 = some (xLdI 12 1) := rfl
theorem kX5_at_12 : lk LX5_at 12 = some (xiaload 13) := rfl
theorem kX5_at_13 : lk LX5_at 13 = some (xGo 17) := rfl
theorem kX5_at_16 : lk LX5_at 16 = some (xK 17 (nI 0)) := rfl
theorem kX5_at_17 : lk LX5_at 17 = some (xRet) := rfl
def LX5_store : List (Nat × XI) := [(0, xLdI 1 1),
  (1, xZ_lt 14 4),
  (4, xLdI 5 1),
  (5, xLdA 6 0),
  (6, xAlen 7),
  (7, xC_ge 14 10),
  (10, xLdA 11 0),
  (11, xLdI 12 1),
  (12, xLdI 13 2),
  (13, xiastore 14),
  (14, xRetV)]
theorem sX5_store_0 : Snd MX5_store 0 (xLdI 1 1) := snd_iload_n (M := MX5_store) (pc := 0) dX5_store_0
theorem sX5_store_1 : Snd MX5_store 1 (xZ_lt 14 4) := snd_if_lt (M := MX5_store) (pc := 1) dX5_store_1 (by decide)
theorem sX5_store_4 : Snd MX5_store 4 (xLdI 5 1) := snd_iload_n (M := MX5_store) (pc := 4) dX5_store_4
theorem sX5_store_5 : Snd MX5_store 5 (xLdA 6 0) := snd_aload_n (M := MX5_store) (pc := 5) dX5_store_5
theorem sX5_store_6 : Snd MX5_store 6 (xAlen 7) := snd_alen (M := MX5_store) (pc := 6) dX5_store_6
theorem sX5_store_7 : Snd MX5_store 7 (xC_ge 14 10) := snd_icmp_ge (M := MX5_store) (pc := 7) dX5_store_7 (by decide)
theorem sX5_store_10 : Snd MX5_store 10 (xLdA 11 0) := snd_aload_n (M := MX5_store) (pc := 10) dX5_store_10
theorem sX5_store_11 : Snd MX5_store 11 (xLdI 12 1) := snd_iload_n (M := MX5_store) (pc := 11) dX5_store_11
theorem sX5_store_12 : Snd MX5_store 12 (xLdI 13 2) := snd_iload_n (M := MX5_store) (pc := 12) dX5_store_12
theorem sX5_store_13 : Snd MX5_store 13 (xiastore 14) := snd_iastore (M := MX5_store) (pc := 13) dX5_store_13
theorem sX5_store_14 : Snd MX5_store 14 (xRetV) := snd_vret (M := MX5_store) (pc := 14) dX5_store_14 rfl
theorem VX5_store : Valid MX5_store LX5_store := va_lid sX5_store_0 (va_lid sX5_store_1 (va_lid sX5_store_4 (va_lid sX5_store_5 (va_lid sX5_store_6 (va_lid sX5_store_7 (va_lid sX5_store_10 (va_lid sX5_store_11 (va_lid sX5_store_12 (va_lid sX5_store_13 (va_lid sX5_store_14 (va_lid0)))))))))))
theorem kX5_store_0 : lk LX5_store 0 = some (xLdI 1 1) := rfl
theorem kX5_store_1 : lk LX5_store 1 = some (xZ_lt 14 4) := rfl
theorem kX5_store_4 : lk LX5_store 4 = some (xLdI 5 1) := rfl
theorem kX5_store_5 : lk LX5_store 5 = some (xLdA 6 0) := rfl
theorem kX5_store_6 : lk LX5_store 6 = some (xAlen 7) := rfl
theorem kX5_store_7 : lk LX5_store 7 = some (xC_ge 14 10) := rfl
theorem kX5_store_10 : lk LX5_store 10 = some (xLdA 11 0) := rfl
theorem kX5_store_11 : lk LX5_store 11 = some (xLdI 12 1) := rfl
theorem kX5_store_12 : lk LX5_store 12 = some (xLdI 13 2) := rfl
theorem kX5_store_13 : lk LX5_store 13 = some (xiastore 14) := rfl
theorem kX5_store_14 : lk LX5_store 14 = some (xRetV) := rfl
def LX5_power : List (Nat × XI) := [(0, xK 1 (nI 1)),
  (1, xStI 2 2),
  (2, xK 3 (nI 0)),
  (3, xStI 4 3),
  (4, xLdI 5 3),
  (5, xLdI 6 1),
  (6, xC_ge 19 9),
  (9, xLdI 10 2),
  (10, xLdI 11 0),
  (11, xBin 12 f_imul),
  (12, xStI 13 2),
  (13, xInc 16 3 (nI 1)),
  (16, xGo 4),
  (19, xLdI 20 2),
  (20, xRet)]
theorem sX5_power_0 : Snd MX5_power 0 (xK 1 (nI 1)) := snd_iconst (M := MX5_power) (pc := 0) dX5_power_0 (by decide +kernel)
theorem sX5_power_1 : Snd MX5_power 1 (xStI 2 2) := snd_istore_n (M := MX5_power) (pc := 1) dX5_power_1 (by decide)
theorem sX5_power_2 : Snd MX5_power 2 (xK 3 (nI 0)) := snd_iconst (M := MX5_power) (pc := 2) dX5_power_2 (by decide +kernel)
theorem sX5_power_3 : Snd MX5_power 3 (xStI 4 3) := snd_istore_n (M := MX5_power) (pc := 3) dX5_power_3 (by decide)
theorem sX5_power_4 : Snd MX5_power 4 (xLdI 5 3) := snd_iload_n (M := MX5_power) (pc := 4) dX5_power_4
theorem sX5_power_5 : Snd MX5_power 5 (xLdI 6 1) := snd_iload_n (M := MX5_power) (pc := 5) dX5_power_5
theorem sX5_power_6 : Snd MX5_power 6 (xC_ge 19 9) := snd_icmp_ge (M := MX5_power) (pc := 6) dX5_power_6 (by decide)
theorem sX5_power_9 : Snd MX5_power 9 (xLdI 10 2) := snd_iload_n (M := MX5_power) (pc := 9) dX5_power_9
theorem sX5_power_10 : Snd MX5_power 10 (xLdI 11 0) := snd_iload_n (M := MX5_power) (pc := 10) dX5_power_10
theorem sX5_power_11 : Snd MX5_power 11 (xBin 12 f_imul) := snd_imul (M := MX5_power) (pc := 11) dX5_power_11
theorem sX5_power_12 : Snd MX5_power 12 (xStI 13 2) := snd_istore_n (M := MX5_power) (pc := 12) dX5_power_12 (by decide)
theorem sX5_power_13 : Snd MX5_power 13 (xInc 16 3 (nI 1)) := snd_iinc (M := MX5_power) (pc := 13) dX5_power_13 (by decide +kernel) (by decide)
theorem sX5_power_16 : Snd MX5_power 16 (xGo 4) := snd_goto (M := MX5_power) (pc := 16) dX5_power_16 (by decide)
theorem sX5_power_19 : Snd MX5_power 19 (xLdI 20 2) := snd_iload_n (M := MX5_power) (pc := 19) dX5_power_19
theorem sX5_power_20 : Snd MX5_power 20 (xRet) := snd_iret (M := MX5_power) (pc := 20) dX5_power_20 rfl
theorem VX5_power : Valid MX5_power LX5_power := va_lid sX5_power_0 (va_lid sX5_power_1 (va_lid sX5_power_2 (va_lid sX5_power_3 (va_lid sX5_power_4 (va_lid sX5_power_5 (va_lid sX5_power_6 (va_lid sX5_power_9 (va_lid sX5_power_10 (va_lid sX5_power_11 (va_lid sX5_power_12 (va_lid sX5_power_13 (va_lid sX5_power_16 (va_lid sX5_power_19 (va_lid sX5_power_20 (va_lid0)))))))))))))))
theorem kX5_power_0 : lk LX5_power 0 = some (xK 1 (nI 1)) := rfl
theorem kX5_power_1 : lk LX5_power 1 = some (xStI 2 2) := rfl
theorem kX5_power_2 : lk LX5_power 2 = some (xK 3 (nI 0)) := rfl
theorem kX5_power_3 : lk LX5_power 3 = some (xStI 4 3) := rfl
theorem kX5_power_4 : lk LX5_power 4 = some (xLdI 5 3) := rfl
theorem kX5_power_5 : lk LX5_power 5 = some (xLdI 6 1) := rfl
theorem kX5_power_6 : lk LX5_power 6 = some (xC_ge 19 9) := rfl
theorem kX5_power_9 : lk LX5_power 9 = some (xLdI 10 2) := rfl
theorem kX5_power_10 : lk LX5_power 10 = some (xLdI 11 0) := rfl
theorem kX5_power_11 : lk LX5_power 11 = some (xBin 12 f_imul) := rfl
theorem kX5_power_12 : lk LX5_power 12 = some (xStI 13 2) := rfl
theorem kX5_power_13 : lk LX5_power 13 = some (xInc 16 3 (nI 1)) := rfl
theorem kX5_power_16 : lk LX5_power 16 = some (xGo 4) := rfl
theorem kX5_power_19 : lk LX5_power 19 = some (xLdI 20 2) := rfl
theorem kX5_power_20 : lk LX5_power 20 = some (xRet) := rfl
def LX5_lowestTerms : List (Nat × XI) := [(0, xLdI 1 0),
  (1, xLdI 2 1),
  (2, xCallS MX5_commonDivisor 2 5),
  (5, xStI 6 3),
  (6, xLdI 7 1),
  (7, xZ_eq 14 10),
  (10, xLdI 11 3),
  (11, xZ_ne 16 14),
  (14, xLdI 15 2),
  (15, xRet),
  (16, xLdI 17 2),
  (17, xZ_ne 26 20),
  (20, xLdI 21 0),
  (21, xLdI 22 3),
  (22, xDiv 23 f_idiv),
  (23, xGo 29),
  (26, xLdI 27 1),
  (27, xLdI 28 3),
  (28, xDiv 29 f_idiv),
  (29, xRet)]
theorem sX5_lowestTerms_0 : Snd MX5_lowestTerms 0 (xLdI 1 0) := snd_iload_n (M := MX5_lowestTerms) (pc := 0) dX5_lowestTerms_0
theorem sX5_lowestTerms_1 : Snd MX5_lowestTerms 1 (xLdI 2 1) := snd_iload_n (M := MX5_lowestTerms) (pc := 1) dX5_lowestTerms_1
theorem sX5_lowestTerms_2 : Snd MX5_lowestTerms 2 (xCallS MX5_commonDivisor 2 5) := snd_callS (M := MX5_lowestTerms) (pc := 2) (n := 2) dX5_lowestTerms_2 w441 w442 ⟨w115, w440, ⟨by decide, by decide, by decide +kernel⟩, by decide⟩ ⟨rfl, rfl⟩
theorem sX5_lowestTerms_5 : Snd MX5_lowestTerms 5 (xStI 6 3) := snd_istore_n (M := MX5_lowestTerms) (pc := 5) dX5_lowestTerms_5 (by decide)
theorem sX5_lowestTerms_6 : Snd MX5_lowestTerms 6 (xLdI 7 1) := snd_iload_n (M := MX5_lowestTerms) (pc := 6) dX5_lowestTerms_6
theorem sX5_lowestTerms_7 : Snd MX5_lowestTerms 7 (xZ_eq 14 10) := snd_if_eq (M := MX5_lowestTerms) (pc := 7) dX5_lowestTerms_7 (by decide)
theorem sX5_lowestTerms_10 : Snd MX5_lowestTerms 10 (xLdI 11 3) := snd_iload_n (M := MX5_lowestTerms) (pc := 10) dX5_lowestTerms_10
theorem sX5_lowestTerms_11 : Snd MX5_lowestTerms 11 (xZ_ne 16 14) := snd_if_ne (M := MX5_lowestTerms) (pc := 11) dX5_lowestTerms_11 (by decide)
theorem sX5_lowestTerms_14 : Snd MX5_lowestTerms 14 (xLdI 15 2) := snd_iload_n (M := MX5_lowestTerms) (pc := 14) dX5_lowestTerms_14
theorem sX5_lowestTerms_15 : Snd MX5_lowestTerms 15 (xRet) := snd_iret (M := MX5_lowestTerms) (pc := 15) dX5_lowestTerms_15 rfl
theorem sX5_lowestTerms_16 : Snd MX5_lowestTerms 16 (xLdI 17 2) := snd_iload_n (M := MX5_lowestTerms) (pc := 16) dX5_lowestTerms_16
theorem sX5_lowestTerms_17 : Snd MX5_lowestTerms 17 (xZ_ne 26 20) := snd_if_ne (M := MX5_lowestTerms) (pc := 17) dX5_lowestTerms_17 (by decide)
theorem sX5_lowestTerms_20 : Snd MX5_lowestTerms 20 (xLdI 21 0) := snd_iload_n (M := MX5_lowestTerms) (pc := 20) dX5_lowestTerms_20
theorem sX5_lowestTerms_21 : Snd MX5_lowestTerms 21 (xLdI 22 3) := snd_iload_n (M := MX5_lowestTerms) (pc := 21) dX5_lowestTerms_21
theorem sX5_lowestTerms_22 : Snd MX5_lowestTerms 22 (xDiv 23 f_idiv) := snd_idiv (M := MX5_lowestTerms) (pc := 22) dX5_lowestTerms_22
theorem sX5_lowestTerms_23 : Snd MX5_lowestTerms 23 (xGo 29) := snd_goto (M := MX5_lowestTerms) (pc := 23) dX5_lowestTerms_23 (by decide)
theorem sX5_lowestTerms_26 : Snd MX5_lowestTerms 26 (xLdI 27 1) := snd_iload_n (M := MX5_lowestTerms) (pc := 26) dX5_lowestTerms_26
theorem sX5_lowestTerms_27 : Snd MX5_lowestTerms 27 (xLdI 28 3) := snd_iload_n (M := MX5_lowestTerms) (pc := 27) dX5_lowestTerms_27
theorem sX5_lowestTerms_28 : Snd MX5_lowestTerms 28 (xDiv 29 f_idiv) := snd_idiv (M := MX5_lowestTerms) (pc := 28) dX5_lowestTerms_28
theorem sX5_lowestTerms_29 : Snd MX5_lowestTerms 29 (xRet) := snd_iret (M := MX5_lowestTerms) (pc := 29) dX5_lowestTerms_29 rfl
theorem VX5_lowestTerms : Valid MX5_lowestTerms LX5_lowestTerms := va_lid sX5_lowestTerms_0 (va_lid sX5_lowestTerms_1 (va_lid sX5_lowestTerms_2 (va_lid sX5_lowestTerms_5 (va_lid sX5_lowestTerms_6 (va_lid sX5_lowestTerms_7 (va_lid sX5_lowestTerms_10 (va_lid sX5_lowestTerms_11 (va_lid sX5_lowestTerms_14 (va_lid sX5_lowestTerms_15 (va_lid sX5_lowestTerms_16 (va_lid sX5_lowestTerms_17 (va_lid sX5_lowestTerms_20 (va_lid sX5_lowestTerms_21 (va_lid sX5_lowestTerms_22 (va_lid sX5_lowestTerms_23 (va_lid sX5_lowestTerms_26 (va_lid sX5_lowestTerms_27 (va_lid sX5_lowestTerms_28 (va_lid sX5_lowestTerms_29 (va_lid0))))))))))))))))))))
theorem kX5_lowestTerms_0 : lk LX5_lowestTerms 0 = some (xLdI 1 0) := rfl
theorem kX5_lowestTerms_1 : lk LX5_lowestTerms 1 = some (xLdI 2 1) := rfl
theorem kX5_lowestTerms_2 : lk LX5_lowestTerms 2 = some (xCallS MX5_commonDivisor 2 5) := rfl
theorem kX5_lowestTerms_5 : lk LX5_lowestTerms 5 = some (xStI 6 3) := rfl
theorem kX5_lowestTerms_6 : lk LX5_lowestTerms 6 = some (xLdI 7 1) := rfl
theorem kX5_lowestTerms_7 : lk LX5_lowestTerms 7 = some (xZ_eq 14 10) := rfl
theorem kX5_lowestTerms_10 : lk LX5_lowestTerms 10 = some (xLdI 11 3) := rfl
theorem kX5_lowestTerms_11 : lk LX5_lowestTerms 11 = some (xZ_ne 16 14) := rfl
theorem kX5_lowestTerms_14 : lk LX5_lowestTerms 14 = some (xLdI 15 2) := rfl
theorem kX5_lowestTerms_15 : lk LX5_lowestTerms 15 = some (xRet) := rfl
theorem kX5_lowestTerms_16 : lk LX5_lowestTerms 16 = some (xLdI 17 2) := rfl
theorem kX5_lowestTerms_17 : lk LX5_lowestTerms 17 = some (xZ_ne 26 20) := rfl
theorem kX5_lowestTerms_20 : lk LX5_lowestTerms 20 = some (xLdI 21 0) := rfl
theorem kX5_lowestTerms_21 : lk LX5_lowestTerms 21 = some (xLdI 22 3) := rfl
theorem kX5_lowestTerms_22 : lk LX5_lowestTerms 22 = some (xDiv 23 f_idiv) := rfl
theorem kX5_lowestTerms_23 : lk LX5_lowestTerms 23 = some (xGo 29) := rfl
theorem kX5_lowestTerms_26 : lk LX5_lowestTerms 26 = some (xLdI 27 1) := rfl
theorem kX5_lowestTerms_27 : lk LX5_lowestTerms 27 = some (xLdI 28 3) := rfl
theorem kX5_lowestTerms_28 : lk LX5_lowestTerms 28 = some (xDiv 29 f_idiv) := rfl
theorem kX5_lowestTerms_29 : lk LX5_lowestTerms 29 = some (xRet) := rfl
def LX5_commonDivisor : List (Nat × XI) := [(0, xLdI 1 0),
  (1, xStI 2 2),
  (2, xLdI 3 1),
  (3, xStI 4 3),
  (4, xK 5 (nI 0)),
  (5, xStI 7 4),
  (7, xLdI 9 4),
  (9, xK 11 (nI 64)),
  (11, xC_ge 34 14),
  (14, xLdI 15 3),
  (15, xZ_eq 34 18),
  (18, xLdI 19 2),
  (19, xLdI 20 3),
  (20, xDiv 21 f_irem),
  (21, xStI 23 5),
  (23, xLdI 24 3),
  (24, xStI 25 2),
  (25, xLdI 27 5),
  (27, xStI 28 3),
  (28, xInc 31 4 (nI 1)),
  (31, xGo 7),
  (34, xLdI 35 2),
  (35, xRet)]
theorem sX5_commonDivisor_0 : Snd MX5_commonDivisor 0 (xLdI 1 0) := snd_iload_n (M := MX5_commonDivisor) (pc := 0) dX5_commonDivisor_0
theorem sX5_commonDivisor_1 : Snd MX5_commonDivisor 1 (xStI 2 2) := snd_istore_n (M := MX5_commonDivisor) (pc := 1) dX5_commonDivisor_1 (by decide)
theorem sX5_commonDivisor_2 : Snd MX5_commonDivisor 2 (xLdI 3 1) := snd_iload_n (M := MX5_commonDivisor) (pc := 2) dX5_commonDivisor_2
theorem sX5_commonDivisor_3 : Snd MX5_commonDivisor 3 (xStI 4 3) := snd_istore_n (M := MX5_commonDivisor) (pc := 3) dX5_commonDivisor_3 (by decide)
theorem sX5_commonDivisor_4 : Snd MX5_commonDivisor 4 (xK 5 (nI 0)) := snd_iconst (M := MX5_commonDivisor) (pc := 4) dX5_commonDivisor_4 (by decide +kernel)
theorem sX5_commonDivisor_5 : Snd MX5_commonDivisor 5 (xStI 7 4) := snd_istore (M := MX5_commonDivisor) (pc := 5) dX5_commonDivisor_5 (by decide)
theorem sX5_commonDivisor_7 : Snd MX5_commonDivisor 7 (xLdI 9 4) := snd_iload (M := MX5_commonDivisor) (pc := 7) dX5_commonDivisor_7
theorem sX5_commonDivisor_9 : Snd MX5_commonDivisor 9 (xK 11 (nI 64)) := snd_bipush (M := MX5_commonDivisor) (pc := 9) dX5_commonDivisor_9 (by decide +kernel)
theorem sX5_commonDivisor_11 : Snd MX5_commonDivisor 11 (xC_ge 34 14) := snd_icmp_ge (M := MX5_commonDivisor) (pc := 11) dX5_commonDivisor_11 (by decide)
theorem sX5_commonDivisor_14 : Snd MX5_commonDivisor 14 (xLdI 15 3) := snd_iload_n (M := MX5_commonDivisor) (pc := 14) dX5_commonDivisor_14
theorem sX5_commonDivisor_15 : Snd MX5_commonDivisor 15 (xZ_eq 34 18) := snd_if_eq (M := MX5_commonDivisor) (pc := 15) dX5_commonDivisor_15 (by decide)
theorem sX5_commonDivisor_18 : Snd MX5_commonDivisor 18 (xLdI 19 2) := snd_iload_n (M := MX5_commonDivisor) (pc := 18) dX5_commonDivisor_18
theorem sX5_commonDivisor_19 : Snd MX5_commonDivisor 19 (xLdI 20 3) := snd_iload_n (M := MX5_commonDivisor) (pc := 19) dX5_commonDivisor_19
theorem sX5_commonDivisor_20 : Snd MX5_commonDivisor 20 (xDiv 21 f_irem) := snd_irem (M := MX5_commonDivisor) (pc := 20) dX5_commonDivisor_20
theorem sX5_commonDivisor_21 : Snd MX5_commonDivisor 21 (xStI 23 5) := snd_istore (M := MX5_commonDivisor) (pc := 21) dX5_commonDivisor_21 (by decide)
theorem sX5_commonDivisor_23 : Snd MX5_commonDivisor 23 (xLdI 24 3) := snd_iload_n (M := MX5_commonDivisor) (pc := 23) dX5_commonDivisor_23
theorem sX5_commonDivisor_24 : Snd MX5_commonDivisor 24 (xStI 25 2) := snd_istore_n (M := MX5_commonDivisor) (pc := 24) dX5_commonDivisor_24 (by decide)
theorem sX5_commonDivisor_25 : Snd MX5_commonDivisor 25 (xLdI 27 5) := snd_iload (M := MX5_commonDivisor) (pc := 25) dX5_commonDivisor_25
theorem sX5_commonDivisor_27 : Snd MX5_commonDivisor 27 (xStI 28 3) := snd_istore_n (M := MX5_commonDivisor) (pc := 27) dX5_commonDivisor_27 (by decide)
theorem sX5_commonDivisor_28 : Snd MX5_commonDivisor 28 (xInc 31 4 (nI 1)) := snd_iinc (M := MX5_commonDivisor) (pc := 28) dX5_commonDivisor_28 (by decide +kernel) (by decide)
theorem sX5_commonDivisor_31 : Snd MX5_commonDivisor 31 (xGo 7) := snd_goto (M := MX5_commonDivisor) (pc := 31) dX5_commonDivisor_31 (by decide)
theorem sX5_commonDivisor_34 : Snd MX5_commonDivisor 34 (xLdI 35 2) := snd_iload_n (M := MX5_commonDivisor) (pc := 34) dX5_commonDivisor_34
theorem sX5_commonDivisor_35 : Snd MX5_commonDivisor 35 (xRet) := snd_iret (M := MX5_commonDivisor) (pc := 35) dX5_commonDivisor_35 rfl
theorem VX5_commonDivisor : Valid MX5_commonDivisor LX5_commonDivisor := va_lid sX5_commonDivisor_0 (va_lid sX5_commonDivisor_1 (va_lid sX5_commonDivisor_2 (va_lid sX5_commonDivisor_3 (va_lid sX5_commonDivisor_4 (va_lid sX5_commonDivisor_5 (va_lid sX5_commonDivisor_7 (va_lid sX5_commonDivisor_9 (va_lid sX5_commonDivisor_11 (va_lid sX5_commonDivisor_14 (va_lid sX5_commonDivisor_15 (va_lid sX5_commonDivisor_18 (va_lid sX5_commonDivisor_19 (va_lid sX5_commonDivisor_20 (va_lid sX5_commonDivisor_21 (va_lid sX5_commonDivisor_23 (va_lid sX5_commonDivisor_24 (va_lid sX5_commonDivisor_25 (va_lid sX5_commonDivisor_27 (va_lid sX5_commonDivisor_28 (va_lid sX5_commonDivisor_31 (va_lid sX5_commonDivisor_34 (va_lid sX5_commonDivisor_35 (va_lid0)))))))))))))))))))))))
theorem kX5_commonDivisor_0 : lk LX5_commonDivisor 0 = some (xLdI 1 0) := rfl
theorem kX5_commonDivisor_1 : lk LX5_commonDivisor 1 = some (xStI 2 2) := rfl
theorem kX5_commonDivisor_2 : lk LX5_commonDivisor 2 = some (xLdI 3 1) := rfl
theorem kX5_commonDivisor_3 : lk LX5_commonDivisor 3 = some (xStI 4 3) := rfl
theorem kX5_commonDivisor_4 : lk LX5_commonDivisor 4 = some (xK 5 (nI 0)) := rfl
theorem kX5_commonDivisor_5 : lk LX5_commonDivisor 5 = some (xStI 7 4) := rfl
theorem kX5_commonDivisor_7 : lk LX5_commonDivisor 7 = some (xLdI 9 4) := rfl
theorem kX5_commonDivisor_9 : lk LX5_commonDivisor 9 = some (xK 11 (nI 64)) := rfl
theorem kX5_commonDivisor_11 : lk LX5_commonDivisor 11 = some (xC_ge 34 14) := rfl
theorem kX5_commonDivisor_14 : lk LX5_commonDivisor 14 = some (xLdI 15 3) := rfl
theorem kX5_commonDivisor_15 : lk LX5_commonDivisor 15 = some (xZ_eq 34 18) := rfl
theorem kX5_commonDivisor_18 : lk LX5_commonDivisor 18 = some (xLdI 19 2) := rfl
theorem kX5_commonDivisor_19 : lk LX5_commonDivisor 19 = some (xLdI 20 3) := rfl
theorem kX5_commonDivisor_20 : lk LX5_commonDivisor 20 = some (xDiv 21 f_irem) := rfl
theorem kX5_commonDivisor_21 : lk LX5_commonDivisor 21 = some (xStI 23 5) := rfl
theorem kX5_commonDivisor_23 : lk LX5_commonDivisor 23 = some (xLdI 24 3) := rfl
theorem kX5_commonDivisor_24 : lk LX5_commonDivisor 24 = some (xStI 25 2) := rfl
theorem kX5_commonDivisor_25 : lk LX5_commonDivisor 25 = some (xLdI 27 5) := rfl
theorem kX5_commonDivisor_27 : lk LX5_commonDivisor 27 = some (xStI 28 3) := rfl
theorem kX5_commonDivisor_28 : lk LX5_commonDivisor 28 = some (xInc 31 4 (nI 1)) := rfl
theorem kX5_commonDivisor_31 : lk LX5_commonDivisor 31 = some (xGo 7) := rfl
theorem kX5_commonDivisor_34 : lk LX5_commonDivisor 34 = some (xLdI 35 2) := rfl
theorem kX5_commonDivisor_35 : lk LX5_commonDivisor 35 = some (xRet) := rfl
def LJ6_bitCount_0f7a4 : List (Nat × XI) := [(0, xLdI 1 0),
  (1, xLdI 2 0),
  (2, xK 3 (nI 1)),
  (3, xBin 4 f_iushr),
  (4, xK 7 (nI 1431655765)),
  (7, xBin 8 f_iand),
  (8, xBin 9 f_isub),
  (9, xStI 10 0),
  (10, xLdI 11 0),
  (11, xK 14 (nI 858993459)),
  (14, xBin 15 f_iand),
  (15, xLdI 16 0),
  (16, xK 17 (nI 2)),
  (17, xBin 18 f_iushr),
  (18, xK 21 (nI 858993459)),
  (21, xBin 22 f_iand),
  (22, xBin 23 f_iadd),
  (23, xStI 24 0),
  (24, xLdI 25 0),
  (25, xLdI 26 0),
  (26, xK 27 (nI 4)),
  (27, xBin 28 f_iushr),
  (28, xBin 29 f_iadd),
  (29, xK 32 (nI 252645135)),
  (32, xBin 33 f_iand),
  (33, xStI 34 0),
  (34, xLdI 35 0),
  (35, xLdI 36 0),
  (36, xK 38 (nI 8)),
  (38, xBin 39 f_iushr),
  (39, xBin 40 f_iadd),
  (40, xStI 41 0),
  (41, xLdI 42 0),
  (42, xLdI 43 0),
  (43, xK 45 (nI 16)),
  (45, xBin 46 f_iushr),
  (46, xBin 47 f_iadd),
  (47, xStI 48 0),
  (48, xLdI 49 0),
  (49, xK 51 (nI 63)),
  (51, xBin 52 f_iand),
  (52, xRet)]
theorem sJ6_bitCount_0f7a4_0 : Snd MJ6_bitCount_0f7a4 0 (xLdI 1 0) := snd_iload_n (M := MJ6_bitCount_0f7a4) (pc := 0) dJ6_bitCount_0f7a4_0
theorem sJ6_bitCount_0f7a4_1 : Snd MJ6_bitCount_0f7a4 1 (xLdI 2 0) := snd_iload_n (M := MJ6_bitCount_0f7a4) (pc := 1) dJ6_bitCount_0f7a4_1
theorem sJ6_bitCount_0f7a4_2 : Snd MJ6_bitCount_0f7a4 2 (xK 3 (nI 1)) := snd_iconst (M := MJ6_bitCount_0f7a4) (pc := 2) dJ6_bitCount_0f7a4_2 (by decide +kernel)
theorem sJ6_bitCount_0f7a4_3 : Snd MJ6_bitCount_0f7a4 3 (xBin 4 f_iushr) := snd_iushr (M := MJ6_bitCount_0f7a4) (pc := 3) dJ6_bitCount_0f7a4_3
theorem sJ6_bitCount_0f7a4_4 : Snd MJ6_bitCount_0f7a4 4 (xK 7 (nI 1431655765)) := snd_ldcw (M := MJ6_bitCount_0f7a4) (pc := 4) dJ6_bitCount_0f7a4_4 w632
theorem sJ6_bitCount_0f7a4_7 : Snd MJ6_bitCount_0f7a4 7 (xBin 8 f_iand) := snd_iand (M := MJ6_bitCount_0f7a4) (pc := 7) dJ6_bitCount_0f7a4_7
theorem sJ6_bitCount_0f7a4_8 : Snd MJ6_bitCount_0f7a4 8 (xBin 9 f_isub) := snd_isub (M := MJ6_bitCount_0f7a4) (pc := 8) dJ6_bitCount_0f7a4_8
theorem sJ6_bitCount_0f7a4_9 : Snd MJ6_bitCount_0f7a4 9 (xStI 10 0) := snd_istore_n (M := MJ6_bitCount_0f7a4) (pc := 9) dJ6_bitCount_0f7a4_9 (by decide)
theorem sJ6_bitCount_0f7a4_10 : Snd MJ6_bitCount_0f7a4 10 (xLdI 11 0) := snd_iload_n (M := MJ6_bitCount_0f7a4) (pc := 10) dJ6_bitCount_0f7a4_10
theorem sJ6_bitCount_0f7a4_11 : Snd MJ6_bitCount_0f7a4 11 (xK 14 (nI 858993459)) := snd_ldcw (M := MJ6_bitCount_0f7a4) (pc := 11) dJ6_bitCount_0f7a4_11 w633
theorem sJ6_bitCount_0f7a4_14 : Snd MJ6_bitCount_0f7a4 14 (xBin 15 f_iand) := snd_iand (M := MJ6_bitCount_0f7a4) (pc := 14) dJ6_bitCount_0f7a4_14
theorem sJ6_bitCount_0f7a4_15 : Snd MJ6_bitCount_0f7a4 15 (xLdI 16 0) := snd_iload_n (M := MJ6_bitCount_0f7a4) (pc := 15) dJ6_bitCount_0f7a4_15
theorem sJ6_bitCount_0f7a4_16 : Snd MJ6_bitCount_0f7a4 16 (xK 17 (nI 2)) := snd_iconst (M := MJ6_bitCount_0f7a4) (pc := 16) dJ6_bitCount_0f7a4_16 (by decide +kernel)
theorem sJ6_bitCount_0f7a4_17 : Snd MJ6_bitCount_0f7a4 17 (xBin 18 f_iushr) := snd_iushr (M := MJ6_bitCount_0f7a4) (pc := 17) dJ6_bitCount_0f7a4_17
theorem sJ6_bitCount_0f7a4_18 : Snd MJ6_bitCount_0f7a4 18 (xK 21 (nI 858993459)) := snd_ldcw (M := MJ6_bitCount_0f7a4) (pc := 18) dJ6_bitCount_0f7a4_18 w633
theorem sJ6_bitCount_0f7a4_21 : Snd MJ6_bitCount_0f7a4 21 (xBin 22 f_iand) := snd_iand (M := MJ6_bitCount_0f7a4) (pc := 21) dJ6_bitCount_0f7a4_21
theorem sJ6_bitCount_0f7a4_22 : Snd MJ6_bitCount_0f7a4 22 (xBin 23 f_iadd) := snd_iadd (M := MJ6_bitCount_0f7a4) (pc := 22) dJ6_bitCount_0f7a4_22
theorem sJ6_bitCount_0f7a4_23 : Snd MJ6_bitCount_0f7a4 23 (xStI 24 0) := snd_istore_n (M := MJ6_bitCount_0f7a4) (pc := 23) dJ6_bitCount_0f7a4_23 (by decide)
theorem sJ6_bitCount_0f7a4_24 : Snd MJ6_bitCount_0f7a4 24 (xLdI 25 0) := snd_iload_n (M := MJ6_bitCount_0f7a4) (pc := 24) dJ6_bitCount_0f7a4_24
theorem sJ6_bitCount_0f7a4_25 : Snd MJ6_bitCount_0f7a4 25 (xLdI 26 0) := snd_iload_n (M := MJ6_bitCount_0f7a4) (pc := 25) dJ6_bitCount_0f7a4_25
theorem sJ6_bitCount_0f7a4_26 : Snd MJ6_bitCount_0f7a4 26 (xK 27 (nI 4)) := snd_iconst (M := MJ6_bitCount_0f7a4) (pc := 26) dJ6_bitCount_0f7a4_26 (by decide +kernel)
theorem sJ6_bitCount_0f7a4_27 : Snd MJ6_bitCount_0f7a4 27 (xBin 28 f_iushr) := snd_iushr (M := MJ6_bitCount_0f7a4) (pc := 27) dJ6_bitCount_0f7a4_27
theorem sJ6_bitCount_0f7a4_28 : Snd MJ6_bitCount_0f7a4 28 (xBin 29 f_iadd) := snd_iadd (M := MJ6_bitCount_0f7a4) (pc := 28) dJ6_bitCount_0f7a4_28
theorem sJ6_bitCount_0f7a4_29 : Snd MJ6_bitCount_0f7a4 29 (xK 32 (nI 252645135)) := snd_ldcw (M := MJ6_bitCount_0f7a4) (pc := 29) dJ6_bitCount_0f7a4_29 w634
theorem sJ6_bitCount_0f7a4_32 : Snd MJ6_bitCount_0f7a4 32 (xBin 33 f_iand) := snd_iand (M := MJ6_bitCount_0f7a4) (pc := 32) dJ6_bitCount_0f7a4_32
theorem sJ6_bitCount_0f7a4_33 : Snd MJ6_bitCount_0f7a4 33 (xStI 34 0) := snd_istore_n (M := MJ6_bitCount_0f7a4) (pc := 33) dJ6_bitCount_0f7a4_33 (by decide)
theorem sJ6_bitCount_0f7a4_34 : Snd MJ6_bitCount_0f7a4 34 (xLdI 35 0) := snd_iload_n (M := MJ6_bitCount_0f7a4) (pc := 34) dJ6_bitCount_0f7a4_34
theorem sJ6_bitCount_0f7a4_35 : Snd MJ6_bitCount_0f7a4 35 (xLdI 36 0) := snd_iload_n (M := MJ6_bitCount_0f7a4) (pc := 35) dJ6_bitCount_0f7a4_35
theorem sJ6_bitCount_0f7a4_36 : Snd MJ6_bitCount_0f7a4 36 (xK 38 (nI 8)) := snd_bipush (M := MJ6_bitCount_0f7a4) (pc := 36) dJ6_bitCount_0f7a4_36 (by decide +kernel)
theorem sJ6_bitCount_0f7a4_38 : Snd MJ6_bitCount_0f7a4 38 (xBin 39 f_iushr) := snd_iushr (M := MJ6_bitCount_0f7a4) (pc := 38) dJ6_bitCount_0f7a4_38
theorem sJ6_bitCount_0f7a4_39 : Snd MJ6_bitCount_0f7a4 39 (xBin 40 f_iadd) := snd_iadd (M := MJ6_bitCount_0f7a4) (pc := 39) dJ6_bitCount_0f7a4_39
theorem sJ6_bitCount_0f7a4_40 : Snd MJ6_bitCount_0f7a4 40 (xStI 41 0) := snd_istore_n (M := MJ6_bitCount_0f7a4) (pc := 40) dJ6_bitCount_0f7a4_40 (by decide)
theorem sJ6_bitCount_0f7a4_41 : Snd MJ6_bitCount_0f7a4 41 (xLdI 42 0) := snd_iload_n (M := MJ6_bitCount_0f7a4) (pc := 41) dJ6_bitCount_0f7a4_41
theorem sJ6_bitCount_0f7a4_42 : Snd MJ6_bitCount_0f7a4 42 (xLdI 43 0) := snd_iload_n (M := MJ6_bitCount_0f7a4) (pc := 42) dJ6_bitCount_0f7a4_42
theorem sJ6_bitCount_0f7a4_43 : Snd MJ6_bitCount_0f7a4 43 (xK 45 (nI 16)) := snd_bipush (M := MJ6_bitCount_0f7a4) (pc := 43) dJ6_bitCount_0f7a4_43 (by decide +kernel)
theorem sJ6_bitCount_0f7a4_45 : Snd MJ6_bitCount_0f7a4 45 (xBin 46 f_iushr) := snd_iushr (M := MJ6_bitCount_0f7a4) (pc := 45) dJ6_bitCount_0f7a4_45
theorem sJ6_bitCount_0f7a4_46 : Snd MJ6_bitCount_0f7a4 46 (xBin 47 f_iadd) := snd_iadd (M := MJ6_bitCount_0f7a4) (pc := 46) dJ6_bitCount_0f7a4_46
theorem sJ6_bitCount_0f7a4_47 : Snd MJ6_bitCount_0f7a4 47 (xStI 48 0) := snd_istore_n (M := MJ6_bitCount_0f7a4) (pc := 47) dJ6_bitCount_0f7a4_47 (by decide)
theorem sJ6_bitCount_0f7a4_48 : Snd MJ6_bitCount_0f7a4 48 (xLdI 49 0) := snd_iload_n (M := MJ6_bitCount_0f7a4) (pc := 48) dJ6_bitCount_0f7a4_48
theorem sJ6_bitCount_0f7a4_49 : Snd MJ6_bitCount_0f7a4 49 (xK 51 (nI 63)) := snd_bipush (M := MJ6_bitCount_0f7a4) (pc := 49) dJ6_bitCount_0f7a4_49 (by decide +kernel)
theorem sJ6_bitCount_0f7a4_51 : Snd MJ6_bitCount_0f7a4 51 (xBin 52 f_iand) := snd_iand (M := MJ6_bitCount_0f7a4) (pc := 51) dJ6_bitCount_0f7a4_51
theorem sJ6_bitCount_0f7a4_52 : Snd MJ6_bitCount_0f7a4 52 (xRet) := snd_iret (M := MJ6_bitCount_0f7a4) (pc := 52) dJ6_bitCount_0f7a4_52 rfl
theorem VJ6_bitCount_0f7a4 : Valid MJ6_bitCount_0f7a4 LJ6_bitCount_0f7a4 := va_lid sJ6_bitCount_0f7a4_0 (va_lid sJ6_bitCount_0f7a4_1 (va_lid sJ6_bitCount_0f7a4_2 (va_lid sJ6_bitCount_0f7a4_3 (va_lid sJ6_bitCount_0f7a4_4 (va_lid sJ6_bitCount_0f7a4_7 (va_lid sJ6_bitCount_0f7a4_8 (va_lid sJ6_bitCount_0f7a4_9 (va_lid sJ6_bitCount_0f7a4_10 (va_lid sJ6_bitCount_0f7a4_11 (va_lid sJ6_bitCount_0f7a4_14 (va_lid sJ6_bitCount_0f7a4_15 (va_lid sJ6_bitCount_0f7a4_16 (va_lid sJ6_bitCount_0f7a4_17 (va_lid sJ6_bitCount_0f7a4_18 (va_lid sJ6_bitCount_0f7a4_21 (va_lid sJ6_bitCount_0f7a4_22 (va_lid sJ6_bitCount_0f7a4_23 (va_lid sJ6_bitCount_0f7a4_24 (va_lid sJ6_bitCount_0f7a4_25 (va_lid sJ6_bitCount_0f7a4_26 (va_lid sJ6_bitCount_0f7a4_27 (va_lid sJ6_bitCount_0f7a4_28 (va_lid sJ6_bitCount_0f7a4_29 (va_lid sJ6_bitCount_0f7a4_32 (va_lid sJ6_bitCount_0f7a4_33 (va_lid sJ6_bitCount_0f7a4_34 (va_lid sJ6_bitCount_0f7a4_35 (va_lid sJ6_bitCount_0f7a4_36 (va_lid sJ6_bitCount_0f7a4_38 (va_lid sJ6_bitCount_0f7a4_39 (va_lid sJ6_bitCount_0f7a4_40 (va_lid sJ6_bitCount_0f7a4_41 (va_lid sJ6_bitCount_0f7a4_42 (va_lid sJ6_bitCount_0f7a4_43 (va_lid sJ6_bitCount_0f7a4_45 (va_lid sJ6_bitCount_0f7a4_46 (va_lid sJ6_bitCount_0f7a4_47 (va_lid sJ6_bitCount_0f7a4_48 (va_lid sJ6_bitCount_0f7a4_49 (va_lid sJ6_bitCount_0f7a4_51 (va_lid sJ6_bitCount_0f7a4_52 (va_lid0))))))))))))))))))))))))))))))))))))))))))
theorem kJ6_bitCount_0f7a4_0 : lk LJ6_bitCount_0f7a4 0 = some (xLdI 1 0) := rfl
theorem kJ6_bitCount_0f7a4_1 : lk LJ6_bitCount_0f7a4 1 = some (xLdI 2 0) := rfl
theorem kJ6_bitCount_0f7a4_2 : lk LJ6_bitCount_0f7a4 2 = some (xK 3 (nI 1)) := rfl
theorem kJ6_bitCount_0f7a4_3 : lk LJ6_bitCount_0f7a4 3 = some (xBin 4 f_iushr) := rfl
theorem kJ6_bitCount_0f7a4_4 : lk LJ6_bitCount_0f7a4 4 = some (xK 7 (nI 1431655765)) := rfl
theorem kJ6_bitCount_0f7a4_7 : lk LJ6_bitCount_0f7a4 7 = some (xBin 8 f_iand) := rfl
theorem kJ6_bitCount_0f7a4_8 : lk LJ6_bitCount_0f7a4 8 = some (xBin 9 f_isub) := rfl
theorem kJ6_bitCount_0f7a4_9 : lk LJ6_bitCount_0f7a4 9 = some (xStI 10 0) := rfl
theorem kJ6_bitCount_0f7a4_10 : lk LJ6_bitCount_0f7a4 10 = some (xLdI 11 0) := rfl
theorem kJ6_bitCount_0f7a4_11 : lk LJ6_bitCount_0f7a4 11 = some (xK 14 (nI 858993459)) := rfl
theorem kJ6_bitCount_0f7a4_14 : lk LJ6_bitCount_0f7a4 14 = some (xBin 15 f_iand) := rfl
theorem kJ6_bitCount_0f7a4_15 : lk LJ6_bitCount_0f7a4 15 = some (xLdI 16 0) := rfl
theorem kJ6_bitCount_0f7a4_16 : lk LJ6_bitCount_0f7a4 16 = some (xK 17 (nI 2)) := rfl
theorem kJ6_bitCount_0f7a4_17 : lk LJ6_bitCount_0f7a4 17 = some (xBin 18 f_iushr) := rfl
theorem kJ6_bitCount_0f7a4_18 : lk LJ6_bitCount_0f7a4 18 = some (xK 21 (nI 858993459)) := rfl
theorem kJ6_bitCount_0f7a4_21 : lk LJ6_bitCount_0f7a4 21 = some (xBin 22 f_iand) := rfl
theorem kJ6_bitCount_0f7a4_22 : lk LJ6_bitCount_0f7a4 22 = some (xBin 23 f_iadd) := rfl
theorem kJ6_bitCount_0f7a4_23 : lk LJ6_bitCount_0f7a4 23 = some (xStI 24 0) := rfl
theorem kJ6_bitCount_0f7a4_24 : lk LJ6_bitCount_0f7a4 24 = some (xLdI 25 0) := rfl
theorem kJ6_bitCount_0f7a4_25 : lk LJ6_bitCount_0f7a4 25 = some (xLdI 26 0) := rfl
theorem kJ6_bitCount_0f7a4_26 : lk LJ6_bitCount_0f7a4 26 = some (xK 27 (nI 4)) := rfl
theorem kJ6_bitCount_0f7a4_27 : lk LJ6_bitCount_0f7a4 27 = some (xBin 28 f_iushr) := rfl
theorem kJ6_bitCount_0f7a4_28 : lk LJ6_bitCount_0f7a4 28 = some (xBin 29 f_iadd) := rfl
theorem kJ6_bitCount_0f7a4_29 : lk LJ6_bitCount_0f7a4 29 = some (xK 32 (nI 252645135)) := rfl
theorem kJ6_bitCount_0f7a4_32 : lk LJ6_bitCount_0f7a4 32 = some (xBin 33 f_iand) := rfl
theorem kJ6_bitCount_0f7a4_33 : lk LJ6_bitCount_0f7a4 33 = some (xStI 34 0) := rfl
theorem kJ6_bitCount_0f7a4_34 : lk LJ6_bitCount_0f7a4 34 = some (xLdI 35 0) := rfl
theorem kJ6_bitCount_0f7a4_35 : lk LJ6_bitCount_0f7a4 35 = some (xLdI 36 0) := rfl
theorem kJ6_bitCount_0f7a4_36 : lk LJ6_bitCount_0f7a4 36 = some (xK 38 (nI 8)) := rfl
theorem kJ6_bitCount_0f7a4_38 : lk LJ6_bitCount_0f7a4 38 = some (xBin 39 f_iushr) := rfl
theorem kJ6_bitCount_0f7a4_39 : lk LJ6_bitCount_0f7a4 39 = some (xBin 40 f_iadd) := rfl
theorem kJ6_bitCount_0f7a4_40 : lk LJ6_bitCount_0f7a4 40 = some (xStI 41 0) := rfl
theorem kJ6_bitCount_0f7a4_41 : lk LJ6_bitCount_0f7a4 41 = some (xLdI 42 0) := rfl
theorem kJ6_bitCount_0f7a4_42 : lk LJ6_bitCount_0f7a4 42 = some (xLdI 43 0) := rfl
theorem kJ6_bitCount_0f7a4_43 : lk LJ6_bitCount_0f7a4 43 = some (xK 45 (nI 16)) := rfl
theorem kJ6_bitCount_0f7a4_45 : lk LJ6_bitCount_0f7a4 45 = some (xBin 46 f_iushr) := rfl
theorem kJ6_bitCount_0f7a4_46 : lk LJ6_bitCount_0f7a4 46 = some (xBin 47 f_iadd) := rfl
theorem kJ6_bitCount_0f7a4_47 : lk LJ6_bitCount_0f7a4 47 = some (xStI 48 0) := rfl
theorem kJ6_bitCount_0f7a4_48 : lk LJ6_bitCount_0f7a4 48 = some (xLdI 49 0) := rfl
theorem kJ6_bitCount_0f7a4_49 : lk LJ6_bitCount_0f7a4 49 = some (xK 51 (nI 63)) := rfl
theorem kJ6_bitCount_0f7a4_51 : lk LJ6_bitCount_0f7a4 51 = some (xBin 52 f_iand) := rfl
theorem kJ6_bitCount_0f7a4_52 : lk LJ6_bitCount_0f7a4 52 = some (xRet) := rfl
