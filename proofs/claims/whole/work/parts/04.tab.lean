/-! the tables of the tiny machine, by program (wip/whole/gen_tab.py) out of the claim's words -/
abbrev iX0_init : Nat := 0
abbrev iX0_firstWeather : Nat := 1
abbrev iX0_breadth : Nat := 2
abbrev iX0_shares : Nat := 3
abbrev iX0_says : Nat := 4
abbrev iX1_init : Nat := 5
abbrev iX1_addByte : Nat := 6
abbrev iX1_readInto : Nat := 7
abbrev iX1_readThing : Nat := 8
abbrev iX1_kindNamed : Nat := 9
abbrev iX1_readSayer : Nat := 10
abbrev iX1_readSaying : Nat := 11
abbrev iX1_readDay : Nat := 12
abbrev iX1_readWeights : Nat := 13
abbrev iX1_takeWorthName : Nat := 14
abbrev iX1_takeSemicolon : Nat := 15
abbrev iX1_takeNumber : Nat := 16
abbrev iX1_valueOfNext : Nat := 17
abbrev iX1_isName : Nat := 18
abbrev iX1_step : Nat := 19
abbrev iX1_sortOf : Nat := 20
abbrev iX2_init : Nat := 21
abbrev iX2_chosenDay : Nat := 22
abbrev iX2_waits : Nat := 23
abbrev iX3_init : Nat := 24
abbrev iX3_chosenDay : Nat := 25
abbrev iX3_says : Nat := 26
abbrev iX3_tells : Nat := 27
abbrev iX4_init : Nat := 28
abbrev iX4_chosenDay : Nat := 29
abbrev iX4_firstWeather : Nat := 30
abbrev iX4_breadth : Nat := 31
abbrev iX4_says : Nat := 32
abbrev iX4_waits : Nat := 33
abbrev iX4_shares : Nat := 34
abbrev iX4_tells : Nat := 35
abbrev iX5_init : Nat := 36
abbrev iX5_narrowed : Nat := 37
abbrev iX6_init : Nat := 38
abbrev iX6_chosenDay : Nat := 39
abbrev iX6_says : Nat := 40
abbrev iX6_waits : Nat := 41
abbrev iX7_init : Nat := 42
abbrev iX7_chosenDay : Nat := 43
abbrev iX7_firstWeather : Nat := 44
abbrev iX7_tells : Nat := 45
abbrev iX7_shares : Nat := 46
abbrev iX8_init : Nat := 47
abbrev iX8_clear : Nat := 48
abbrev iX8_begin : Nat := 49
abbrev iX9_init : Nat := 50
abbrev iX9_forgetAll : Nat := 51
abbrev iX9_forgetDay : Nat := 52
abbrev iX9_become : Nat := 53
abbrev iX9_isOver : Nat := 54
abbrev iX9_weightWith : Nat := 55
abbrev iX9_allWith : Nat := 56
abbrev iX9_weightOf : Nat := 57
abbrev iX9_allOf : Nat := 58
abbrev iX9_earn : Nat := 59
abbrev iX9_likeliest : Nat := 60
abbrev iX9_lastOpenDay : Nat := 61
abbrev iX9_sayerAt : Nat := 62
abbrev iX9_addSayer : Nat := 63
abbrev iX9_isSaid : Nat := 64
abbrev iX9_room : Nat := 65
abbrev iX9_addSaying : Nat := 66
abbrev iX9_sellSaying : Nat := 67
abbrev iX9_sayingsOf : Nat := 68
abbrev iX9_isRight : Nat := 69
abbrev iX9_overOf : Nat := 70
abbrev iX9_rightOf : Nat := 71
abbrev iX9_ownerOf : Nat := 72
abbrev iX9_pursesTogether : Nat := 73
abbrev iX9_dayToSay : Nat := 74
abbrev iX9_sayingsAtOnce : Nat := 75
abbrev iX9_dawn : Nat := 76
abbrev iX9_letSpeak : Nat := 77
abbrev iX9_drawn : Nat := 78
abbrev iX9_settle : Nat := 79
abbrev iX9_latestMorning : Nat := 80
abbrev iX9_takingsTimesAll : Nat := 81
abbrev iX9_gainTimesAll : Nat := 82
abbrev iX9_bestTimesAll : Nat := 83
abbrev iX9_bestPlace : Nat := 84
abbrev iX9_owedFor : Nat := 85
abbrev iX10_init : Nat := 86
abbrev iX10_feed : Nat := 87
abbrev iX10_clerk : Nat := 88
abbrev iX10_worth : Nat := 89
abbrev iX10_weigh : Nat := 90
abbrev iX10_sign : Nat := 91
abbrev iX10_dayOf : Nat := 92
abbrev iX10_set : Nat := 93
abbrev iX10_sayer : Nat := 94
abbrev iX10_sayerOf : Nat := 95
abbrev iX10_mind : Nat := 96
abbrev iX10_purse : Nat := 97
abbrev iX10_say : Nat := 98
abbrev iX10_sayingOf : Nat := 99
abbrev iX10_would : Nat := 100
abbrev iX10_morning : Nat := 101
abbrev iX10_now : Nat := 102
abbrev iX10_owner : Nat := 103
abbrev iX10_odds : Nat := 104
abbrev iX10_gain : Nat := 105
abbrev iX10_waited : Nat := 106
abbrev iX10_best : Nat := 107
abbrev iX10_whole : Nat := 108
abbrev iX10_owed : Nat := 109
abbrev iX10_believed : Nat := 110
abbrev iX10_whom : Nat := 111
abbrev iX10_open : Nat := 112
abbrev iX10_seed : Nat := 113
abbrev iX10_prove : Nat := 114
abbrev iX10_row : Nat := 115
abbrev iX10_alterRow : Nat := 116
abbrev iX10_judge : Nat := 117
abbrev iX10_worths : Nat := 118
abbrev iX10_sheet : Nat := 119
abbrev iX10_put : Nat := 120
abbrev iX10_item : Nat := 121
abbrev iX10_shelf : Nat := 122
abbrev iX10_taken : Nat := 123
abbrev iX10_act : Nat := 124
abbrev iX10_trace : Nat := 125
abbrev iX10_many : Nat := 126
abbrev iX10_keep : Nat := 127
abbrev iX10_again : Nat := 128
abbrev iX10_isDay : Nat := 129
abbrev iX10_isComing : Nat := 130
abbrev iX10_isWeather : Nat := 131
abbrev iX10_isKind : Nat := 132
abbrev iX10_isA : Nat := 133
abbrev iX10_isPart : Nat := 134
abbrev iX10_isSheet : Nat := 135
abbrev iX10_isShelf : Nat := 136
abbrev iX10_isInRow : Nat := 137
abbrev iX10_orNotYet : Nat := 138
abbrev iX10_partOf : Nat := 139
abbrev iX10_commonDivisor : Nat := 140
abbrev iX10_isUnder : Nat := 141
abbrev iX10_thingOf : Nat := 142
abbrev iX11_init : Nat := 143
abbrev iX11_in : Nat := 144
abbrev iX11_isDay : Nat := 145
abbrev iX11_isWeather : Nat := 146
abbrev iX11_isSayer : Nat := 147
abbrev iX11_isSide : Nat := 148
abbrev iX11_its : Nat := 149
abbrev iX11_saying : Nat := 150
abbrev iX11_kindOf : Nat := 151
abbrev iX11_aOf : Nat := 152
abbrev iX11_feed : Nat := 153
abbrev iX11_byteAt : Nat := 154
abbrev iX11_isLetter : Nat := 155
abbrev iX11_isDigit : Nat := 156
abbrev iX11_advance : Nat := 157
abbrev iX11_isWord : Nat := 158
abbrev iX11_isMark : Nat := 159
abbrev iX11_kindHere : Nat := 160
abbrev iX11_wantNumber : Nat := 161
abbrev iX11_wantWord : Nat := 162
abbrev iX11_wantEnd : Nat := 163
abbrev iX11_wantDay : Nat := 164
abbrev iX11_isFreshSaid : Nat := 165
abbrev iX11_wantSaying : Nat := 166
abbrev iX11_wantSayer : Nat := 167
abbrev iX11_wantClause : Nat := 168
abbrev iX11_clerk : Nat := 169
abbrev iX11_becomes : Nat := 170
abbrev iX11_worth : Nat := 171
abbrev iX11_weigh : Nat := 172
abbrev iX11_plainAll : Nat := 173
abbrev iX11_sign : Nat := 174
abbrev iX11_weightOf : Nat := 175
abbrev iX11_allOf : Nat := 176
abbrev iX11_earn : Nat := 177
abbrev iX11_likeliest : Nat := 178
abbrev iX11_saidOf : Nat := 179
abbrev iX11_orNot : Nat := 180
abbrev iX11_dayOf : Nat := 181
abbrev iX11_set : Nat := 182
abbrev iX11_sayer : Nat := 183
abbrev iX11_sayerOf : Nat := 184
abbrev iX11_mind : Nat := 185
abbrev iX11_purse : Nat := 186
abbrev iX11_says : Nat := 187
abbrev iX11_say : Nat := 188
abbrev iX11_sayingOf : Nat := 189
abbrev iX11_one : Nat := 190
abbrev iX11_lastOpen : Nat := 191
abbrev iX11_findSaying : Nat := 192
abbrev iX11_would : Nat := 193
abbrev iX11_drawn : Nat := 194
abbrev iX11_morningGoes : Nat := 195
abbrev iX11_morning : Nat := 196
abbrev iX11_now : Nat := 197
abbrev iX11_owner : Nat := 198
abbrev iX11_lowest : Nat := 199
abbrev iX11_toldPart : Nat := 200
abbrev iX11_isComing : Nat := 201
abbrev iX11_odds : Nat := 202
abbrev iX11_gainBy : Nat := 203
abbrev iX11_gain : Nat := 204
abbrev iX11_bestBy : Nat := 205
abbrev iX11_waited : Nat := 206
abbrev iX11_best : Nat := 207
abbrev iX11_whole : Nat := 208
abbrev iX11_owed : Nat := 209
abbrev iX11_findRight : Nat := 210
abbrev iX11_believed : Nat := 211
abbrev iX11_whom : Nat := 212
abbrev iX11_open : Nat := 213
abbrev iX11_seed : Nat := 214
abbrev iX11_findRows : Nat := 215
abbrev iX11_prove : Nat := 216
abbrev iX11_isRow : Nat := 217
abbrev iX11_row : Nat := 218
abbrev iX11_alterRow : Nat := 219
abbrev iX11_judge : Nat := 220
abbrev iX11_worths : Nat := 221
abbrev iX11_isShelf : Nat := 222
abbrev iX11_sheet : Nat := 223
abbrev iX11_put : Nat := 224
abbrev iX11_lacksSort : Nat := 225
abbrev iX11_item : Nat := 226
abbrev iX11_isHeld : Nat := 227
abbrev iX11_shelf : Nat := 228
abbrev iX11_kindOn : Nat := 229
abbrev iX11_isUnder : Nat := 230
abbrev iX11_taken : Nat := 231
abbrev iX11_ran : Nat := 232
abbrev iX11_plainSays : Nat := 233
abbrev iX11_lateSays : Nat := 234
abbrev iX11_saysIt : Nat := 235
abbrev iX11_plainWaits : Nat := 236
abbrev iX11_waitsIt : Nat := 237
abbrev iX11_plainShares : Nat := 238
abbrev iX11_sharesIt : Nat := 239
abbrev iX11_plainTells : Nat := 240
abbrev iX11_tellsIt : Nat := 241
abbrev iX11_act : Nat := 242
abbrev iX11_trace : Nat := 243
abbrev iX11_many : Nat := 244
abbrev iX11_moveRow : Nat := 245
abbrev iX11_moveAll : Nat := 246
abbrev iX11_keep : Nat := 247
abbrev iX11_again : Nat := 248
abbrev iJ9_abs_067f4 : Nat := 249
abbrev iJ9_max_7cf53 : Nat := 250
abbrev iJ9_max_f86c9 : Nat := 251
abbrev iJ9_min_7cf53 : Nat := 252
abbrev iL_law : Nat := 253
def mTl : List (MethodName × ByteArray × Nat × Option FieldType × Nat × Nat × Nat) := [
  (yX0_init, cX0_init, 3, none, 3, 66, 0),
  (yX0_firstWeather, cX0_firstWeather, 3, some .int, 0, 0, 0),
  (yX0_breadth, cX0_breadth, 1, some .int, 0, 0, 0),
  (yX0_shares, cX0_shares, 3, some .int, 2, 44, 0),
  (yX0_says, cX0_says, 3, some .int, 2, 43, 0),
  (yX1_init, cX1_init, 1, none, 1, 20, 1),
  (yX1_addByte, cX1_addByte, 2, none, 0, 0, 1),
  (yX1_readInto, cX1_readInto, 3, some .int, 9, 178, 1),
  (yX1_readThing, cX1_readThing, 3, none, 8, 156, 1),
  (yX1_kindNamed, cX1_kindNamed, 1, some .int, 6, 113, 1),
  (yX1_readSayer, cX1_readSayer, 4, none, 6, 133, 1),
  (yX1_readSaying, cX1_readSaying, 6, none, 3, 62, 1),
  (yX1_readDay, cX1_readDay, 4, none, 7, 133, 1),
  (yX1_readWeights, cX1_readWeights, 5, none, 3, 62, 1),
  (yX1_takeWorthName, cX1_takeWorthName, 1, none, 6, 113, 1),
  (yX1_takeSemicolon, cX1_takeSemicolon, 1, none, 2, 40, 1),
  (yX1_takeNumber, cX1_takeNumber, 3, some .int, 2, 40, 1),
  (yX1_valueOfNext, cX1_valueOfNext, 3, some .int, 0, 0, 1),
  (yX1_isName, cX1_isName, 3, some .boolean, 5, 91, 1),
  (yX1_step, cX1_step, 1, none, 1, 20, 1),
  (yX1_sortOf, cX1_sortOf, 1, some .int, 0, 0, 1),
  (yX2_init, cX2_init, 4, none, 2, 43, 2),
  (yX2_chosenDay, cX2_chosenDay, 2, some .int, 2, 43, 2),
  (yX2_waits, cX2_waits, 3, some .int, 5, 109, 2),
  (yX3_init, cX3_init, 4, none, 2, 43, 3),
  (yX3_chosenDay, cX3_chosenDay, 2, some .int, 2, 49, 3),
  (yX3_says, cX3_says, 3, some .int, 2, 43, 3),
  (yX3_tells, cX3_tells, 3, some .int, 7, 153, 3),
  (yX4_init, cX4_init, 4, none, 1, 20, 4),
  (yX4_chosenDay, cX4_chosenDay, 2, some .int, 0, 0, 4),
  (yX4_firstWeather, cX4_firstWeather, 3, some .int, 2, 49, 4),
  (yX4_breadth, cX4_breadth, 1, some .int, 0, 0, 4),
  (yX4_says, cX4_says, 3, some .int, 1, 21, 4),
  (yX4_waits, cX4_waits, 3, some .int, 4, 87, 4),
  (yX4_shares, cX4_shares, 4, some .int, 1, 21, 4),
  (yX4_tells, cX4_tells, 3, some .int, 6, 131, 4),
  (yX5_init, cX5_init, 3, none, 1, 20, 5),
  (yX5_narrowed, cX5_narrowed, 2, some .long, 0, 0, 5),
  (yX6_init, cX6_init, 3, none, 3, 66, 6),
  (yX6_chosenDay, cX6_chosenDay, 4, some .int, 3, 70, 6),
  (yX6_says, cX6_says, 3, some .int, 3, 65, 6),
  (yX6_waits, cX6_waits, 3, some .int, 5, 109, 6),
  (yX7_init, cX7_init, 3, none, 2, 43, 7),
  (yX7_chosenDay, cX7_chosenDay, 2, some .int, 1, 22, 7),
  (yX7_firstWeather, cX7_firstWeather, 3, some .int, 0, 0, 7),
  (yX7_tells, cX7_tells, 3, some .int, 7, 153, 7),
  (yX7_shares, cX7_shares, 3, some .int, 2, 44, 7),
  (yX8_init, cX8_init, 1, none, 1, 20, 8),
  (yX8_clear, cX8_clear, 1, none, 0, 0, 8),
  (yX8_begin, cX8_begin, 2, none, 0, 0, 8),
  (yX9_init, cX9_init, 1, none, 2, 43, 9),
  (yX9_forgetAll, cX9_forgetAll, 2, none, 1, 22, 9),
  (yX9_forgetDay, cX9_forgetDay, 3, none, 0, 0, 9),
  (yX9_become, cX9_become, 3, none, 1, 26, 9),
  (yX9_isOver, cX9_isOver, 2, some .boolean, 0, 0, 9),
  (yX9_weightWith, cX9_weightWith, 5, some .int, 0, 0, 9),
  (yX9_allWith, cX9_allWith, 5, some .int, 1, 24, 9),
  (yX9_weightOf, cX9_weightOf, 3, some .int, 1, 24, 9),
  (yX9_allOf, cX9_allOf, 2, some .int, 2, 48, 9),
  (yX9_earn, cX9_earn, 2, some .int, 0, 0, 9),
  (yX9_likeliest, cX9_likeliest, 6, some .int, 1, 24, 9),
  (yX9_lastOpenDay, cX9_lastOpenDay, 3, some .int, 1, 21, 9),
  (yX9_sayerAt, cX9_sayerAt, 2, some (.object "SaidWeather$Sayer"), 0, 0, 9),
  (yX9_addSayer, cX9_addSayer, 4, some .int, 5, 110, 9),
  (yX9_isSaid, cX9_isSaid, 3, some .boolean, 0, 0, 9),
  (yX9_room, cX9_room, 1, some .int, 0, 0, 9),
  (yX9_addSaying, cX9_addSaying, 5, some .int, 0, 0, 9),
  (yX9_sellSaying, cX9_sellSaying, 4, some .int, 1, 24, 9),
  (yX9_sayingsOf, cX9_sayingsOf, 4, some .int, 0, 0, 9),
  (yX9_isRight, cX9_isRight, 3, some .boolean, 1, 21, 9),
  (yX9_overOf, cX9_overOf, 4, some .int, 1, 21, 9),
  (yX9_rightOf, cX9_rightOf, 4, some .int, 2, 43, 9),
  (yX9_ownerOf, cX9_ownerOf, 3, some .int, 2, 43, 9),
  (yX9_pursesTogether, cX9_pursesTogether, 3, some .int, 0, 0, 9),
  (yX9_dayToSay, cX9_dayToSay, 2, some .int, 4, 93, 9),
  (yX9_sayingsAtOnce, cX9_sayingsAtOnce, 2, some .int, 1, 21, 9),
  (yX9_dawn, cX9_dawn, 3, none, 6, 139, 9),
  (yX9_letSpeak, cX9_letSpeak, 6, none, 5, 114, 9),
  (yX9_drawn, cX9_drawn, 6, some .int, 3, 69, 9),
  (yX9_settle, cX9_settle, 3, none, 2, 43, 9),
  (yX9_latestMorning, cX9_latestMorning, 3, some .int, 3, 65, 9),
  (yX9_takingsTimesAll, cX9_takingsTimesAll, 5, some .int, 2, 48, 9),
  (yX9_gainTimesAll, cX9_gainTimesAll, 4, some .long, 3, 72, 9),
  (yX9_bestTimesAll, cX9_bestTimesAll, 6, some .long, 4, 95, 9),
  (yX9_bestPlace, cX9_bestPlace, 12, some .int, 4, 95, 9),
  (yX9_owedFor, cX9_owedFor, 4, some .long, 3, 72, 9),
  (yX10_init, cX10_init, 1, none, 3, 63, 10),
  (yX10_feed, cX10_feed, 5, some .int, 1, 21, 10),
  (yX10_clerk, cX10_clerk, 2, some .int, 10, 200, 10),
  (yX10_worth, cX10_worth, 4, some .int, 1, 20, 10),
  (yX10_weigh, cX10_weigh, 6, some .int, 2, 48, 10),
  (yX10_sign, cX10_sign, 4, some .int, 1, 20, 10),
  (yX10_dayOf, cX10_dayOf, 3, some .int, 2, 49, 10),
  (yX10_set, cX10_set, 4, some .int, 0, 0, 10),
  (yX10_sayer, cX10_sayer, 3, some .int, 6, 133, 10),
  (yX10_sayerOf, cX10_sayerOf, 4, some .int, 1, 23, 10),
  (yX10_mind, cX10_mind, 5, some .int, 5, 110, 10),
  (yX10_purse, cX10_purse, 4, some .int, 1, 21, 10),
  (yX10_say, cX10_say, 4, some .int, 2, 47, 10),
  (yX10_sayingOf, cX10_sayingOf, 3, some .int, 2, 43, 10),
  (yX10_would, cX10_would, 5, some .int, 5, 114, 10),
  (yX10_morning, cX10_morning, 3, some .int, 7, 161, 10),
  (yX10_now, cX10_now, 1, some .int, 0, 0, 10),
  (yX10_owner, cX10_owner, 3, some .int, 3, 65, 10),
  (yX10_odds, cX10_odds, 4, some .int, 3, 69, 10),
  (yX10_gain, cX10_gain, 4, some .long, 4, 95, 10),
  (yX10_waited, cX10_waited, 7, some .long, 5, 120, 10),
  (yX10_best, cX10_best, 3, some .int, 5, 126, 10),
  (yX10_whole, cX10_whole, 6, some .long, 4, 95, 10),
  (yX10_owed, cX10_owed, 5, some .long, 4, 95, 10),
  (yX10_believed, cX10_believed, 4, some .int, 3, 66, 10),
  (yX10_whom, cX10_whom, 7, some .int, 3, 66, 10),
  (yX10_open, cX10_open, 3, some .int, 0, 0, 10),
  (yX10_seed, cX10_seed, 3, some .int, 0, 0, 10),
  (yX10_prove, cX10_prove, 4, some .int, 7, 161, 10),
  (yX10_row, cX10_row, 3, some .int, 1, 22, 10),
  (yX10_alterRow, cX10_alterRow, 5, some .int, 1, 22, 10),
  (yX10_judge, cX10_judge, 3, some .int, 7, 161, 10),
  (yX10_worths, cX10_worths, 8, some .int, 1, 21, 10),
  (yX10_sheet, cX10_sheet, 4, some .int, 2, 42, 10),
  (yX10_put, cX10_put, 5, some .int, 1, 21, 10),
  (yX10_item, cX10_item, 5, some .int, 1, 20, 10),
  (yX10_shelf, cX10_shelf, 4, some .int, 1, 21, 10),
  (yX10_taken, cX10_taken, 7, some .int, 1, 21, 10),
  (yX10_act, cX10_act, 6, some .int, 8, 175, 10),
  (yX10_trace, cX10_trace, 2, some .int, 0, 0, 10),
  (yX10_many, cX10_many, 2, some .int, 0, 0, 10),
  (yX10_keep, cX10_keep, 1, some .int, 2, 48, 10),
  (yX10_again, cX10_again, 1, some .int, 2, 48, 10),
  (yX10_isDay, cX10_isDay, 1, some .boolean, 0, 0, 10),
  (yX10_isComing, cX10_isComing, 2, some .boolean, 1, 21, 10),
  (yX10_isWeather, cX10_isWeather, 1, some .boolean, 0, 0, 10),
  (yX10_isKind, cX10_isKind, 1, some .boolean, 0, 0, 10),
  (yX10_isA, cX10_isA, 1, some .boolean, 0, 0, 10),
  (yX10_isPart, cX10_isPart, 1, some .boolean, 0, 0, 10),
  (yX10_isSheet, cX10_isSheet, 1, some .boolean, 0, 0, 10),
  (yX10_isShelf, cX10_isShelf, 1, some .boolean, 0, 0, 10),
  (yX10_isInRow, cX10_isInRow, 3, some .boolean, 0, 0, 10),
  (yX10_orNotYet, cX10_orNotYet, 1, some .int, 0, 0, 10),
  (yX10_partOf, cX10_partOf, 7, some .long, 1, 30, 10),
  (yX10_commonDivisor, cX10_commonDivisor, 11, some .long, 0, 0, 10),
  (yX10_isUnder, cX10_isUnder, 2, some .boolean, 0, 0, 10),
  (yX10_thingOf, cX10_thingOf, 3, some (.object "SaidWeather$Sayer"), 4, 88, 10),
  (yX11_init, cX11_init, 2, none, 1, 20, 11),
  (yX11_in, cX11_in, 3, some .boolean, 0, 0, 11),
  (yX11_isDay, cX11_isDay, 1, some .boolean, 1, 22, 11),
  (yX11_isWeather, cX11_isWeather, 1, some .boolean, 1, 22, 11),
  (yX11_isSayer, cX11_isSayer, 2, some .boolean, 1, 22, 11),
  (yX11_isSide, cX11_isSide, 1, some .boolean, 1, 22, 11),
  (yX11_its, cX11_its, 2, some .int, 0, 0, 11),
  (yX11_saying, cX11_saying, 3, some .int, 0, 0, 11),
  (yX11_kindOf, cX11_kindOf, 2, some .int, 0, 0, 11),
  (yX11_aOf, cX11_aOf, 2, some .int, 0, 0, 11),
  (yX11_feed, cX11_feed, 5, some .int, 1, 22, 11),
  (yX11_byteAt, cX11_byteAt, 2, some .int, 0, 0, 11),
  (yX11_isLetter, cX11_isLetter, 1, some .boolean, 1, 22, 11),
  (yX11_isDigit, cX11_isDigit, 1, some .boolean, 1, 22, 11),
  (yX11_advance, cX11_advance, 2, none, 2, 42, 11),
  (yX11_isWord, cX11_isWord, 3, some .boolean, 0, 0, 11),
  (yX11_isMark, cX11_isMark, 2, some .boolean, 0, 0, 11),
  (yX11_kindHere, cX11_kindHere, 1, some .int, 1, 22, 11),
  (yX11_wantNumber, cX11_wantNumber, 3, some .int, 3, 63, 11),
  (yX11_wantWord, cX11_wantWord, 3, none, 3, 63, 11),
  (yX11_wantEnd, cX11_wantEnd, 1, none, 3, 63, 11),
  (yX11_wantDay, cX11_wantDay, 5, none, 4, 85, 11),
  (yX11_isFreshSaid, cX11_isFreshSaid, 5, some .boolean, 0, 0, 11),
  (yX11_wantSaying, cX11_wantSaying, 4, none, 4, 85, 11),
  (yX11_wantSayer, cX11_wantSayer, 3, none, 4, 85, 11),
  (yX11_wantClause, cX11_wantClause, 1, none, 5, 109, 11),
  (yX11_clerk, cX11_clerk, 2, some .int, 6, 129, 11),
  (yX11_becomes, cX11_becomes, 2, none, 0, 0, 11),
  (yX11_worth, cX11_worth, 4, some .int, 2, 42, 11),
  (yX11_weigh, cX11_weigh, 5, some .int, 2, 42, 11),
  (yX11_plainAll, cX11_plainAll, 2, some .int, 0, 0, 11),
  (yX11_sign, cX11_sign, 4, some .int, 2, 42, 11),
  (yX11_weightOf, cX11_weightOf, 3, some .int, 1, 21, 11),
  (yX11_allOf, cX11_allOf, 2, some .int, 1, 21, 11),
  (yX11_earn, cX11_earn, 2, some .int, 0, 0, 11),
  (yX11_likeliest, cX11_likeliest, 4, some .int, 2, 43, 11),
  (yX11_saidOf, cX11_saidOf, 4, some .int, 1, 22, 11),
  (yX11_orNot, cX11_orNot, 1, some .int, 0, 0, 11),
  (yX11_dayOf, cX11_dayOf, 3, some .int, 3, 66, 11),
  (yX11_set, cX11_set, 5, some .int, 1, 22, 11),
  (yX11_sayer, cX11_sayer, 3, some .int, 1, 22, 11),
  (yX11_sayerOf, cX11_sayerOf, 5, some .int, 2, 43, 11),
  (yX11_mind, cX11_mind, 5, some .int, 2, 43, 11),
  (yX11_purse, cX11_purse, 4, some .int, 2, 43, 11),
  (yX11_says, cX11_says, 5, none, 1, 21, 11),
  (yX11_say, cX11_say, 4, some .int, 2, 45, 11),
  (yX11_sayingOf, cX11_sayingOf, 3, some .int, 1, 22, 11),
  (yX11_one, cX11_one, 3, none, 2, 45, 11),
  (yX11_lastOpen, cX11_lastOpen, 3, some .int, 2, 45, 11),
  (yX11_findSaying, cX11_findSaying, 7, none, 3, 67, 11),
  (yX11_would, cX11_would, 3, some .int, 4, 93, 11),
  (yX11_drawn, cX11_drawn, 5, some .int, 2, 43, 11),
  (yX11_morningGoes, cX11_morningGoes, 5, none, 4, 93, 11),
  (yX11_morning, cX11_morning, 3, some .int, 5, 117, 11),
  (yX11_now, cX11_now, 1, some .int, 0, 0, 11),
  (yX11_owner, cX11_owner, 4, some .int, 2, 42, 11),
  (yX11_lowest, cX11_lowest, 11, none, 0, 0, 11),
  (yX11_toldPart, cX11_toldPart, 2, some .long, 0, 0, 11),
  (yX11_isComing, cX11_isComing, 2, some .boolean, 1, 22, 11),
  (yX11_odds, cX11_odds, 4, some .int, 2, 43, 11),
  (yX11_gainBy, cX11_gainBy, 4, some .long, 1, 21, 11),
  (yX11_gain, cX11_gain, 4, some .long, 2, 45, 11),
  (yX11_bestBy, cX11_bestBy, 9, some .long, 2, 45, 11),
  (yX11_waited, cX11_waited, 6, some .long, 3, 73, 11),
  (yX11_best, cX11_best, 11, some .int, 2, 45, 11),
  (yX11_whole, cX11_whole, 6, some .long, 2, 45, 11),
  (yX11_owed, cX11_owed, 8, some .long, 2, 43, 11),
  (yX11_findRight, cX11_findRight, 4, none, 1, 22, 11),
  (yX11_believed, cX11_believed, 3, some .int, 2, 45, 11),
  (yX11_whom, cX11_whom, 5, some .int, 2, 45, 11),
  (yX11_open, cX11_open, 3, some .int, 2, 45, 11),
  (yX11_seed, cX11_seed, 3, some .int, 0, 0, 11),
  (yX11_findRows, cX11_findRows, 4, none, 5, 117, 11),
  (yX11_prove, cX11_prove, 3, some .int, 6, 140, 11),
  (yX11_isRow, cX11_isRow, 3, some .boolean, 1, 22, 11),
  (yX11_row, cX11_row, 3, some .int, 2, 44, 11),
  (yX11_alterRow, cX11_alterRow, 5, some .int, 2, 44, 11),
  (yX11_judge, cX11_judge, 4, some .int, 6, 140, 11),
  (yX11_worths, cX11_worths, 9, some .int, 2, 42, 11),
  (yX11_isShelf, cX11_isShelf, 1, some .boolean, 1, 22, 11),
  (yX11_sheet, cX11_sheet, 5, some .int, 2, 42, 11),
  (yX11_put, cX11_put, 4, some .int, 2, 42, 11),
  (yX11_lacksSort, cX11_lacksSort, 3, some .int, 0, 0, 11),
  (yX11_item, cX11_item, 5, some .int, 2, 42, 11),
  (yX11_isHeld, cX11_isHeld, 3, some .boolean, 2, 43, 11),
  (yX11_shelf, cX11_shelf, 4, some .int, 3, 65, 11),
  (yX11_kindOn, cX11_kindOn, 2, some .int, 2, 43, 11),
  (yX11_isUnder, cX11_isUnder, 2, some .boolean, 0, 0, 11),
  (yX11_taken, cX11_taken, 4, some .int, 3, 64, 11),
  (yX11_ran, cX11_ran, 2, none, 0, 0, 11),
  (yX11_plainSays, cX11_plainSays, 2, some .int, 1, 21, 11),
  (yX11_lateSays, cX11_lateSays, 2, some .int, 2, 42, 11),
  (yX11_saysIt, cX11_saysIt, 2, some .int, 3, 63, 11),
  (yX11_plainWaits, cX11_plainWaits, 2, some .int, 4, 84, 11),
  (yX11_waitsIt, cX11_waitsIt, 3, some .int, 5, 105, 11),
  (yX11_plainShares, cX11_plainShares, 2, some .int, 1, 21, 11),
  (yX11_sharesIt, cX11_sharesIt, 3, some .int, 4, 84, 11),
  (yX11_plainTells, cX11_plainTells, 2, some .int, 6, 127, 11),
  (yX11_tellsIt, cX11_tellsIt, 3, some .int, 7, 148, 11),
  (yX11_act, cX11_act, 6, some .int, 8, 170, 11),
  (yX11_trace, cX11_trace, 2, some .int, 1, 22, 11),
  (yX11_many, cX11_many, 2, some .int, 0, 0, 11),
  (yX11_moveRow, cX11_moveRow, 5, none, 0, 0, 11),
  (yX11_moveAll, cX11_moveAll, 2, none, 1, 24, 11),
  (yX11_keep, cX11_keep, 1, some .int, 2, 45, 11),
  (yX11_again, cX11_again, 1, some .int, 2, 45, 11),
  (yJ9_abs_067f4, cJ9_abs_067f4, 2, some .long, 0, 0, 13),
  (yJ9_max_7cf53, cJ9_max_7cf53, 2, some .int, 0, 0, 13),
  (yJ9_max_f86c9, cJ9_max_f86c9, 4, some .long, 0, 0, 13),
  (yJ9_min_7cf53, cJ9_min_7cf53, 2, some .int, 0, 0, 13),
  (yL_law, cL_law, 4, some .boolean, 13, 472, 12)]
def cST : List (Nat × Nat × Nat × List (Nat × Nat)) := [
  (3, 3, 2, [(99, 21)]),
  (9, 1, 0, [(8, 49)]),
  (15, 2, 3, [(99, 34)]),
  (19, 2, 3, [(99, 32)]),
  (100003, 0, 4, []),
  (100025, 0, 0, [(1, 19)]),
  (100031, 1, 0, [(1, 8)]),
  (100035, 0, 0, [(1, 9)]),
  (100039, 2, 0, [(1, 10)]),
  (100045, 1, 0, [(1, 18)]),
  (100049, 1, 0, [(1, 12)]),
  (100054, 1, 0, [(1, 11)]),
  (100059, 1, 0, [(1, 16)]),
  (100071, 0, 0, [(1, 15)]),
  (100089, 2, 0, [(9, 63)]),
  (100093, 0, 0, [(9, 65)]),
  (100096, 2, 0, [(9, 64)]),
  (100100, 3, 0, [(9, 66)]),
  (100104, 0, 0, [(1, 14)]),
  (100107, 1, 0, [(9, 52)]),
  (100117, 2, 0, [(1, 13)]),
  (100128, 2, 0, [(9, 56)]),
  (100133, 0, 0, [(1, 17)]),
  (100136, 0, 5, []),
  (100140, 1, 6, []),
  (100144, 1, 1, [(99, 20)]),
  (200001, 3, 2, [(99, 28)]),
  (200013, 1, 0, [(9, 61)]),
  (200019, 1, 0, [(8, 49)]),
  (200025, 2, 3, [(99, 33)]),
  (300001, 3, 2, [(99, 28)]),
  (300013, 1, 0, [(9, 60)]),
  (300017, 2, 0, [(9, 64)]),
  (300021, 1, 0, [(8, 49)]),
  (300027, 2, 3, [(99, 32)]),
  (300031, 2, 3, [(99, 35)]),
  (300039, 2, 0, [(3, 34), (6, 34)]),
  (400001, 0, 4, []),
  (400019, 1, 0, [(9, 60)]),
  (400025, 1, 0, [(8, 49)]),
  (400031, 2, 0, [(0, 4), (2, 32), (3, 26), (4, 32), (6, 40), (7, 32)]),
  (400039, 2, 0, [(0, 23), (2, 23), (3, 33), (4, 33), (6, 41), (7, 33)]),
  (500001, 0, 4, []),
  (600003, 3, 2, [(99, 24)]),
  (600015, 1, 0, [(9, 60)]),
  (600019, 2, 0, [(9, 57)]),
  (600028, 1, 0, [(9, 58)]),
  (600031, 1, 3, [(99, 25)]),
  (600035, 1, 0, [(8, 49)]),
  (600041, 2, 3, [(99, 26)]),
  (600045, 2, 3, [(99, 33)]),
  (600051, 2, 0, [(6, 40)]),
  (700003, 3, 2, [(99, 28)]),
  (700020, 2, 0, [(9, 64)]),
  (700024, 1, 0, [(8, 49)]),
  (700030, 2, 3, [(99, 35)]),
  (700034, 2, 3, [(99, 34)]),
  (700037, 2, 0, [(7, 32)]),
  (800003, 0, 4, []),
  (900003, 0, 4, []),
  (900030, 0, 8, []),
  (900060, 0, 0, [(9, 51)]),
  (900063, 1, 0, [(9, 52)]),
  (900076, 5, 7, []),
  (900082, 3, 0, [(9, 55)]),
  (900086, 2, 0, [(9, 56)]),
  (900090, 2, 1, [(99, 252)]),
  (900095, 3, 1, [(99, 142)]),
  (900099, 3, 0, [(9, 66)]),
  (900102, 1, 0, [(9, 54)]),
  (900106, 1, 0, [(9, 69)]),
  (900109, 0, 0, [(9, 65)]),
  (900113, 1, 0, [(0, 22), (2, 22), (3, 25), (4, 29), (6, 39), (7, 43)]),
  (900117, 0, 0, [(0, 2), (2, 31), (3, 31), (4, 31), (6, 31), (7, 31)]),
  (900120, 1, 0, [(9, 77)]),
  (900124, 1, 0, [(9, 78)]),
  (900128, 1, 0, [(9, 79)]),
  (900131, 1, 0, [(9, 74)]),
  (900135, 2, 0, [(0, 1), (2, 30), (3, 30), (4, 30), (6, 30), (7, 44)]),
  (900139, 1, 0, [(9, 75)]),
  (900145, 3, 0, [(9, 67)]),
  (900149, 1, 0, [(9, 58)]),
  (900152, 2, 0, [(9, 57)]),
  (900155, 1, 0, [(9, 59)]),
  (900158, 1, 0, [(9, 72)]),
  (900161, 0, 0, [(9, 73)]),
  (900164, 3, 0, [(9, 81)]),
  (900167, 2, 0, [(9, 64)]),
  (900171, 3, 0, [(9, 82)]),
  (900175, 2, 1, [(99, 251)]),
  (1000001, 0, 4, []),
  (1000009, 0, 2, [(99, 50)]),
  (1000024, 0, 2, [(99, 5)]),
  (1000047, 0, 2, [(99, 47)]),
  (1000056, 1, 0, [(1, 6)]),
  (1000060, 1, 0, [(9, 53)]),
  (1000064, 0, 0, [(9, 51)]),
  (1000067, 1, 0, [(1, 7)]),
  (1000077, 1, 1, [(99, 129)]),
  (1000084, 1, 1, [(99, 131)]),
  (1000090, 2, 0, [(9, 56)]),
  (1000097, 1, 1, [(99, 138)]),
  (1000104, 1, 0, [(9, 59)]),
  (1000107, 1, 0, [(9, 60)]),
  (1000113, 2, 0, [(9, 57)]),
  (1000122, 1, 1, [(99, 132)]),
  (1000125, 1, 1, [(99, 133)]),
  (1000128, 2, 0, [(9, 63)]),
  (1000131, 1, 0, [(9, 62)]),
  (1000147, 1, 0, [(9, 68)]),
  (1000154, 3, 1, [(99, 142)]),
  (1000158, 1, 0, [(10, 130)]),
  (1000161, 2, 0, [(9, 64)]),
  (1000165, 0, 0, [(9, 65)]),
  (1000169, 3, 0, [(9, 67)]),
  (1000185, 1, 0, [(9, 54)]),
  (1000188, 1, 0, [(9, 69)]),
  (1000191, 1, 0, [(9, 74)]),
  (1000195, 2, 0, [(0, 1), (2, 30), (3, 30), (4, 30), (6, 30), (7, 44)]),
  (1000199, 1, 0, [(9, 75)]),
  (1000202, 0, 0, [(9, 76)]),
  (1000208, 1, 0, [(9, 72)]),
  (1000211, 1, 1, [(99, 134)]),
  (1000214, 1, 0, [(9, 58)]),
  (1000217, 3, 1, [(99, 139)]),
  (1000223, 3, 0, [(9, 82)]),
  (1000227, 2, 0, [(9, 83)]),
  (1000231, 0, 0, [(9, 84)]),
  (1000236, 1, 0, [(9, 85)]),
  (1000240, 1, 0, [(9, 70)]),
  (1000243, 1, 0, [(9, 71)]),
  (1000246, 2, 1, [(99, 250)]),
  (1000254, 2, 1, [(99, 252)]),
  (1000257, 1, 0, [(9, 80)]),
  (1000260, 2, 0, [(10, 137)]),
  (1000264, 1, 1, [(99, 135)]),
  (1000274, 2, 2, [(99, 36)]),
  (1000277, 1, 0, [(5, 37)]),
  (1000280, 1, 1, [(99, 136)]),
  (1000283, 2, 1, [(99, 141)]),
  (1000290, 0, 0, [(8, 48)]),
  (1000293, 2, 0, [(0, 4), (2, 32), (3, 26), (4, 32), (6, 40), (7, 32)]),
  (1000297, 2, 0, [(0, 23), (2, 23), (3, 33), (4, 33), (6, 41), (7, 33)]),
  (1000300, 2, 0, [(0, 3), (2, 34), (3, 34), (4, 34), (6, 34), (7, 46)]),
  (1000303, 2, 0, [(0, 35), (2, 35), (3, 27), (4, 35), (6, 27), (7, 45)]),
  (1000319, 1, 1, [(99, 249)]),
  (1000323, 2, 1, [(99, 140)]),
  (1000337, 3, 2, [(99, 21)]),
  (1000340, 3, 2, [(99, 24)]),
  (1000341, 2, 2, [(99, 38)]),
  (1000344, 2, 2, [(99, 0)]),
  (1000345, 2, 2, [(99, 42)]),
  (1000346, 3, 2, [(99, 28)]),
  (1100001, 0, 4, []),
  (1100083, 3, 1, [(99, 144)]),
  (1100105, 1, 0, [(11, 154)]),
  (1100109, 1, 1, [(99, 155)]),
  (1100113, 1, 1, [(99, 156)]),
  (1100134, 1, 0, [(11, 158)]),
  (1100152, 0, 0, [(11, 157)]),
  (1100155, 1, 0, [(11, 159)]),
  (1100158, 1, 0, [(11, 161)]),
  (1100163, 1, 0, [(11, 162)]),
  (1100171, 0, 0, [(11, 163)]),
  (1100180, 2, 0, [(11, 165)]),
  (1100186, 0, 0, [(11, 164)]),
  (1100191, 0, 0, [(11, 166)]),
  (1100199, 0, 0, [(11, 160)]),
  (1100203, 1, 0, [(11, 167)]),
  (1100207, 0, 0, [(11, 168)]),
  (1100210, 0, 0, [(11, 170)]),
  (1100216, 1, 1, [(99, 145)]),
  (1100219, 1, 1, [(99, 146)]),
  (1100222, 1, 0, [(11, 173)]),
  (1100225, 1, 0, [(11, 149)]),
  (1100228, 2, 0, [(11, 175)]),
  (1100232, 2, 0, [(11, 150)]),
  (1100235, 1, 1, [(99, 180)]),
  (1100238, 1, 0, [(11, 177)]),
  (1100241, 1, 0, [(11, 178)]),
  (1100244, 1, 0, [(11, 179)]),
  (1100247, 1, 0, [(11, 147)]),
  (1100250, 1, 0, [(11, 151)]),
  (1100253, 1, 0, [(11, 152)]),
  (1100257, 3, 0, [(11, 187)]),
  (1100270, 1, 0, [(11, 191)]),
  (1100273, 2, 0, [(11, 190)]),
  (1100277, 1, 0, [(11, 176)]),
  (1100280, 1, 0, [(11, 192)]),
  (1100284, 2, 0, [(11, 194)]),
  (1100291, 0, 0, [(11, 195)]),
  (1100300, 1, 0, [(11, 201)]),
  (1100303, 1, 1, [(99, 148)]),
  (1100306, 2, 0, [(11, 199)]),
  (1100310, 1, 0, [(11, 200)]),
  (1100316, 3, 0, [(11, 203)]),
  (1100320, 2, 0, [(11, 205)]),
  (1100332, 1, 0, [(11, 210)]),
  (1100338, 1, 0, [(11, 215)]),
  (1100341, 2, 0, [(11, 217)]),
  (1100345, 1, 1, [(99, 222)]),
  (1100348, 2, 0, [(11, 225)]),
  (1100353, 2, 0, [(11, 227)]),
  (1100356, 1, 0, [(11, 229)]),
  (1100359, 2, 1, [(99, 230)]),
  (1100365, 1, 0, [(11, 232)]),
  (1100371, 1, 0, [(11, 233)]),
  (1100377, 1, 0, [(11, 234)]),
  (1100380, 1, 0, [(11, 235)]),
  (1100383, 1, 0, [(11, 236)]),
  (1100392, 1, 0, [(11, 238)]),
  (1100395, 1, 0, [(11, 237)]),
  (1100398, 1, 0, [(11, 240)]),
  (1100401, 1, 0, [(11, 239)]),
  (1100404, 1, 0, [(11, 241)]),
  (1100410, 3, 0, [(11, 245)]),
  (1100414, 1, 0, [(11, 246)]),
  (1200009, 0, 2, [(99, 86)]),
  (1200012, 0, 2, [(99, 143)]),
  (1200015, 2, 0, [(10, 87)]),
  (1200019, 2, 0, [(11, 153)]),
  (1200020, 0, 0, [(10, 88)]),
  (1200024, 0, 0, [(11, 169)]),
  (1200025, 2, 0, [(10, 89)]),
  (1200029, 2, 0, [(11, 171)]),
  (1200030, 3, 0, [(10, 90)]),
  (1200034, 3, 0, [(11, 172)]),
  (1200035, 2, 0, [(10, 91)]),
  (1200038, 2, 0, [(11, 174)]),
  (1200039, 2, 0, [(10, 92)]),
  (1200042, 2, 0, [(11, 181)]),
  (1200043, 2, 0, [(10, 93)]),
  (1200046, 2, 0, [(11, 182)]),
  (1200047, 2, 0, [(10, 94)]),
  (1200050, 2, 0, [(11, 183)]),
  (1200051, 2, 0, [(10, 95)]),
  (1200054, 2, 0, [(11, 184)]),
  (1200055, 3, 0, [(10, 96)]),
  (1200058, 3, 0, [(11, 185)]),
  (1200059, 2, 0, [(10, 97)]),
  (1200062, 2, 0, [(11, 186)]),
  (1200063, 3, 0, [(10, 98)]),
  (1200066, 3, 0, [(11, 188)]),
  (1200067, 2, 0, [(10, 99)]),
  (1200070, 2, 0, [(11, 189)]),
  (1200071, 2, 0, [(10, 100)]),
  (1200074, 2, 0, [(11, 193)]),
  (1200075, 1, 0, [(10, 101)]),
  (1200079, 1, 0, [(11, 196)]),
  (1200080, 0, 0, [(10, 102)]),
  (1200083, 0, 0, [(11, 197)]),
  (1200084, 1, 0, [(10, 103)]),
  (1200087, 1, 0, [(11, 198)]),
  (1200088, 3, 0, [(10, 104)]),
  (1200091, 3, 0, [(11, 202)]),
  (1200092, 3, 0, [(10, 105)]),
  (1200096, 3, 0, [(11, 204)]),
  (1200097, 2, 0, [(10, 106)]),
  (1200101, 2, 0, [(11, 206)]),
  (1200102, 1, 0, [(10, 107)]),
  (1200105, 1, 0, [(11, 207)]),
  (1200106, 2, 0, [(10, 108)]),
  (1200109, 2, 0, [(11, 208)]),
  (1200110, 1, 0, [(10, 109)]),
  (1200114, 1, 0, [(11, 209)]),
  (1200115, 2, 0, [(10, 110)]),
  (1200118, 2, 0, [(11, 211)]),
  (1200119, 0, 0, [(10, 111)]),
  (1200122, 0, 0, [(11, 212)]),
  (1200123, 0, 0, [(10, 112)]),
  (1200126, 0, 0, [(11, 213)]),
  (1200127, 1, 0, [(10, 113)]),
  (1200130, 1, 0, [(11, 214)]),
  (1200131, 1, 0, [(10, 114)]),
  (1200134, 1, 0, [(11, 216)]),
  (1200135, 2, 0, [(10, 115)]),
  (1200138, 2, 0, [(11, 218)]),
  (1200139, 3, 0, [(10, 116)]),
  (1200142, 3, 0, [(11, 219)]),
  (1200143, 0, 0, [(10, 117)]),
  (1200146, 0, 0, [(11, 220)]),
  (1200147, 4, 0, [(10, 118)]),
  (1200151, 4, 0, [(11, 221)]),
  (1200152, 3, 0, [(10, 119)]),
  (1200155, 3, 0, [(11, 223)]),
  (1200156, 3, 0, [(10, 120)]),
  (1200159, 3, 0, [(11, 224)]),
  (1200160, 3, 0, [(10, 121)]),
  (1200163, 3, 0, [(11, 226)]),
  (1200164, 3, 0, [(10, 122)]),
  (1200167, 3, 0, [(11, 228)]),
  (1200168, 2, 0, [(10, 123)]),
  (1200171, 2, 0, [(11, 231)]),
  (1200172, 3, 0, [(10, 124)]),
  (1200175, 3, 0, [(11, 242)]),
  (1200176, 1, 0, [(10, 125)]),
  (1200179, 1, 0, [(11, 243)]),
  (1200180, 1, 0, [(10, 126)]),
  (1200183, 1, 0, [(11, 244)]),
  (1200184, 0, 0, [(10, 127)]),
  (1200187, 0, 0, [(11, 247)]),
  (1200188, 0, 0, [(10, 128)]),
  (1200191, 0, 0, [(11, 248)])]
def fDT : List (Nat × List Nat × Nat × Nat) := [
  (22, [0, 2, 3, 4, 6, 7], 1, 0),
  (100009, [1], 0, 3),
  (100015, [1], 1, 0),
  (100019, [1], 5, 0),
  (100022, [1], 4, 0),
  (100028, [1], 2, 0),
  (100063, [9], 6, 0),
  (100068, [1], 3, 0),
  (100086, [9], 10, 0),
  (100111, [9], 0, 3),
  (100122, [9], 2, 3),
  (100125, [9], 1, 3),
  (200007, [0, 2, 3, 4, 6, 7], 2, 0),
  (300007, [9], 6, 0),
  (300034, [0, 2, 3, 4, 6, 7], 1, 0),
  (400007, [0, 2, 3, 4, 6, 7], 0, 0),
  (400013, [0, 2, 3, 4, 6, 7], 1, 0),
  (400016, [0, 2, 3, 4, 6, 7], 2, 0),
  (400035, [8], 2, 1),
  (500007, [5], 0, 0),
  (500013, [5], 1, 3),
  (600009, [9], 6, 0),
  (600023, [0, 2, 3, 4, 6, 7], 2, 0),
  (600048, [0, 2, 3, 4, 6, 7], 1, 0),
  (700009, [9], 6, 0),
  (700015, [0, 2, 3, 4, 6, 7], 2, 0),
  (800009, [8], 0, 3),
  (800015, [8], 1, 0),
  (800019, [8], 2, 1),
  (900009, [9], 0, 3),
  (900015, [9], 1, 3),
  (900018, [9], 2, 3),
  (900021, [9], 3, 3),
  (900024, [9], 4, 3),
  (900035, [9], 5, 3),
  (900038, [9], 7, 0),
  (900044, [9], 8, 3),
  (900048, [9], 9, 3),
  (900051, [9], 11, 3),
  (900054, [9], 12, 3),
  (900057, [9], 13, 3),
  (900067, [9], 6, 0),
  (900070, [9], 10, 0),
  (900073, [9], 14, 0),
  (900142, [0, 2, 3, 4, 6, 7], 1, 0),
  (1000010, [10], 0, 3),
  (1000016, [10], 1, 3),
  (1000019, [10], 2, 3),
  (1000025, [10], 4, 3),
  (1000029, [10], 5, 3),
  (1000035, [10], 7, 3),
  (1000039, [10], 8, 3),
  (1000042, [10], 9, 3),
  (1000048, [10], 10, 3),
  (1000052, [1], 1, 0),
  (1000071, [10], 6, 0),
  (1000074, [9], 10, 0),
  (1000081, [9], 0, 3),
  (1000087, [9], 1, 3),
  (1000094, [9], 2, 3),
  (1000101, [9], 3, 3),
  (1000110, [9], 4, 3),
  (1000119, [9], 5, 3),
  (1000135, [0, 2, 3, 4, 6, 7], 0, 0),
  (1000140, [0, 2, 3, 4, 6, 7], 2, 0),
  (1000143, [9], 9, 3),
  (1000150, [9], 8, 3),
  (1000173, [9], 14, 0),
  (1000176, [9], 11, 3),
  (1000179, [9], 12, 3),
  (1000182, [9], 13, 3),
  (1000205, [9], 6, 0),
  (1000251, [9], 7, 0),
  (1000267, [5], 0, 0),
  (1000270, [5], 1, 3),
  (1000287, [0, 2, 3, 4, 6, 7], 1, 0),
  (1000306, [8], 2, 1),
  (1000310, [8], 1, 0),
  (1000313, [8], 0, 3),
  (1000316, [10], 3, 1),
  (1100007, [11], 0, 3),
  (1100013, [11], 2, 3),
  (1100016, [11], 3, 3),
  (1100019, [11], 5, 3),
  (1100022, [11], 6, 3),
  (1100025, [11], 7, 3),
  (1100028, [11], 8, 3),
  (1100031, [11], 19, 3),
  (1100034, [11], 20, 3),
  (1100037, [11], 21, 3),
  (1100040, [11], 22, 3),
  (1100043, [11], 23, 3),
  (1100046, [11], 24, 3),
  (1100049, [11], 33, 3),
  (1100052, [11], 34, 3),
  (1100055, [11], 37, 3),
  (1100058, [11], 38, 3),
  (1100061, [11], 39, 3),
  (1100065, [11], 40, 3),
  (1100068, [11], 41, 3),
  (1100071, [11], 42, 3),
  (1100074, [11], 46, 3),
  (1100077, [11], 50, 3),
  (1100080, [11], 52, 3),
  (1100087, [11], 4, 0),
  (1100091, [11], 1, 0),
  (1100094, [11], 9, 0),
  (1100099, [11], 12, 0),
  (1100102, [11], 11, 0),
  (1100116, [11], 10, 0),
  (1100119, [11], 13, 2),
  (1100123, [11], 14, 0),
  (1100148, [11], 15, 1),
  (1100174, [11], 18, 0),
  (1100177, [11], 17, 0),
  (1100196, [11], 16, 0),
  (1100213, [11], 35, 0),
  (1100261, [11], 25, 0),
  (1100264, [11], 26, 0),
  (1100267, [11], 27, 0),
  (1100288, [11], 28, 0),
  (1100294, [11], 29, 2),
  (1100297, [11], 30, 2),
  (1100326, [11], 31, 0),
  (1100329, [11], 32, 0),
  (1100335, [11], 36, 0),
  (1100362, [11], 47, 0),
  (1100368, [11], 44, 0),
  (1100374, [11], 43, 0),
  (1100386, [11], 45, 0),
  (1100389, [11], 48, 1),
  (1100407, [11], 51, 0),
  (1100418, [11], 49, 1)]
def kNT : List (Nat × (Int32 ⊕ Int64 ⊕ Option Nat ⊕ Unit)) := [
  (100043, .inr (.inr (.inl (some 1000000009)))),
  (100052, .inr (.inr (.inl (some 1000000013)))),
  (100057, .inr (.inr (.inl (some 1000000014)))),
  (100074, .inr (.inr (.inl (some 1000000003)))),
  (100076, .inr (.inr (.inl (some 1000000004)))),
  (100078, .inr (.inr (.inl (some 1000000005)))),
  (100080, .inr (.inr (.inl (some 1000000006)))),
  (100082, .inr (.inr (.inl (some 1000000007)))),
  (100084, .inr (.inr (.inl (some 1000000008)))),
  (100115, .inr (.inr (.inl (some 1000000011)))),
  (100120, .inr (.inr (.inl (some 1000000012)))),
  (100131, .inr (.inr (.inl (some 1000000010)))),
  (900148, .inl (1103515245)),
  (900179, .inr (.inl (1000))),
  (1000146, .inl (100000)),
  (1000221, .inr (.inl (-1000000000000))),
  (1000234, .inr (.inl (1000))),
  (1000263, .inl (-2147483648)),
  (1100097, .inr (.inl (255))),
  (1100126, .inr (.inl (27))),
  (1100128, .inr (.inl (96))),
  (1100130, .inr (.inl (-1))),
  (1100132, .inr (.inl (10135440))),
  (1100138, .inr (.inl (2690359))),
  (1100140, .inr (.inl (237470))),
  (1100142, .inr (.inl (389777))),
  (1100144, .inr (.inl (1065))),
  (1100146, .inr (.inl (404923))),
  (1100161, .inr (.inl (12532058))),
  (1100167, .inr (.inl (411))),
  (1100169, .inr (.inl (380741))),
  (1100184, .inr (.inl (2968))),
  (1100189, .inr (.inl (374953))),
  (1100194, .inr (.inl (10634))),
  (1100256, .inl (100000)),
  (1100283, .inl (1103515245)),
  (1100314, .inr (.inl (-1000000000000))),
  (1100324, .inr (.inl (1000))),
  (1100344, .inl (-2147483648)),
  (1100351, .inr (.inl (99))),
  (1200013, .inr (.inl (4294967295)))]
def nWT : List (Nat × Nat × Nat) := [
  (1000007, 9, 15),
  (1000022, 1, 6),
  (1000045, 8, 3),
  (1000033, 5, 2),
  (1000327, 2, 3),
  (1000329, 3, 3),
  (1000331, 6, 3),
  (1000333, 0, 3),
  (1000335, 7, 3),
  (1000136, 4, 3),
  (1200007, 10, 11),
  (1200010, 11, 53)]
def aNT : List (Nat × Nat) := [
  (900042, 3),
  (1000033, 4)]
def iNT : List (Nat × List Nat) := [
  (1000327, [2, 0]),
  (1000329, [3, 6]),
  (1000331, [6]),
  (1000333, [0]),
  (1000335, [7])]
def gST : List (Nat × Nat) := [
  (900027, 1000000001),
  (1000116, 1000000002)]
def fKT : List (List Nat) := [
  [0, 0, 0],
  [3, 0, 0, 0, 0, 0],
  [0, 0, 0],
  [0, 0, 0],
  [0, 0, 0],
  [0, 3],
  [0, 0, 0],
  [0, 0, 0],
  [3, 0, 1],
  [3, 3, 3, 3, 3, 3, 0, 0, 3, 3, 0, 3, 3, 3, 0],
  [3, 3, 3, 1, 3, 3, 0, 3, 3, 3, 3],
  [3, 0, 3, 3, 0, 3, 3, 3, 3, 0, 0, 0, 0, 2, 0, 1, 0, 0, 0, 3, 3, 3, 3, 3, 3, 0, 0, 0, 0, 2, 2, 0, 0, 3, 3, 0, 0, 3, 3, 3, 3, 3, 3, 0, 0, 0, 3, 0, 1, 1, 3, 0, 3]]
def strT : List (List Int32) := [
  [115, 97, 121, 101, 114],
  [101, 97, 114, 108, 121],
  [108, 97, 116, 101],
  [115, 117, 114, 101],
  [97, 108, 108],
  [116, 111, 108, 100],
  [100, 97, 121],
  [119, 111, 114, 116, 104],
  [111, 102],
  [115, 105, 103, 110],
  [115, 97, 105, 100],
  [110, 111, 119]]
