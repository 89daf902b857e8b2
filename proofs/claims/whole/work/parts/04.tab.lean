abbrev TV : Type := Int32 ⊕ Int64 ⊕ Option Nat ⊕ Unit
abbrev vI (x : Int32) : TV := .inl x
abbrev vL (x : Int64) : TV := .inr (.inl x)
abbrev vR (r : Option Nat) : TV := .inr (.inr (.inl r))
abbrev vU : TV := .inr (.inr (.inr ()))
/-! the tables of the tiny machine, by program (wip/whole/gen_tab.py) out of the claim's words -/
abbrev iX0_init : Nat := 0
abbrev iX0_firstWeather : Nat := 1
abbrev iX0_breadth : Nat := 2
abbrev iX0_shares : Nat := 3
abbrev iX0_says : Nat := 4
abbrev iX1_init : Nat := 5
abbrev iX1_addByte : Nat := 6
abbrev iX1_readInto : Nat := 7
abbrev iX1_readThing : Nat := 8
abbrev iX1_kindNamed : Nat := 9
abbrev iX1_readSayer : Nat := 10
abbrev iX1_readSaying : Nat := 11
abbrev iX1_readDay : Nat := 12
abbrev iX1_readWeights : Nat := 13
abbrev iX1_takeWorthName : Nat := 14
abbrev iX1_takeSemicolon : Nat := 15
abbrev iX1_takeNumber : Nat := 16
abbrev iX1_valueOfNext : Nat := 17
abbrev iX1_isName : Nat := 18
abbrev iX1_step : Nat := 19
abbrev iX1_sortOf : Nat := 20
abbrev iX2_init : Nat := 21
abbrev iX2_chosenDay : Nat := 22
abbrev iX2_waits : Nat := 23
abbrev iX3_init : Nat := 24
abbrev iX3_chosenDay : Nat := 25
abbrev iX3_says : Nat := 26
abbrev iX3_tells : Nat := 27
abbrev iX4_init : Nat := 28
abbrev iX4_chosenDay : Nat := 29
abbrev iX4_firstWeather : Nat := 30
abbrev iX4_breadth : Nat := 31
abbrev iX4_says : Nat := 32
abbrev iX4_waits : Nat := 33
abbrev iX4_shares : Nat := 34
abbrev iX4_tells : Nat := 35
abbrev iX5_init : Nat := 36
abbrev iX5_narrowed : Nat := 37
abbrev iX6_init : Nat := 38
abbrev iX6_chosenDay : Nat := 39
abbrev iX6_says : Nat := 40
abbrev iX6_waits : Nat := 41
abbrev iX7_init : Nat := 42
abbrev iX7_chosenDay : Nat := 43
abbrev iX7_firstWeather : Nat := 44
abbrev iX7_tells : Nat := 45
abbrev iX7_shares : Nat := 46
abbrev iX8_init : Nat := 47
abbrev iX8_clear : Nat := 48
abbrev iX8_begin : Nat := 49
abbrev iX9_init : Nat := 50
abbrev iX9_forgetAll : Nat := 51
abbrev iX9_forgetDay : Nat := 52
abbrev iX9_become : Nat := 53
abbrev iX9_isOver : Nat := 54
abbrev iX9_weightWith : Nat := 55
abbrev iX9_allWith : Nat := 56
abbrev iX9_weightOf : Nat := 57
abbrev iX9_allOf : Nat := 58
abbrev iX9_earn : Nat := 59
abbrev iX9_likeliest : Nat := 60
abbrev iX9_lastOpenDay : Nat := 61
abbrev iX9_sayerAt : Nat := 62
abbrev iX9_addSayer : Nat := 63
abbrev iX9_isSaid : Nat := 64
abbrev iX9_room : Nat := 65
abbrev iX9_addSaying : Nat := 66
abbrev iX9_sellSaying : Nat := 67
abbrev iX9_sayingsOf : Nat := 68
abbrev iX9_isRight : Nat := 69
abbrev iX9_overOf : Nat := 70
abbrev iX9_rightOf : Nat := 71
abbrev iX9_ownerOf : Nat := 72
abbrev iX9_pursesTogether : Nat := 73
abbrev iX9_dayToSay : Nat := 74
abbrev iX9_sayingsAtOnce : Nat := 75
abbrev iX9_dawn : Nat := 76
abbrev iX9_letSpeak : Nat := 77
abbrev iX9_drawn : Nat := 78
abbrev iX9_settle : Nat := 79
abbrev iX9_latestMorning : Nat := 80
abbrev iX9_takingsTimesAll : Nat := 81
abbrev iX9_gainTimesAll : Nat := 82
abbrev iX9_bestTimesAll : Nat := 83
abbrev iX9_bestPlace : Nat := 84
abbrev iX9_owedFor : Nat := 85
abbrev iX10_init : Nat := 86
abbrev iX10_feed : Nat := 87
abbrev iX10_clerk : Nat := 88
abbrev iX10_worth : Nat := 89
abbrev iX10_weigh : Nat := 90
abbrev iX10_sign : Nat := 91
abbrev iX10_dayOf : Nat := 92
abbrev iX10_set : Nat := 93
abbrev iX10_sayer : Nat := 94
abbrev iX10_sayerOf : Nat := 95
abbrev iX10_mind : Nat := 96
abbrev iX10_purse : Nat := 97
abbrev iX10_say : Nat := 98
abbrev iX10_sayingOf : Nat := 99
abbrev iX10_would : Nat := 100
abbrev iX10_morning : Nat := 101
abbrev iX10_now : Nat := 102
abbrev iX10_owner : Nat := 103
abbrev iX10_odds : Nat := 104
abbrev iX10_gain : Nat := 105
abbrev iX10_waited : Nat := 106
abbrev iX10_best : Nat := 107
abbrev iX10_whole : Nat := 108
abbrev iX10_owed : Nat := 109
abbrev iX10_believed : Nat := 110
abbrev iX10_whom : Nat := 111
abbrev iX10_open : Nat := 112
abbrev iX10_seed : Nat := 113
abbrev iX10_prove : Nat := 114
abbrev iX10_row : Nat := 115
abbrev iX10_alterRow : Nat := 116
abbrev iX10_judge : Nat := 117
abbrev iX10_worths : Nat := 118
abbrev iX10_sheet : Nat := 119
abbrev iX10_put : Nat := 120
abbrev iX10_item : Nat := 121
abbrev iX10_shelf : Nat := 122
abbrev iX10_taken : Nat := 123
abbrev iX10_act : Nat := 124
abbrev iX10_trace : Nat := 125
abbrev iX10_many : Nat := 126
abbrev iX10_keep : Nat := 127
abbrev iX10_again : Nat := 128
abbrev iX10_isDay : Nat := 129
abbrev iX10_isComing : Nat := 130
abbrev iX10_isWeather : Nat := 131
abbrev iX10_isKind : Nat := 132
abbrev iX10_isA : Nat := 133
abbrev iX10_isPart : Nat := 134
abbrev iX10_isSheet : Nat := 135
abbrev iX10_isShelf : Nat := 136
abbrev iX10_isInRow : Nat := 137
abbrev iX10_orNotYet : Nat := 138
abbrev iX10_partOf : Nat := 139
abbrev iX10_commonDivisor : Nat := 140
abbrev iX10_isUnder : Nat := 141
abbrev iX10_thingOf : Nat := 142
abbrev iX11_init : Nat := 143
abbrev iX11_in : Nat := 144
abbrev iX11_isDay : Nat := 145
abbrev iX11_isWeather : Nat := 146
abbrev iX11_isSayer : Nat := 147
abbrev iX11_isSide : Nat := 148
abbrev iX11_its : Nat := 149
abbrev iX11_saying : Nat := 150
abbrev iX11_kindOf : Nat := 151
abbrev iX11_aOf : Nat := 152
abbrev iX11_feed : Nat := 153
abbrev iX11_byteAt : Nat := 154
abbrev iX11_isLetter : Nat := 155
abbrev iX11_isDigit : Nat := 156
abbrev iX11_advance : Nat := 157
abbrev iX11_isWord : Nat := 158
abbrev iX11_isMark : Nat := 159
abbrev iX11_kindHere : Nat := 160
abbrev iX11_wantNumber : Nat := 161
abbrev iX11_wantWord : Nat := 162
abbrev iX11_wantEnd : Nat := 163
abbrev iX11_wantDay : Nat := 164
abbrev iX11_isFreshSaid : Nat := 165
abbrev iX11_wantSaying : Nat := 166
abbrev iX11_wantSayer : Nat := 167
abbrev iX11_wantClause : Nat := 168
abbrev iX11_clerk : Nat := 169
abbrev iX11_becomes : Nat := 170
abbrev iX11_worth : Nat := 171
abbrev iX11_weigh : Nat := 172
abbrev iX11_plainAll : Nat := 173
abbrev iX11_sign : Nat := 174
abbrev iX11_weightOf : Nat := 175
abbrev iX11_allOf : Nat := 176
abbrev iX11_earn : Nat := 177
abbrev iX11_likeliest : Nat := 178
abbrev iX11_saidOf : Nat := 179
abbrev iX11_orNot : Nat := 180
abbrev iX11_dayOf : Nat := 181
abbrev iX11_set : Nat := 182
abbrev iX11_sayer : Nat := 183
abbrev iX11_sayerOf : Nat := 184
abbrev iX11_mind : Nat := 185
abbrev iX11_purse : Nat := 186
abbrev iX11_says : Nat := 187
abbrev iX11_say : Nat := 188
abbrev iX11_sayingOf : Nat := 189
abbrev iX11_one : Nat := 190
abbrev iX11_lastOpen : Nat := 191
abbrev iX11_findSaying : Nat := 192
abbrev iX11_would : Nat := 193
abbrev iX11_drawn : Nat := 194
abbrev iX11_morningGoes : Nat := 195
abbrev iX11_morning : Nat := 196
abbrev iX11_now : Nat := 197
abbrev iX11_owner : Nat := 198
abbrev iX11_lowest : Nat := 199
abbrev iX11_toldPart : Nat := 200
abbrev iX11_isComing : Nat := 201
abbrev iX11_odds : Nat := 202
abbrev iX11_gainBy : Nat := 203
abbrev iX11_gain : Nat := 204
abbrev iX11_bestBy : Nat := 205
abbrev iX11_waited : Nat := 206
abbrev iX11_best : Nat := 207
abbrev iX11_whole : Nat := 208
abbrev iX11_owed : Nat := 209
abbrev iX11_findRight : Nat := 210
abbrev iX11_believed : Nat := 211
abbrev iX11_whom : Nat := 212
abbrev iX11_open : Nat := 213
abbrev iX11_seed : Nat := 214
abbrev iX11_findRows : Nat := 215
abbrev iX11_prove : Nat := 216
abbrev iX11_isRow : Nat := 217
abbrev iX11_row : Nat := 218
abbrev iX11_alterRow : Nat := 219
abbrev iX11_judge : Nat := 220
abbrev iX11_worths : Nat := 221
abbrev iX11_isShelf : Nat := 222
abbrev iX11_sheet : Nat := 223
abbrev iX11_put : Nat := 224
abbrev iX11_lacksSort : Nat := 225
abbrev iX11_item : Nat := 226
abbrev iX11_isHeld : Nat := 227
abbrev iX11_shelf : Nat := 228
abbrev iX11_kindOn : Nat := 229
abbrev iX11_isUnder : Nat := 230
abbrev iX11_taken : Nat := 231
abbrev iX11_ran : Nat := 232
abbrev iX11_plainSays : Nat := 233
abbrev iX11_lateSays : Nat := 234
abbrev iX11_saysIt : Nat := 235
abbrev iX11_plainWaits : Nat := 236
abbrev iX11_waitsIt : Nat := 237
abbrev iX11_plainShares : Nat := 238
abbrev iX11_sharesIt : Nat := 239
abbrev iX11_plainTells : Nat := 240
abbrev iX11_tellsIt : Nat := 241
abbrev iX11_act : Nat := 242
abbrev iX11_trace : Nat := 243
abbrev iX11_many : Nat := 244
abbrev iX11_moveRow : Nat := 245
abbrev iX11_moveAll : Nat := 246
abbrev iX11_keep : Nat := 247
abbrev iX11_again : Nat := 248
abbrev iL_law : Nat := 249
def cNm (k : Nat) : String := ([RX0, RX1, RX2, RX3, RX4, RX5, RX6, RX7, RX8, RX9, RX10, RX11, RL, RJ9] : List String).getD k ""
def mTl : List (MethodName × ByteArray × Nat × Option FieldType × Nat × Nat × Nat) := [
  (yX0_init, cX0_init, 3, none, 3, 66, 0),
  (yX0_firstWeather, cX0_firstWeather, 3, some .int, 0, 0, 0),
  (yX0_breadth, cX0_breadth, 1, some .int, 0, 0, 0),
  (yX0_shares, cX0_shares, 3, some .int, 2, 44, 0),
  (yX0_says, cX0_says, 3, some .int, 1, 22, 0),
  (yX1_init, cX1_init, 1, none, 1, 20, 1),
  (yX1_addByte, cX1_addByte, 2, none, 0, 0, 1),
  (yX1_readInto, cX1_readInto, 3, some .int, 9, 178, 1),
  (yX1_readThing, cX1_readThing, 3, none, 8, 156, 1),
  (yX1_kindNamed, cX1_kindNamed, 1, some .int, 6, 113, 1),
  (yX1_readSayer, cX1_readSayer, 4, none, 5, 110, 1),
  (yX1_readSaying, cX1_readSaying, 6, none, 3, 62, 1),
  (yX1_readDay, cX1_readDay, 4, none, 7, 133, 1),
  (yX1_readWeights, cX1_readWeights, 5, none, 3, 62, 1),
  (yX1_takeWorthName, cX1_takeWorthName, 1, none, 6, 113, 1),
  (yX1_takeSemicolon, cX1_takeSemicolon, 1, none, 2, 40, 1),
  (yX1_takeNumber, cX1_takeNumber, 3, some .int, 2, 40, 1),
  (yX1_valueOfNext, cX1_valueOfNext, 3, some .int, 0, 0, 1),
  (yX1_isName, cX1_isName, 3, some .boolean, 5, 91, 1),
  (yX1_step, cX1_step, 1, none, 1, 20, 1),
  (yX1_sortOf, cX1_sortOf, 1, some .int, 0, 0, 1),
  (yX2_init, cX2_init, 4, none, 2, 43, 2),
  (yX2_chosenDay, cX2_chosenDay, 2, some .int, 2, 45, 2),
  (yX2_waits, cX2_waits, 3, some .int, 4, 88, 2),
  (yX3_init, cX3_init, 4, none, 2, 43, 3),
  (yX3_chosenDay, cX3_chosenDay, 2, some .int, 2, 49, 3),
  (yX3_says, cX3_says, 3, some .int, 1, 22, 3),
  (yX3_tells, cX3_tells, 3, some .int, 6, 132, 3),
  (yX4_init, cX4_init, 4, none, 1, 20, 4),
  (yX4_chosenDay, cX4_chosenDay, 2, some .int, 0, 0, 4),
  (yX4_firstWeather, cX4_firstWeather, 3, some .int, 2, 49, 4),
  (yX4_breadth, cX4_breadth, 1, some .int, 0, 0, 4),
  (yX4_says, cX4_says, 3, some .int, 0, 0, 4),
  (yX4_waits, cX4_waits, 3, some .int, 3, 66, 4),
  (yX4_shares, cX4_shares, 4, some .int, 1, 21, 4),
  (yX4_tells, cX4_tells, 3, some .int, 5, 110, 4),
  (yX5_init, cX5_init, 3, none, 1, 20, 5),
  (yX5_narrowed, cX5_narrowed, 2, some .long, 0, 0, 5),
  (yX6_init, cX6_init, 3, none, 3, 66, 6),
  (yX6_chosenDay, cX6_chosenDay, 4, some .int, 3, 70, 6),
  (yX6_says, cX6_says, 3, some .int, 2, 44, 6),
  (yX6_waits, cX6_waits, 3, some .int, 4, 88, 6),
  (yX7_init, cX7_init, 3, none, 2, 43, 7),
  (yX7_chosenDay, cX7_chosenDay, 2, some .int, 1, 22, 7),
  (yX7_firstWeather, cX7_firstWeather, 3, some .int, 0, 0, 7),
  (yX7_tells, cX7_tells, 3, some .int, 6, 132, 7),
  (yX7_shares, cX7_shares, 3, some .int, 2, 44, 7),
  (yX8_init, cX8_init, 1, none, 1, 20, 8),
  (yX8_clear, cX8_clear, 1, none, 0, 0, 8),
  (yX8_begin, cX8_begin, 2, none, 0, 0, 8),
  (yX9_init, cX9_init, 1, none, 2, 43, 9),
  (yX9_forgetAll, cX9_forgetAll, 2, none, 1, 22, 9),
  (yX9_forgetDay, cX9_forgetDay, 3, none, 0, 0, 9),
  (yX9_become, cX9_become, 3, none, 1, 26, 9),
  (yX9_isOver, cX9_isOver, 2, some .boolean, 0, 0, 9),
  (yX9_weightWith, cX9_weightWith, 5, some .int, 0, 0, 9),
  (yX9_allWith, cX9_allWith, 5, some .int, 1, 24, 9),
  (yX9_weightOf, cX9_weightOf, 3, some .int, 1, 24, 9),
  (yX9_allOf, cX9_allOf, 2, some .int, 2, 48, 9),
  (yX9_earn, cX9_earn, 2, some .int, 0, 0, 9),
  (yX9_likeliest, cX9_likeliest, 6, some .int, 1, 24, 9),
  (yX9_lastOpenDay, cX9_lastOpenDay, 3, some .int, 1, 23, 9),
  (yX9_sayerAt, cX9_sayerAt, 2, some (.object "SaidWeather$Sayer"), 0, 0, 9),
  (yX9_addSayer, cX9_addSayer, 3, some .int, 0, 0, 9),
  (yX9_isSaid, cX9_isSaid, 3, some .boolean, 0, 0, 9),
  (yX9_room, cX9_room, 1, some .int, 0, 0, 9),
  (yX9_addSaying, cX9_addSaying, 5, some .int, 0, 0, 9),
  (yX9_sellSaying, cX9_sellSaying, 4, some .int, 1, 24, 9),
  (yX9_sayingsOf, cX9_sayingsOf, 4, some .int, 0, 0, 9),
  (yX9_isRight, cX9_isRight, 3, some .boolean, 1, 21, 9),
  (yX9_overOf, cX9_overOf, 4, some .int, 1, 21, 9),
  (yX9_rightOf, cX9_rightOf, 4, some .int, 2, 43, 9),
  (yX9_ownerOf, cX9_ownerOf, 3, some .int, 2, 43, 9),
  (yX9_pursesTogether, cX9_pursesTogether, 3, some .int, 0, 0, 9),
  (yX9_dayToSay, cX9_dayToSay, 2, some .int, 4, 93, 9),
  (yX9_sayingsAtOnce, cX9_sayingsAtOnce, 2, some .int, 1, 23, 9),
  (yX9_dawn, cX9_dawn, 3, none, 6, 139, 9),
  (yX9_letSpeak, cX9_letSpeak, 6, none, 5, 114, 9),
  (yX9_drawn, cX9_drawn, 6, some .int, 3, 69, 9),
  (yX9_settle, cX9_settle, 3, none, 2, 43, 9),
  (yX9_latestMorning, cX9_latestMorning, 3, some .int, 3, 65, 9),
  (yX9_takingsTimesAll, cX9_takingsTimesAll, 5, some .int, 2, 48, 9),
  (yX9_gainTimesAll, cX9_gainTimesAll, 4, some .long, 3, 72, 9),
  (yX9_bestTimesAll, cX9_bestTimesAll, 6, some .long, 4, 95, 9),
  (yX9_bestPlace, cX9_bestPlace, 12, some .int, 4, 95, 9),
  (yX9_owedFor, cX9_owedFor, 4, some .long, 3, 72, 9),
  (yX10_init, cX10_init, 1, none, 3, 63, 10),
  (yX10_feed, cX10_feed, 5, some .int, 1, 21, 10),
  (yX10_clerk, cX10_clerk, 2, some .int, 10, 200, 10),
  (yX10_worth, cX10_worth, 4, some .int, 1, 20, 10),
  (yX10_weigh, cX10_weigh, 6, some .int, 2, 48, 10),
  (yX10_sign, cX10_sign, 4, some .int, 1, 20, 10),
  (yX10_dayOf, cX10_dayOf, 3, some .int, 2, 49, 10),
  (yX10_set, cX10_set, 4, some .int, 0, 0, 10),
  (yX10_sayer, cX10_sayer, 3, some .int, 5, 110, 10),
  (yX10_sayerOf, cX10_sayerOf, 4, some .int, 1, 23, 10),
  (yX10_mind, cX10_mind, 5, some .int, 5, 110, 10),
  (yX10_purse, cX10_purse, 4, some .int, 1, 21, 10),
  (yX10_say, cX10_say, 4, some .int, 2, 47, 10),
  (yX10_sayingOf, cX10_sayingOf, 3, some .int, 2, 43, 10),
  (yX10_would, cX10_would, 5, some .int, 5, 114, 10),
  (yX10_morning, cX10_morning, 3, some .int, 7, 161, 10),
  (yX10_now, cX10_now, 1, some .int, 0, 0, 10),
  (yX10_owner, cX10_owner, 3, some .int, 3, 65, 10),
  (yX10_odds, cX10_odds, 4, some .int, 3, 69, 10),
  (yX10_gain, cX10_gain, 4, some .long, 4, 95, 10),
  (yX10_waited, cX10_waited, 7, some .long, 5, 120, 10),
  (yX10_best, cX10_best, 3, some .int, 5, 126, 10),
  (yX10_whole, cX10_whole, 6, some .long, 4, 95, 10),
  (yX10_owed, cX10_owed, 5, some .long, 4, 95, 10),
  (yX10_believed, cX10_believed, 4, some .int, 3, 66, 10),
  (yX10_whom, cX10_whom, 7, some .int, 3, 66, 10),
  (yX10_open, cX10_open, 3, some .int, 0, 0, 10),
  (yX10_seed, cX10_seed, 3, some .int, 0, 0, 10),
  (yX10_prove, cX10_prove, 4, some .int, 7, 161, 10),
  (yX10_row, cX10_row, 3, some .int, 1, 22, 10),
  (yX10_alterRow, cX10_alterRow, 5, some .int, 1, 22, 10),
  (yX10_judge, cX10_judge, 3, some .int, 7, 161, 10),
  (yX10_worths, cX10_worths, 8, some .int, 1, 23, 10),
  (yX10_sheet, cX10_sheet, 4, some .int, 2, 42, 10),
  (yX10_put, cX10_put, 5, some .int, 1, 21, 10),
  (yX10_item, cX10_item, 5, some .int, 1, 20, 10),
  (yX10_shelf, cX10_shelf, 4, some .int, 1, 21, 10),
  (yX10_taken, cX10_taken, 7, some .int, 1, 21, 10),
  (yX10_act, cX10_act, 6, some .int, 7, 154, 10),
  (yX10_trace, cX10_trace, 2, some .int, 0, 0, 10),
  (yX10_many, cX10_many, 2, some .int, 0, 0, 10),
  (yX10_keep, cX10_keep, 1, some .int, 2, 48, 10),
  (yX10_again, cX10_again, 1, some .int, 2, 48, 10),
  (yX10_isDay, cX10_isDay, 1, some .boolean, 0, 0, 10),
  (yX10_isComing, cX10_isComing, 2, some .boolean, 1, 21, 10),
  (yX10_isWeather, cX10_isWeather, 1, some .boolean, 0, 0, 10),
  (yX10_isKind, cX10_isKind, 1, some .boolean, 0, 0, 10),
  (yX10_isA, cX10_isA, 1, some .boolean, 0, 0, 10),
  (yX10_isPart, cX10_isPart, 1, some .boolean, 0, 0, 10),
  (yX10_isSheet, cX10_isSheet, 1, some .boolean, 0, 0, 10),
  (yX10_isShelf, cX10_isShelf, 1, some .boolean, 0, 0, 10),
  (yX10_isInRow, cX10_isInRow, 3, some .boolean, 0, 0, 10),
  (yX10_orNotYet, cX10_orNotYet, 1, some .int, 0, 0, 10),
  (yX10_partOf, cX10_partOf, 7, some .long, 1, 30, 10),
  (yX10_commonDivisor, cX10_commonDivisor, 11, some .long, 0, 0, 10),
  (yX10_isUnder, cX10_isUnder, 2, some .boolean, 0, 0, 10),
  (yX10_thingOf, cX10_thingOf, 3, some (.object "SaidWeather$Sayer"), 4, 88, 10),
  (yX11_init, cX11_init, 2, none, 1, 20, 11),
  (yX11_in, cX11_in, 3, some .boolean, 0, 0, 11),
  (yX11_isDay, cX11_isDay, 1, some .boolean, 1, 22, 11),
  (yX11_isWeather, cX11_isWeather, 1, some .boolean, 1, 22, 11),
  (yX11_isSayer, cX11_isSayer, 2, some .boolean, 1, 22, 11),
  (yX11_isSide, cX11_isSide, 1, some .boolean, 1, 22, 11),
  (yX11_its, cX11_its, 2, some .int, 0, 0, 11),
  (yX11_saying, cX11_saying, 3, some .int, 0, 0, 11),
  (yX11_kindOf, cX11_kindOf, 2, some .int, 0, 0, 11),
  (yX11_aOf, cX11_aOf, 2, some .int, 0, 0, 11),
  (yX11_feed, cX11_feed, 5, some .int, 1, 22, 11),
  (yX11_byteAt, cX11_byteAt, 2, some .int, 0, 0, 11),
  (yX11_isLetter, cX11_isLetter, 1, some .boolean, 1, 22, 11),
  (yX11_isDigit, cX11_isDigit, 1, some .boolean, 1, 22, 11),
  (yX11_advance, cX11_advance, 2, none, 2, 42, 11),
  (yX11_isWord, cX11_isWord, 3, some .boolean, 0, 0, 11),
  (yX11_isMark, cX11_isMark, 2, some .boolean, 0, 0, 11),
  (yX11_kindHere, cX11_kindHere, 1, some .int, 1, 22, 11),
  (yX11_wantNumber, cX11_wantNumber, 3, some .int, 3, 63, 11),
  (yX11_wantWord, cX11_wantWord, 3, none, 3, 63, 11),
  (yX11_wantEnd, cX11_wantEnd, 1, none, 3, 63, 11),
  (yX11_wantDay, cX11_wantDay, 5, none, 4, 85, 11),
  (yX11_isFreshSaid, cX11_isFreshSaid, 5, some .boolean, 0, 0, 11),
  (yX11_wantSaying, cX11_wantSaying, 4, none, 4, 85, 11),
  (yX11_wantSayer, cX11_wantSayer, 3, none, 4, 85, 11),
  (yX11_wantClause, cX11_wantClause, 1, none, 5, 109, 11),
  (yX11_clerk, cX11_clerk, 2, some .int, 6, 129, 11),
  (yX11_becomes, cX11_becomes, 2, none, 0, 0, 11),
  (yX11_worth, cX11_worth, 4, some .int, 2, 42, 11),
  (yX11_weigh, cX11_weigh, 5, some .int, 2, 42, 11),
  (yX11_plainAll, cX11_plainAll, 2, some .int, 0, 0, 11),
  (yX11_sign, cX11_sign, 4, some .int, 2, 42, 11),
  (yX11_weightOf, cX11_weightOf, 3, some .int, 1, 21, 11),
  (yX11_allOf, cX11_allOf, 2, some .int, 1, 21, 11),
  (yX11_earn, cX11_earn, 2, some .int, 0, 0, 11),
  (yX11_likeliest, cX11_likeliest, 4, some .int, 2, 43, 11),
  (yX11_saidOf, cX11_saidOf, 4, some .int, 1, 22, 11),
  (yX11_orNot, cX11_orNot, 1, some .int, 0, 0, 11),
  (yX11_dayOf, cX11_dayOf, 3, some .int, 3, 66, 11),
  (yX11_set, cX11_set, 5, some .int, 1, 22, 11),
  (yX11_sayer, cX11_sayer, 3, some .int, 1, 22, 11),
  (yX11_sayerOf, cX11_sayerOf, 5, some .int, 2, 43, 11),
  (yX11_mind, cX11_mind, 5, some .int, 2, 43, 11),
  (yX11_purse, cX11_purse, 4, some .int, 2, 43, 11),
  (yX11_says, cX11_says, 5, none, 1, 21, 11),
  (yX11_say, cX11_say, 4, some .int, 2, 45, 11),
  (yX11_sayingOf, cX11_sayingOf, 3, some .int, 1, 22, 11),
  (yX11_one, cX11_one, 3, none, 2, 45, 11),
  (yX11_lastOpen, cX11_lastOpen, 3, some .int, 2, 45, 11),
  (yX11_findSaying, cX11_findSaying, 7, none, 3, 67, 11),
  (yX11_would, cX11_would, 3, some .int, 4, 93, 11),
  (yX11_drawn, cX11_drawn, 5, some .int, 2, 43, 11),
  (yX11_morningGoes, cX11_morningGoes, 5, none, 4, 93, 11),
  (yX11_morning, cX11_morning, 3, some .int, 5, 117, 11),
  (yX11_now, cX11_now, 1, some .int, 0, 0, 11),
  (yX11_owner, cX11_owner, 4, some .int, 2, 42, 11),
  (yX11_lowest, cX11_lowest, 11, none, 0, 0, 11),
  (yX11_toldPart, cX11_toldPart, 2, some .long, 0, 0, 11),
  (yX11_isComing, cX11_isComing, 2, some .boolean, 1, 22, 11),
  (yX11_odds, cX11_odds, 4, some .int, 2, 43, 11),
  (yX11_gainBy, cX11_gainBy, 4, some .long, 1, 21, 11),
  (yX11_gain, cX11_gain, 4, some .long, 2, 45, 11),
  (yX11_bestBy, cX11_bestBy, 9, some .long, 2, 45, 11),
  (yX11_waited, cX11_waited, 6, some .long, 3, 73, 11),
  (yX11_best, cX11_best, 11, some .int, 2, 45, 11),
  (yX11_whole, cX11_whole, 6, some .long, 2, 45, 11),
  (yX11_owed, cX11_owed, 8, some .long, 2, 43, 11),
  (yX11_findRight, cX11_findRight, 4, none, 1, 22, 11),
  (yX11_believed, cX11_believed, 3, some .int, 2, 45, 11),
  (yX11_whom, cX11_whom, 5, some .int, 2, 45, 11),
  (yX11_open, cX11_open, 3, some .int, 2, 45, 11),
  (yX11_seed, cX11_seed, 3, some .int, 0, 0, 11),
  (yX11_findRows, cX11_findRows, 4, none, 5, 117, 11),
  (yX11_prove, cX11_prove, 3, some .int, 6, 140, 11),
  (yX11_isRow, cX11_isRow, 3, some .boolean, 1, 22, 11),
  (yX11_row, cX11_row, 3, some .int, 2, 44, 11),
  (yX11_alterRow, cX11_alterRow, 5, some .int, 2, 44, 11),
  (yX11_judge, cX11_judge, 4, some .int, 6, 140, 11),
  (yX11_worths, cX11_worths, 9, some .int, 2, 42, 11),
  (yX11_isShelf, cX11_isShelf, 1, some .boolean, 1, 22, 11),
  (yX11_sheet, cX11_sheet, 5, some .int, 2, 42, 11),
  (yX11_put, cX11_put, 4, some .int, 2, 42, 11),
  (yX11_lacksSort, cX11_lacksSort, 3, some .int, 0, 0, 11),
  (yX11_item, cX11_item, 5, some .int, 2, 42, 11),
  (yX11_isHeld, cX11_isHeld, 3, some .boolean, 2, 43, 11),
  (yX11_shelf, cX11_shelf, 4, some .int, 3, 65, 11),
  (yX11_kindOn, cX11_kindOn, 2, some .int, 2, 43, 11),
  (yX11_isUnder, cX11_isUnder, 2, some .boolean, 0, 0, 11),
  (yX11_taken, cX11_taken, 4, some .int, 3, 64, 11),
  (yX11_ran, cX11_ran, 2, none, 0, 0, 11),
  (yX11_plainSays, cX11_plainSays, 2, some .int, 1, 21, 11),
  (yX11_lateSays, cX11_lateSays, 2, some .int, 2, 42, 11),
  (yX11_saysIt, cX11_saysIt, 2, some .int, 3, 63, 11),
  (yX11_plainWaits, cX11_plainWaits, 2, some .int, 4, 84, 11),
  (yX11_waitsIt, cX11_waitsIt, 3, some .int, 5, 105, 11),
  (yX11_plainShares, cX11_plainShares, 2, some .int, 1, 21, 11),
  (yX11_sharesIt, cX11_sharesIt, 3, some .int, 4, 84, 11),
  (yX11_plainTells, cX11_plainTells, 2, some .int, 6, 127, 11),
  (yX11_tellsIt, cX11_tellsIt, 3, some .int, 7, 148, 11),
  (yX11_act, cX11_act, 6, some .int, 8, 170, 11),
  (yX11_trace, cX11_trace, 2, some .int, 1, 22, 11),
  (yX11_many, cX11_many, 2, some .int, 0, 0, 11),
  (yX11_moveRow, cX11_moveRow, 5, none, 0, 0, 11),
  (yX11_moveAll, cX11_moveAll, 2, none, 1, 24, 11),
  (yX11_keep, cX11_keep, 1, some .int, 2, 45, 11),
  (yX11_again, cX11_again, 1, some .int, 2, 45, 11),
  (yL_law, cL_law, 4, some .boolean, 13, 472, 12)]
def cST : List (Nat × Nat × Nat × Nat × List (Nat × Nat)) := [
  (0, 3, 3, 2, [(99, 21)]),
  (0, 9, 1, 0, [(8, 49)]),
  (0, 15, 2, 3, [(99, 34)]),
  (0, 19, 2, 3, [(99, 32)]),
  (1, 3, 0, 4, []),
  (1, 25, 0, 0, [(1, 19)]),
  (1, 31, 1, 0, [(1, 8)]),
  (1, 35, 0, 0, [(1, 9)]),
  (1, 39, 2, 0, [(1, 10)]),
  (1, 45, 1, 0, [(1, 18)]),
  (1, 49, 1, 0, [(1, 12)]),
  (1, 54, 1, 0, [(1, 11)]),
  (1, 59, 1, 0, [(1, 16)]),
  (1, 71, 0, 0, [(1, 15)]),
  (1, 89, 3, 1, [(99, 142)]),
  (1, 93, 1, 0, [(9, 63)]),
  (1, 97, 0, 0, [(9, 65)]),
  (1, 100, 2, 0, [(9, 64)]),
  (1, 104, 3, 0, [(9, 66)]),
  (1, 108, 0, 0, [(1, 14)]),
  (1, 111, 1, 0, [(9, 52)]),
  (1, 121, 2, 0, [(1, 13)]),
  (1, 132, 2, 0, [(9, 56)]),
  (1, 138, 0, 0, [(1, 17)]),
  (1, 141, 0, 5, []),
  (1, 145, 1, 6, []),
  (1, 149, 1, 1, [(99, 20)]),
  (2, 1, 3, 2, [(99, 28)]),
  (2, 13, 1, 0, [(9, 61)]),
  (2, 19, 1, 0, [(8, 49)]),
  (2, 25, 2, 3, [(99, 33)]),
  (3, 1, 3, 2, [(99, 28)]),
  (3, 13, 1, 0, [(9, 60)]),
  (3, 17, 2, 0, [(9, 64)]),
  (3, 21, 1, 0, [(8, 49)]),
  (3, 27, 2, 3, [(99, 32)]),
  (3, 31, 2, 3, [(99, 35)]),
  (3, 39, 2, 0, [(3, 34), (6, 34)]),
  (4, 3, 0, 4, []),
  (4, 21, 1, 0, [(9, 60)]),
  (4, 40, 1, 0, [(8, 49)]),
  (4, 44, 2, 0, [(0, 4), (2, 32), (3, 26), (4, 32), (6, 40), (7, 32)]),
  (4, 48, 2, 0, [(0, 23), (2, 23), (3, 33), (4, 33), (6, 41), (7, 33)]),
  (5, 1, 0, 4, []),
  (6, 3, 3, 2, [(99, 24)]),
  (6, 15, 1, 0, [(9, 60)]),
  (6, 19, 2, 0, [(9, 57)]),
  (6, 28, 1, 0, [(9, 58)]),
  (6, 31, 1, 3, [(99, 25)]),
  (6, 35, 1, 0, [(8, 49)]),
  (6, 41, 2, 3, [(99, 26)]),
  (6, 45, 2, 3, [(99, 33)]),
  (6, 51, 2, 0, [(6, 40)]),
  (7, 3, 3, 2, [(99, 28)]),
  (7, 20, 2, 0, [(9, 64)]),
  (7, 24, 1, 0, [(8, 49)]),
  (7, 30, 2, 3, [(99, 35)]),
  (7, 34, 2, 3, [(99, 34)]),
  (7, 37, 2, 0, [(7, 32)]),
  (8, 3, 0, 4, []),
  (9, 3, 0, 4, []),
  (9, 30, 0, 8, []),
  (9, 60, 0, 0, [(9, 51)]),
  (9, 63, 1, 0, [(9, 52)]),
  (9, 76, 5, 7, []),
  (9, 82, 3, 0, [(9, 55)]),
  (9, 86, 2, 0, [(9, 56)]),
  (9, 90, 2, 10, []),
  (9, 95, 3, 0, [(9, 66)]),
  (9, 98, 1, 0, [(9, 54)]),
  (9, 102, 1, 0, [(9, 69)]),
  (9, 105, 0, 0, [(9, 65)]),
  (9, 109, 1, 0, [(0, 22), (2, 22), (3, 25), (4, 29), (6, 39), (7, 43)]),
  (9, 113, 0, 0, [(0, 2), (2, 31), (3, 31), (4, 31), (6, 31), (7, 31)]),
  (9, 116, 1, 0, [(9, 77)]),
  (9, 120, 1, 0, [(9, 78)]),
  (9, 124, 1, 0, [(9, 79)]),
  (9, 127, 1, 0, [(9, 74)]),
  (9, 131, 2, 0, [(0, 1), (2, 30), (3, 30), (4, 30), (6, 30), (7, 44)]),
  (9, 135, 1, 0, [(9, 75)]),
  (9, 141, 3, 0, [(9, 67)]),
  (9, 145, 1, 0, [(9, 58)]),
  (9, 148, 2, 0, [(9, 57)]),
  (9, 151, 1, 0, [(9, 59)]),
  (9, 154, 1, 0, [(9, 72)]),
  (9, 157, 0, 0, [(9, 73)]),
  (9, 160, 3, 0, [(9, 81)]),
  (9, 163, 2, 0, [(9, 64)]),
  (9, 167, 3, 0, [(9, 82)]),
  (9, 171, 2, 11, []),
  (10, 1, 0, 4, []),
  (10, 9, 0, 2, [(99, 50)]),
  (10, 24, 0, 2, [(99, 5)]),
  (10, 47, 0, 2, [(99, 47)]),
  (10, 56, 1, 0, [(1, 6)]),
  (10, 60, 1, 0, [(9, 53)]),
  (10, 64, 0, 0, [(9, 51)]),
  (10, 67, 1, 0, [(1, 7)]),
  (10, 77, 1, 1, [(99, 129)]),
  (10, 84, 1, 1, [(99, 131)]),
  (10, 90, 2, 0, [(9, 56)]),
  (10, 97, 1, 1, [(99, 138)]),
  (10, 104, 1, 0, [(9, 59)]),
  (10, 107, 1, 0, [(9, 60)]),
  (10, 113, 2, 0, [(9, 57)]),
  (10, 122, 1, 1, [(99, 132)]),
  (10, 125, 1, 1, [(99, 133)]),
  (10, 128, 3, 1, [(99, 142)]),
  (10, 132, 1, 0, [(9, 63)]),
  (10, 136, 1, 0, [(9, 62)]),
  (10, 152, 1, 0, [(9, 68)]),
  (10, 159, 1, 0, [(10, 130)]),
  (10, 162, 2, 0, [(9, 64)]),
  (10, 166, 0, 0, [(9, 65)]),
  (10, 170, 3, 0, [(9, 67)]),
  (10, 186, 1, 0, [(9, 54)]),
  (10, 189, 1, 0, [(9, 69)]),
  (10, 192, 1, 0, [(9, 74)]),
  (10, 195, 2, 0, [(0, 1), (2, 30), (3, 30), (4, 30), (6, 30), (7, 44)]),
  (10, 199, 1, 0, [(9, 75)]),
  (10, 202, 0, 0, [(9, 76)]),
  (10, 208, 1, 0, [(9, 72)]),
  (10, 211, 1, 1, [(99, 134)]),
  (10, 214, 1, 0, [(9, 58)]),
  (10, 217, 3, 1, [(99, 139)]),
  (10, 223, 3, 0, [(9, 82)]),
  (10, 227, 2, 0, [(9, 83)]),
  (10, 231, 0, 0, [(9, 84)]),
  (10, 236, 1, 0, [(9, 85)]),
  (10, 240, 1, 0, [(9, 70)]),
  (10, 243, 1, 0, [(9, 71)]),
  (10, 246, 2, 9, []),
  (10, 254, 2, 10, []),
  (10, 257, 1, 0, [(9, 80)]),
  (10, 260, 2, 0, [(10, 137)]),
  (10, 264, 1, 1, [(99, 135)]),
  (10, 274, 2, 2, [(99, 36)]),
  (10, 277, 1, 0, [(5, 37)]),
  (10, 280, 1, 1, [(99, 136)]),
  (10, 283, 2, 1, [(99, 141)]),
  (10, 290, 0, 0, [(8, 48)]),
  (10, 293, 2, 0, [(0, 4), (2, 32), (3, 26), (4, 32), (6, 40), (7, 32)]),
  (10, 297, 2, 0, [(0, 23), (2, 23), (3, 33), (4, 33), (6, 41), (7, 33)]),
  (10, 300, 2, 0, [(0, 3), (2, 34), (3, 34), (4, 34), (6, 34), (7, 46)]),
  (10, 303, 2, 0, [(0, 35), (2, 35), (3, 27), (4, 35), (6, 27), (7, 45)]),
  (10, 319, 1, 12, []),
  (10, 323, 2, 1, [(99, 140)]),
  (10, 337, 3, 2, [(99, 21)]),
  (10, 340, 3, 2, [(99, 24)]),
  (10, 341, 2, 2, [(99, 38)]),
  (10, 344, 2, 2, [(99, 0)]),
  (10, 345, 2, 2, [(99, 42)]),
  (10, 346, 3, 2, [(99, 28)]),
  (11, 1, 0, 4, []),
  (11, 83, 3, 1, [(99, 144)]),
  (11, 105, 1, 0, [(11, 154)]),
  (11, 109, 1, 1, [(99, 155)]),
  (11, 113, 1, 1, [(99, 156)]),
  (11, 134, 1, 0, [(11, 158)]),
  (11, 152, 0, 0, [(11, 157)]),
  (11, 155, 1, 0, [(11, 159)]),
  (11, 158, 1, 0, [(11, 161)]),
  (11, 163, 1, 0, [(11, 162)]),
  (11, 171, 0, 0, [(11, 163)]),
  (11, 180, 2, 0, [(11, 165)]),
  (11, 186, 0, 0, [(11, 164)]),
  (11, 191, 0, 0, [(11, 166)]),
  (11, 199, 0, 0, [(11, 160)]),
  (11, 203, 1, 0, [(11, 167)]),
  (11, 207, 0, 0, [(11, 168)]),
  (11, 210, 0, 0, [(11, 170)]),
  (11, 216, 1, 1, [(99, 145)]),
  (11, 219, 1, 1, [(99, 146)]),
  (11, 222, 1, 0, [(11, 173)]),
  (11, 225, 1, 0, [(11, 149)]),
  (11, 228, 2, 0, [(11, 175)]),
  (11, 232, 2, 0, [(11, 150)]),
  (11, 235, 1, 1, [(99, 180)]),
  (11, 238, 1, 0, [(11, 177)]),
  (11, 241, 1, 0, [(11, 178)]),
  (11, 244, 1, 0, [(11, 179)]),
  (11, 247, 1, 0, [(11, 147)]),
  (11, 250, 1, 0, [(11, 151)]),
  (11, 253, 1, 0, [(11, 152)]),
  (11, 257, 3, 0, [(11, 187)]),
  (11, 270, 1, 0, [(11, 191)]),
  (11, 273, 2, 0, [(11, 190)]),
  (11, 277, 1, 0, [(11, 176)]),
  (11, 280, 1, 0, [(11, 192)]),
  (11, 284, 2, 0, [(11, 194)]),
  (11, 291, 0, 0, [(11, 195)]),
  (11, 300, 1, 0, [(11, 201)]),
  (11, 303, 1, 1, [(99, 148)]),
  (11, 306, 2, 0, [(11, 199)]),
  (11, 310, 1, 0, [(11, 200)]),
  (11, 316, 3, 0, [(11, 203)]),
  (11, 320, 2, 0, [(11, 205)]),
  (11, 332, 1, 0, [(11, 210)]),
  (11, 338, 1, 0, [(11, 215)]),
  (11, 341, 2, 0, [(11, 217)]),
  (11, 345, 1, 1, [(99, 222)]),
  (11, 348, 2, 0, [(11, 225)]),
  (11, 353, 2, 0, [(11, 227)]),
  (11, 356, 1, 0, [(11, 229)]),
  (11, 359, 2, 1, [(99, 230)]),
  (11, 365, 1, 0, [(11, 232)]),
  (11, 371, 1, 0, [(11, 233)]),
  (11, 377, 1, 0, [(11, 234)]),
  (11, 380, 1, 0, [(11, 235)]),
  (11, 383, 1, 0, [(11, 236)]),
  (11, 392, 1, 0, [(11, 238)]),
  (11, 395, 1, 0, [(11, 237)]),
  (11, 398, 1, 0, [(11, 240)]),
  (11, 401, 1, 0, [(11, 239)]),
  (11, 404, 1, 0, [(11, 241)]),
  (11, 410, 3, 0, [(11, 245)]),
  (11, 414, 1, 0, [(11, 246)]),
  (12, 9, 0, 2, [(99, 86)]),
  (12, 12, 0, 2, [(99, 143)]),
  (12, 15, 2, 0, [(10, 87)]),
  (12, 19, 2, 0, [(11, 153)]),
  (12, 20, 0, 0, [(10, 88)]),
  (12, 24, 0, 0, [(11, 169)]),
  (12, 25, 2, 0, [(10, 89)]),
  (12, 29, 2, 0, [(11, 171)]),
  (12, 30, 3, 0, [(10, 90)]),
  (12, 34, 3, 0, [(11, 172)]),
  (12, 35, 2, 0, [(10, 91)]),
  (12, 38, 2, 0, [(11, 174)]),
  (12, 39, 2, 0, [(10, 92)]),
  (12, 42, 2, 0, [(11, 181)]),
  (12, 43, 2, 0, [(10, 93)]),
  (12, 46, 2, 0, [(11, 182)]),
  (12, 47, 2, 0, [(10, 94)]),
  (12, 50, 2, 0, [(11, 183)]),
  (12, 51, 2, 0, [(10, 95)]),
  (12, 54, 2, 0, [(11, 184)]),
  (12, 55, 3, 0, [(10, 96)]),
  (12, 58, 3, 0, [(11, 185)]),
  (12, 59, 2, 0, [(10, 97)]),
  (12, 62, 2, 0, [(11, 186)]),
  (12, 63, 3, 0, [(10, 98)]),
  (12, 66, 3, 0, [(11, 188)]),
  (12, 67, 2, 0, [(10, 99)]),
  (12, 70, 2, 0, [(11, 189)]),
  (12, 71, 2, 0, [(10, 100)]),
  (12, 74, 2, 0, [(11, 193)]),
  (12, 75, 1, 0, [(10, 101)]),
  (12, 79, 1, 0, [(11, 196)]),
  (12, 80, 0, 0, [(10, 102)]),
  (12, 83, 0, 0, [(11, 197)]),
  (12, 84, 1, 0, [(10, 103)]),
  (12, 87, 1, 0, [(11, 198)]),
  (12, 88, 3, 0, [(10, 104)]),
  (12, 91, 3, 0, [(11, 202)]),
  (12, 92, 3, 0, [(10, 105)]),
  (12, 96, 3, 0, [(11, 204)]),
  (12, 97, 2, 0, [(10, 106)]),
  (12, 101, 2, 0, [(11, 206)]),
  (12, 102, 1, 0, [(10, 107)]),
  (12, 105, 1, 0, [(11, 207)]),
  (12, 106, 2, 0, [(10, 108)]),
  (12, 109, 2, 0, [(11, 208)]),
  (12, 110, 1, 0, [(10, 109)]),
  (12, 114, 1, 0, [(11, 209)]),
  (12, 115, 2, 0, [(10, 110)]),
  (12, 118, 2, 0, [(11, 211)]),
  (12, 119, 0, 0, [(10, 111)]),
  (12, 122, 0, 0, [(11, 212)]),
  (12, 123, 0, 0, [(10, 112)]),
  (12, 126, 0, 0, [(11, 213)]),
  (12, 127, 1, 0, [(10, 113)]),
  (12, 130, 1, 0, [(11, 214)]),
  (12, 131, 1, 0, [(10, 114)]),
  (12, 134, 1, 0, [(11, 216)]),
  (12, 135, 2, 0, [(10, 115)]),
  (12, 138, 2, 0, [(11, 218)]),
  (12, 139, 3, 0, [(10, 116)]),
  (12, 142, 3, 0, [(11, 219)]),
  (12, 143, 0, 0, [(10, 117)]),
  (12, 146, 0, 0, [(11, 220)]),
  (12, 147, 4, 0, [(10, 118)]),
  (12, 151, 4, 0, [(11, 221)]),
  (12, 152, 3, 0, [(10, 119)]),
  (12, 155, 3, 0, [(11, 223)]),
  (12, 156, 3, 0, [(10, 120)]),
  (12, 159, 3, 0, [(11, 224)]),
  (12, 160, 3, 0, [(10, 121)]),
  (12, 163, 3, 0, [(11, 226)]),
  (12, 164, 3, 0, [(10, 122)]),
  (12, 167, 3, 0, [(11, 228)]),
  (12, 168, 2, 0, [(10, 123)]),
  (12, 171, 2, 0, [(11, 231)]),
  (12, 172, 3, 0, [(10, 124)]),
  (12, 175, 3, 0, [(11, 242)]),
  (12, 176, 1, 0, [(10, 125)]),
  (12, 179, 1, 0, [(11, 243)]),
  (12, 180, 1, 0, [(10, 126)]),
  (12, 183, 1, 0, [(11, 244)]),
  (12, 184, 0, 0, [(10, 127)]),
  (12, 187, 0, 0, [(11, 247)]),
  (12, 188, 0, 0, [(10, 128)]),
  (12, 191, 0, 0, [(11, 248)])]
def fDT : List (Nat × Nat × List Nat × Nat × Nat) := [
  (0, 22, [0, 2, 3, 4, 6, 7], 1, 20),
  (1, 9, [1], 0, 13),
  (1, 15, [1], 1, 0),
  (1, 19, [1], 5, 0),
  (1, 22, [1], 4, 0),
  (1, 28, [1], 2, 0),
  (1, 63, [9], 6, 0),
  (1, 68, [1], 3, 0),
  (1, 86, [9], 10, 0),
  (1, 115, [9], 0, 23),
  (1, 126, [9], 2, 23),
  (1, 129, [9], 1, 23),
  (2, 7, [0, 2, 3, 4, 6, 7], 2, 20),
  (3, 7, [9], 6, 0),
  (3, 34, [0, 2, 3, 4, 6, 7], 1, 20),
  (4, 9, [0, 2, 3, 4, 6, 7], 0, 10),
  (4, 15, [0, 2, 3, 4, 6, 7], 1, 10),
  (4, 18, [0, 2, 3, 4, 6, 7], 2, 10),
  (4, 27, [8], 2, 1),
  (4, 33, [8], 1, 0),
  (4, 36, [8], 0, 23),
  (5, 7, [5], 0, 10),
  (5, 13, [5], 1, 13),
  (6, 9, [9], 6, 0),
  (6, 23, [0, 2, 3, 4, 6, 7], 2, 20),
  (6, 48, [0, 2, 3, 4, 6, 7], 1, 20),
  (7, 9, [9], 6, 0),
  (7, 15, [0, 2, 3, 4, 6, 7], 2, 20),
  (8, 9, [8], 0, 13),
  (8, 15, [8], 1, 0),
  (8, 19, [8], 2, 1),
  (9, 9, [9], 0, 13),
  (9, 15, [9], 1, 13),
  (9, 18, [9], 2, 13),
  (9, 21, [9], 3, 13),
  (9, 24, [9], 4, 13),
  (9, 35, [9], 5, 13),
  (9, 38, [9], 7, 0),
  (9, 44, [9], 8, 13),
  (9, 48, [9], 9, 13),
  (9, 51, [9], 11, 13),
  (9, 54, [9], 12, 13),
  (9, 57, [9], 13, 13),
  (9, 67, [9], 6, 0),
  (9, 70, [9], 10, 0),
  (9, 73, [9], 14, 0),
  (9, 138, [0, 2, 3, 4, 6, 7], 1, 20),
  (10, 10, [10], 0, 13),
  (10, 16, [10], 1, 13),
  (10, 19, [10], 2, 13),
  (10, 25, [10], 4, 13),
  (10, 29, [10], 5, 13),
  (10, 35, [10], 7, 13),
  (10, 39, [10], 8, 13),
  (10, 42, [10], 9, 13),
  (10, 48, [10], 10, 13),
  (10, 52, [1], 1, 0),
  (10, 71, [10], 6, 0),
  (10, 74, [9], 10, 0),
  (10, 81, [9], 0, 23),
  (10, 87, [9], 1, 23),
  (10, 94, [9], 2, 23),
  (10, 101, [9], 3, 23),
  (10, 110, [9], 4, 23),
  (10, 119, [9], 5, 23),
  (10, 140, [0, 2, 3, 4, 6, 7], 0, 20),
  (10, 145, [0, 2, 3, 4, 6, 7], 2, 20),
  (10, 148, [9], 9, 23),
  (10, 155, [9], 8, 23),
  (10, 174, [9], 14, 0),
  (10, 177, [9], 11, 23),
  (10, 180, [9], 12, 23),
  (10, 183, [9], 13, 23),
  (10, 205, [9], 6, 0),
  (10, 251, [9], 7, 0),
  (10, 267, [5], 0, 20),
  (10, 270, [5], 1, 23),
  (10, 287, [0, 2, 3, 4, 6, 7], 1, 20),
  (10, 306, [8], 2, 1),
  (10, 310, [8], 1, 0),
  (10, 313, [8], 0, 23),
  (10, 316, [10], 3, 1),
  (11, 7, [11], 0, 13),
  (11, 13, [11], 2, 13),
  (11, 16, [11], 3, 13),
  (11, 19, [11], 5, 13),
  (11, 22, [11], 6, 13),
  (11, 25, [11], 7, 13),
  (11, 28, [11], 8, 13),
  (11, 31, [11], 19, 13),
  (11, 34, [11], 20, 13),
  (11, 37, [11], 21, 13),
  (11, 40, [11], 22, 13),
  (11, 43, [11], 23, 13),
  (11, 46, [11], 24, 13),
  (11, 49, [11], 33, 13),
  (11, 52, [11], 34, 13),
  (11, 55, [11], 37, 13),
  (11, 58, [11], 38, 13),
  (11, 61, [11], 39, 13),
  (11, 65, [11], 40, 13),
  (11, 68, [11], 41, 13),
  (11, 71, [11], 42, 13),
  (11, 74, [11], 46, 13),
  (11, 77, [11], 50, 13),
  (11, 80, [11], 52, 13),
  (11, 87, [11], 4, 0),
  (11, 91, [11], 1, 0),
  (11, 94, [11], 9, 0),
  (11, 99, [11], 12, 0),
  (11, 102, [11], 11, 0),
  (11, 116, [11], 10, 0),
  (11, 119, [11], 13, 2),
  (11, 123, [11], 14, 0),
  (11, 148, [11], 15, 1),
  (11, 174, [11], 18, 0),
  (11, 177, [11], 17, 0),
  (11, 196, [11], 16, 0),
  (11, 213, [11], 35, 0),
  (11, 261, [11], 25, 0),
  (11, 264, [11], 26, 0),
  (11, 267, [11], 27, 0),
  (11, 288, [11], 28, 0),
  (11, 294, [11], 29, 2),
  (11, 297, [11], 30, 2),
  (11, 326, [11], 31, 0),
  (11, 329, [11], 32, 0),
  (11, 335, [11], 36, 0),
  (11, 362, [11], 47, 0),
  (11, 368, [11], 44, 0),
  (11, 374, [11], 43, 0),
  (11, 386, [11], 45, 0),
  (11, 389, [11], 48, 1),
  (11, 407, [11], 51, 0),
  (11, 418, [11], 49, 1)]
def kNT : List (Nat × Nat × (Int32 ⊕ Int64 ⊕ Option Nat ⊕ Unit)) := [
  (1, 43, .inr (.inr (.inl (some 1000000009)))),
  (1, 52, .inr (.inr (.inl (some 1000000013)))),
  (1, 57, .inr (.inr (.inl (some 1000000014)))),
  (1, 74, .inr (.inr (.inl (some 1000000003)))),
  (1, 76, .inr (.inr (.inl (some 1000000004)))),
  (1, 78, .inr (.inr (.inl (some 1000000005)))),
  (1, 80, .inr (.inr (.inl (some 1000000006)))),
  (1, 82, .inr (.inr (.inl (some 1000000007)))),
  (1, 84, .inr (.inr (.inl (some 1000000008)))),
  (1, 119, .inr (.inr (.inl (some 1000000011)))),
  (1, 124, .inr (.inr (.inl (some 1000000012)))),
  (1, 136, .inr (.inr (.inl (some 1000000010)))),
  (9, 144, .inl (1103515245)),
  (9, 175, .inr (.inl (1000))),
  (10, 151, .inl (100000)),
  (10, 221, .inr (.inl (-1000000000000))),
  (10, 234, .inr (.inl (1000))),
  (10, 263, .inl (-2147483648)),
  (11, 97, .inr (.inl (255))),
  (11, 126, .inr (.inl (27))),
  (11, 128, .inr (.inl (96))),
  (11, 130, .inr (.inl (-1))),
  (11, 132, .inr (.inl (10135440))),
  (11, 138, .inr (.inl (2690359))),
  (11, 140, .inr (.inl (237470))),
  (11, 142, .inr (.inl (389777))),
  (11, 144, .inr (.inl (1065))),
  (11, 146, .inr (.inl (404923))),
  (11, 161, .inr (.inl (12532058))),
  (11, 167, .inr (.inl (411))),
  (11, 169, .inr (.inl (380741))),
  (11, 184, .inr (.inl (2968))),
  (11, 189, .inr (.inl (374953))),
  (11, 194, .inr (.inl (10634))),
  (11, 256, .inl (100000)),
  (11, 283, .inl (1103515245)),
  (11, 314, .inr (.inl (-1000000000000))),
  (11, 324, .inr (.inl (1000))),
  (11, 344, .inl (-2147483648)),
  (11, 351, .inr (.inl (99))),
  (12, 13, .inr (.inl (4294967295)))]
def nWT : List (Nat × Nat × Nat × Nat) := [
  (10, 7, 9, 15),
  (10, 22, 1, 6),
  (10, 45, 8, 3),
  (10, 33, 5, 2),
  (10, 327, 2, 3),
  (10, 329, 3, 3),
  (10, 331, 6, 3),
  (10, 333, 0, 3),
  (10, 335, 7, 3),
  (10, 141, 4, 3),
  (12, 7, 10, 11),
  (12, 10, 11, 53)]
def aNT : List (Nat × Nat × Nat) := [
  (9, 42, 3),
  (10, 33, 4)]
def iNT : List (Nat × Nat × List Nat) := [
  (10, 327, [2, 0]),
  (10, 329, [3, 6]),
  (10, 331, [6]),
  (10, 333, [0]),
  (10, 335, [7])]
def gST : List (Nat × Nat × Nat) := [
  (9, 27, 1000000001),
  (10, 116, 1000000002)]
def tCC : Nat × Nat := (9, 31)
def fKT : List (List Nat) := [
  [0, 0, 0],
  [3, 0, 0, 0, 0, 0],
  [0, 0, 0],
  [0, 0, 0],
  [0, 0, 0],
  [0, 3],
  [0, 0, 0],
  [0, 0, 0],
  [3, 0, 1],
  [3, 3, 3, 3, 3, 3, 0, 0, 3, 3, 0, 3, 3, 3, 0],
  [3, 3, 3, 1, 3, 3, 0, 3, 3, 3, 3],
  [3, 0, 3, 3, 0, 3, 3, 3, 3, 0, 0, 0, 0, 2, 0, 1, 0, 0, 0, 3, 3, 3, 3, 3, 3, 0, 0, 0, 0, 2, 2, 0, 0, 3, 3, 0, 0, 3, 3, 3, 3, 3, 3, 0, 0, 0, 3, 0, 1, 1, 3, 0, 3]]
def strK : List (String × Nat) := [("sayer", 74), ("early", 76), ("late", 78), ("sure", 80), ("all", 82), ("told", 84), ("day", 43), ("worth", 136), ("of", 119), ("sign", 124), ("said", 52), ("now", 57)]
def strT : List (List Int32) := [
  [115, 97, 121, 101, 114],
  [101, 97, 114, 108, 121],
  [108, 97, 116, 101],
  [115, 117, 114, 101],
  [97, 108, 108],
  [116, 111, 108, 100],
  [100, 97, 121],
  [119, 111, 114, 116, 104],
  [111, 102],
  [115, 105, 103, 110],
  [115, 97, 105, 100],
  [110, 111, 119]]
abbrev mEnt : Type := MethodName × ByteArray × Nat × Option FieldType × Nat × Nat × Nat
def mE (m : Nat) : mEnt := mTl.getD m (yL_law, cL_law, 4, some .boolean, 13, 472, 12)
def mY (m : Nat) : MethodName := (mE m).1
def mB (m : Nat) : ByteArray := (mE m).2.1
def mL (m : Nat) : Nat := (mE m).2.2.1
def mR (m : Nat) : Option FieldType := (mE m).2.2.2.1
def mF (m : Nat) : Nat := (mE m).2.2.2.2.1
def mW (m : Nat) : Nat := (mE m).2.2.2.2.2.1
def mO (m : Nat) : Nat := (mE m).2.2.2.2.2.2
