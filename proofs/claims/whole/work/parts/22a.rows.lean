/-! rows of the methods; links, each once -/
theorem m0 : mR 0 = (0, yX0_init, cX0_init, 1, none, 0) := rfl
theorem m1 : mR 1 = (0, yX0_setUp, cX0_setUp, 6, none, 4) := rfl
theorem m2 : mR 2 = (0, yX0_restingPair, cX0_restingPair, 5, (some .int), 1) := rfl
theorem m3 : mR 3 = (0, yX0_rests, cX0_rests, 7, (some .boolean), 2) := rfl
theorem m4 : mR 4 = (0, yX0_gets, cX0_gets, 2, (some .int), 2) := rfl
theorem m5 : mR 5 = (1, yX1_init, cX1_init, 1, none, 0) := rfl
theorem m6 : mR 6 = (1, yX1_sizeBits, cX1_sizeBits, 5, (some .int), 2) := rfl
theorem m7 : mR 7 = (1, yX1_sizeFits, cX1_sizeFits, 7, (some .boolean), 3) := rfl
theorem m8 : mR 8 = (1, yX1_bestHouse, cX1_bestHouse, 8, (some .int), 2) := rfl
theorem m9 : mR 9 = (1, yX1_largestGroup, cX1_largestGroup, 8, (some .int), 4) := rfl
theorem m10 : mR 10 = (1, yX1_guestKindBits, cX1_guestKindBits, 5, (some .int), 2) := rfl
theorem m11 : mR 11 = (1, yX1_guestKindFits, cX1_guestKindFits, 7, (some .boolean), 3) := rfl
theorem m12 : mR 12 = (1, yX1_bestPart, cX1_bestPart, 8, (some .int), 2) := rfl
theorem m13 : mR 13 = (1, yX1_mostAlike, cX1_mostAlike, 9, (some .int), 3) := rfl
theorem m14 : mR 14 = (1, yX1_sieveKindBits, cX1_sieveKindBits, 5, (some .int), 2) := rfl
theorem m15 : mR 15 = (1, yX1_sieveKindFits, cX1_sieveKindFits, 8, (some .boolean), 3) := rfl
theorem m16 : mR 16 = (1, yX1_bestQuestion, cX1_bestQuestion, 9, (some .int), 2) := rfl
theorem m17 : mR 17 = (1, yX1_greaterHalf, cX1_greaterHalf, 7, (some .int), 4) := rfl
theorem m18 : mR 18 = (2, yX2_init, cX2_init, 1, none, 0) := rfl
theorem m19 : mR 19 = (2, yX2_addByte, cX2_addByte, 2, (some .int), 1) := rfl
theorem m20 : mR 20 = (2, yX2_readItem, cX2_readItem, 3, (some .boolean), 2) := rfl
theorem m21 : mR 21 = (2, yX2_hasRoom, cX2_hasRoom, 2, (some .boolean), 1) := rfl
theorem m22 : mR 22 = (2, yX2_hasTwoNumbers, cX2_hasTwoNumbers, 1, (some .boolean), 0) := rfl
theorem m23 : mR 23 = (2, yX2_readNumber, cX2_readNumber, 3, (some .boolean), 2) := rfl
theorem m24 : mR 24 = (2, yX2_leastTold, cX2_leastTold, 3, (some .int), 1) := rfl
theorem m25 : mR 25 = (2, yX2_mostTold, cX2_mostTold, 3, (some .int), 2) := rfl
theorem m26 : mR 26 = (2, yX2_carryOut, cX2_carryOut, 2, none, 1) := rfl
theorem m27 : mR 27 = (2, yX2_step, cX2_step, 2, none, 0) := rfl
theorem m28 : mR 28 = (2, yX2_takeWord, cX2_takeWord, 2, none, 0) := rfl
theorem m29 : mR 29 = (2, yX2_takeNumber, cX2_takeNumber, 1, none, 0) := rfl
theorem m30 : mR 30 = (2, yX2_isSpelt, cX2_isSpelt, 3, (some .boolean), 1) := rfl
theorem m31 : mR 31 = (2, yX2_spelling, cX2_spelling, 1, (some (.object "java/lang/String")), 1) := rfl
theorem m32 : mR 32 = (2, yX2_isLetter, cX2_isLetter, 1, (some .boolean), 1) := rfl
theorem m33 : mR 33 = (2, yX2_isFigure, cX2_isFigure, 1, (some .boolean), 1) := rfl
theorem m34 : mR 34 = (3, yX3_init, cX3_init, 3, none, 2) := rfl
theorem m35 : mR 35 = (3, yX3_isFull, cX3_isFull, 1, (some .boolean), 0) := rfl
theorem m36 : mR 36 = (3, yX3_open, cX3_open, 1, none, 0) := rfl
theorem m37 : mR 37 = (3, yX3_set, cX3_set, 3, none, 2) := rfl
theorem m38 : mR 38 = (3, yX3_fill, cX3_fill, 5, none, 4) := rfl
theorem m39 : mR 39 = (3, yX3_cell, cX3_cell, 3, (some .int), 2) := rfl
theorem m40 : mR 40 = (3, yX3_last, cX3_last, 2, (some .int), 1) := rfl
theorem m41 : mR 41 = (3, yX3_closeLast, cX3_closeLast, 1, none, 0) := rfl
theorem m42 : mR 42 = (3, yX3_drop, cX3_drop, 2, (some .int), 0) := rfl
theorem m43 : mR 43 = (3, yX3_takeFrom, cX3_takeFrom, 2, none, 1) := rfl
theorem m44 : mR 44 = (3, yX3_mixInto, cX3_mixInto, 6, (some .long), 1) := rfl
theorem m45 : mR 45 = (4, yX4_init, cX4_init, 1, none, 0) := rfl
theorem m46 : mR 46 = (4, yX4_findBest, cX4_findBest, 4, none, 1) := rfl
theorem m47 : mR 47 = (4, yX4_settle, cX4_settle, 7, none, 3) := rfl
theorem m48 : mR 48 = (4, yX4_keepIfMore, cX4_keepIfMore, 2, none, 1) := rfl
theorem m49 : mR 49 = (5, yX5_partSize, cX5_partSize, 6, (some .int), 3) := rfl
theorem m50 : mR 50 = (5, yX5_least, cX5_least, 7, (some .int), 3) := rfl
theorem m51 : mR 51 = (5, yX5_partsFrom, cX5_partsFrom, 5, (some .int), 3) := rfl
theorem m52 : mR 52 = (6, yX6_init, cX6_init, 1, none, 0) := rfl
theorem m53 : mR 53 = (6, yX6_startAnew, cX6_startAnew, 2, none, 1) := rfl
theorem m54 : mR 54 = (6, yX6_takeFrom, cX6_takeFrom, 2, none, 1) := rfl
theorem m55 : mR 55 = (6, yX6_hasGuest, cX6_hasGuest, 2, (some .boolean), 1) := rfl
theorem m56 : mR 56 = (6, yX6_hasHouse, cX6_hasHouse, 2, (some .boolean), 1) := rfl
theorem m57 : mR 57 = (6, yX6_addGuest, cX6_addGuest, 3, (some .int), 2) := rfl
theorem m58 : mR 58 = (6, yX6_addHouse, cX6_addHouse, 3, (some .int), 2) := rfl
theorem m59 : mR 59 = (6, yX6_awayFromHome, cX6_awayFromHome, 3, (some .int), 0) := rfl
theorem m60 : mR 60 = (6, yX6_allLiking, cX6_allLiking, 3, (some .int), 0) := rfl
theorem m61 : mR 61 = (6, yX6_leastAt, cX6_leastAt, 2, (some .int), 1) := rfl
theorem m62 : mR 62 = (6, yX6_stayBits, cX6_stayBits, 3, (some .int), 2) := rfl
theorem m63 : mR 63 = (6, yX6_stayCount, cX6_stayCount, 3, (some .int), 2) := rfl
theorem m64 : mR 64 = (6, yX6_stayCountByMesh, cX6_stayCountByMesh, 5, (some .int), 3) := rfl
theorem m65 : mR 65 = (6, yX6_stayCountByWet, cX6_stayCountByWet, 4, (some .int), 3) := rfl
theorem m66 : mR 66 = (6, yX6_stayCountBySize, cX6_stayCountBySize, 6, (some .int), 4) := rfl
theorem m67 : mR 67 = (6, yX6_stayRound, cX6_stayRound, 5, (some .int), 2) := rfl
theorem m68 : mR 68 = (6, yX6_company, cX6_company, 5, (some .int), 1) := rfl
theorem m69 : mR 69 = (6, yX6_pairs, cX6_pairs, 6, (some .int), 1) := rfl
theorem m70 : mR 70 = (6, yX6_likingAfter, cX6_likingAfter, 4, (some .int), 2) := rfl
theorem m71 : mR 71 = (6, yX6_passEvenings, cX6_passEvenings, 4, none, 1) := rfl
theorem m72 : mR 72 = (6, yX6_keepStep, cX6_keepStep, 2, none, 0) := rfl
theorem m73 : mR 73 = (6, yX6_stepBack, cX6_stepBack, 2, none, 0) := rfl
theorem m74 : mR 74 = (7, yX7_init, cX7_init, 1, none, 0) := rfl
theorem m75 : mR 75 = (7, yX7_uplands, cX7_uplands, 3, (some .int), 1) := rfl
theorem m76 : mR 76 = (7, yX7_guest, cX7_guest, 3, (some .int), 2) := rfl
theorem m77 : mR 77 = (7, yX7_house, cX7_house, 3, (some .int), 2) := rfl
theorem m78 : mR 78 = (7, yX7_type, cX7_type, 2, (some .int), 1) := rfl
theorem m79 : mR 79 = (7, yX7_clear, cX7_clear, 2, (some .int), 0) := rfl
theorem m80 : mR 80 = (7, yX7_read, cX7_read, 2, (some .int), 0) := rfl
theorem m81 : mR 81 = (7, yX7_calls, cX7_calls, 3, (some .int), 2) := rfl
theorem m82 : mR 82 = (7, yX7_leaves, cX7_leaves, 3, (some .int), 1) := rfl
theorem m83 : mR 83 = (7, yX7_wets, cX7_wets, 3, (some .int), 1) := rfl
theorem m84 : mR 84 = (7, yX7_evenings, cX7_evenings, 2, (some .int), 1) := rfl
theorem m85 : mR 85 = (7, yX7_undo, cX7_undo, 1, (some .int), 0) := rfl
theorem m86 : mR 86 = (7, yX7_of, cX7_of, 3, (some .int), 2) := rfl
theorem m87 : mR 87 = (7, yX7_about, cX7_about, 3, (some .int), 2) := rfl
theorem m88 : mR 88 = (7, yX7_great, cX7_great, 3, (some .int), 2) := rfl
theorem m89 : mR 89 = (7, yX7_stays, cX7_stays, 3, (some .int), 2) := rfl
theorem m90 : mR 90 = (7, yX7_then, cX7_then, 3, (some .int), 2) := rfl
theorem m91 : mR 91 = (7, yX7_when, cX7_when, 4, (some .int), 2) := rfl
theorem m92 : mR 92 = (7, yX7_most, cX7_most, 7, (some .int), 2) := rfl
theorem m93 : mR 93 = (7, yX7_round, cX7_round, 5, (some .int), 1) := rfl
theorem m94 : mR 94 = (7, yX7_mesh, cX7_mesh, 5, (some .int), 3) := rfl
theorem m95 : mR 95 = (7, yX7_place, cX7_place, 2, (some .int), 1) := rfl
theorem m96 : mR 96 = (7, yX7_seen, cX7_seen, 5, (some .int), 4) := rfl
theorem m97 : mR 97 = (7, yX7_sizes, cX7_sizes, 4, (some .int), 2) := rfl
theorem m98 : mR 98 = (7, yX7_tell, cX7_tell, 2, (some .int), 1) := rfl
theorem m99 : mR 99 = (7, yX7_note, cX7_note, 6, (some .int), 4) := rfl
theorem m100 : mR 100 = (7, yX7_mark, cX7_mark, 7, (some .int), 5) := rfl
theorem m101 : mR 101 = (7, yX7_forget, cX7_forget, 2, (some .int), 1) := rfl
theorem m102 : mR 102 = (7, yX7_is, cX7_is, 2, (some .int), 1) := rfl
theorem m103 : mR 103 = (7, yX7_look, cX7_look, 2, (some .int), 1) := rfl
theorem m104 : mR 104 = (7, yX7_kinds, cX7_kinds, 2, (some .int), 1) := rfl
theorem m105 : mR 105 = (7, yX7_ask, cX7_ask, 2, (some .int), 1) := rfl
theorem m106 : mR 106 = (7, yX7_rivals, cX7_rivals, 5, (some .int), 4) := rfl
theorem m107 : mR 107 = (7, yX7_rain, cX7_rain, 5, (some .int), 2) := rfl
theorem m108 : mR 108 = (7, yX7_years, cX7_years, 8, (some .int), 2) := rfl
theorem m109 : mR 109 = (7, yX7_part, cX7_part, 2, (some .long), 1) := rfl
theorem m110 : mR 110 = (7, yX7_image, cX7_image, 2, (some .int), 1) := rfl
theorem m111 : mR 111 = (7, yX7_from, cX7_from, 2, (some .int), 1) := rfl
theorem m112 : mR 112 = (7, yX7_status, cX7_status, 2, (some .int), 1) := rfl
theorem m113 : mR 113 = (7, yX7_count, cX7_count, 2, (some .int), 1) := rfl
theorem m114 : mR 114 = (7, yX7_digest, cX7_digest, 4, (some .long), 0) := rfl
theorem m115 : mR 115 = (7, yX7_countOf, cX7_countOf, 2, (some .int), 1) := rfl
theorem m116 : mR 116 = (7, yX7_refuse, cX7_refuse, 3, (some .int), 1) := rfl
theorem m117 : mR 117 = (7, yX7_keepFraction, cX7_keepFraction, 4, none, 1) := rfl
theorem m118 : mR 118 = (7, yX7_within, cX7_within, 3, (some .boolean), 3) := rfl
theorem m119 : mR 119 = (7, yX7_hasBit, cX7_hasBit, 2, (some .boolean), 2) := rfl
theorem m120 : mR 120 = (7, yX7_lowestBit, cX7_lowestBit, 2, (some .int), 1) := rfl
theorem m121 : mR 121 = (7, yX7_highestBit, cX7_highestBit, 2, (some .int), 1) := rfl
theorem m122 : mR 122 = (7, yX7_get, cX7_get, 2, (some .int), 2) := rfl
theorem m123 : mR 123 = (7, yX7_put, cX7_put, 3, none, 3) := rfl
theorem m124 : mR 124 = (7, yX7_copyRow, cX7_copyRow, 2, none, 2) := rfl
theorem m125 : mR 125 = (8, yX8_init, cX8_init, 1, none, 0) := rfl
theorem m126 : mR 126 = (8, yX8_in, cX8_in, 3, (some .boolean), 3) := rfl
theorem m127 : mR 127 = (8, yX8_has, cX8_has, 2, (some .boolean), 2) := rfl
theorem m128 : mR 128 = (8, yX8_bits, cX8_bits, 3, (some .int), 1) := rfl
theorem m129 : mR 129 = (8, yX8_refuse, cX8_refuse, 2, (some .int), 1) := rfl
theorem m130 : mR 130 = (8, yX8_badAs, cX8_badAs, 2, (some .int), 1) := rfl
theorem m131 : mR 131 = (8, yX8_layUplands, cX8_layUplands, 3, none, 1) := rfl
theorem m132 : mR 132 = (8, yX8_uplands, cX8_uplands, 3, (some .int), 1) := rfl
theorem m133 : mR 133 = (8, yX8_addGuest, cX8_addGuest, 4, none, 2) := rfl
theorem m134 : mR 134 = (8, yX8_guest, cX8_guest, 3, (some .int), 2) := rfl
theorem m135 : mR 135 = (8, yX8_addHouse, cX8_addHouse, 4, none, 2) := rfl
theorem m136 : mR 136 = (8, yX8_house, cX8_house, 3, (some .int), 2) := rfl
theorem m137 : mR 137 = (8, yX8_type, cX8_type, 2, (some .int), 1) := rfl
theorem m138 : mR 138 = (8, yX8_clear, cX8_clear, 2, (some .int), 0) := rfl
theorem m139 : mR 139 = (8, yX8_isLetter, cX8_isLetter, 2, (some .boolean), 1) := rfl
theorem m140 : mR 140 = (8, yX8_isFigure, cX8_isFigure, 2, (some .boolean), 1) := rfl
theorem m141 : mR 141 = (8, yX8_next, cX8_next, 1, none, 0) := rfl
theorem m142 : mR 142 = (8, yX8_isWord, cX8_isWord, 5, (some .boolean), 1) := rfl
theorem m143 : mR 143 = (8, yX8_wordHere, cX8_wordHere, 2, (some .int), 0) := rfl
theorem m144 : mR 144 = (8, yX8_number, cX8_number, 4, (some .int), 2) := rfl
theorem m145 : mR 145 = (8, yX8_readsUplands, cX8_readsUplands, 2, (some .boolean), 0) := rfl
theorem m146 : mR 146 = (8, yX8_readsGuest, cX8_readsGuest, 3, (some .boolean), 0) := rfl
theorem m147 : mR 147 = (8, yX8_readsHouse, cX8_readsHouse, 3, (some .boolean), 0) := rfl
theorem m148 : mR 148 = (8, yX8_readsGoing, cX8_readsGoing, 4, (some .boolean), 1) := rfl
theorem m149 : mR 149 = (8, yX8_readsItem, cX8_readsItem, 3, (some .boolean), 1) := rfl
theorem m150 : mR 150 = (8, yX8_readItems, cX8_readItems, 4, (some .int), 1) := rfl
theorem m151 : mR 151 = (8, yX8_read, cX8_read, 2, (some .int), 0) := rfl
theorem m152 : mR 152 = (8, yX8_greatBy, cX8_greatBy, 4, (some .int), 3) := rfl
theorem m153 : mR 153 = (8, yX8_atLeastOne, cX8_atLeastOne, 1, (some .int), 1) := rfl
theorem m154 : mR 154 = (8, yX8_needBy, cX8_needBy, 5, (some .int), 3) := rfl
theorem m155 : mR 155 = (8, yX8_staysBy, cX8_staysBy, 5, (some .int), 3) := rfl
theorem m156 : mR 156 = (8, yX8_needOf, cX8_needOf, 3, (some .int), 2) := rfl
theorem m157 : mR 157 = (8, yX8_staysOf, cX8_staysOf, 4, (some .int), 3) := rfl
theorem m158 : mR 158 = (8, yX8_companyIn, cX8_companyIn, 8, (some .int), 3) := rfl
theorem m159 : mR 159 = (8, yX8_passes, cX8_passes, 4, none, 1) := rfl
theorem m160 : mR 160 = (8, yX8_goBy, cX8_goBy, 3, none, 1) := rfl
theorem m161 : mR 161 = (8, yX8_allLiking, cX8_allLiking, 4, (some .int), 1) := rfl
theorem m162 : mR 162 = (8, yX8_keepPast, cX8_keepPast, 2, none, 0) := rfl
theorem m163 : mR 163 = (8, yX8_isGuest, cX8_isGuest, 2, (some .boolean), 1) := rfl
theorem m164 : mR 164 = (8, yX8_isHouse, cX8_isHouse, 2, (some .boolean), 1) := rfl
theorem m165 : mR 165 = (8, yX8_calls, cX8_calls, 3, (some .int), 2) := rfl
theorem m166 : mR 166 = (8, yX8_leaves, cX8_leaves, 3, (some .int), 1) := rfl
theorem m167 : mR 167 = (8, yX8_wets, cX8_wets, 3, (some .int), 1) := rfl
theorem m168 : mR 168 = (8, yX8_evenings, cX8_evenings, 2, (some .int), 1) := rfl
theorem m169 : mR 169 = (8, yX8_undo, cX8_undo, 2, (some .int), 0) := rfl
theorem m170 : mR 170 = (8, yX8_of, cX8_of, 4, (some .int), 2) := rfl
theorem m171 : mR 171 = (8, yX8_about, cX8_about, 3, (some .int), 2) := rfl
theorem m172 : mR 172 = (8, yX8_great, cX8_great, 3, (some .int), 2) := rfl
theorem m173 : mR 173 = (8, yX8_stays, cX8_stays, 3, (some .int), 2) := rfl
theorem m174 : mR 174 = (8, yX8_layTried, cX8_layTried, 2, none, 0) := rfl
theorem m175 : mR 175 = (8, yX8_then, cX8_then, 4, (some .int), 2) := rfl
theorem m176 : mR 176 = (8, yX8_when, cX8_when, 4, (some .int), 2) := rfl
theorem m177 : mR 177 = (8, yX8_most, cX8_most, 7, (some .int), 2) := rfl
theorem m178 : mR 178 = (8, yX8_round, cX8_round, 6, (some .int), 1) := rfl
theorem m179 : mR 179 = (8, yX8_mesh, cX8_mesh, 5, (some .int), 3) := rfl
theorem m180 : mR 180 = (8, yX8_gainBy, cX8_gainBy, 3, (some .int), 0) := rfl
theorem m181 : mR 181 = (8, yX8_nextLine, cX8_nextLine, 2, (some .boolean), 0) := rfl
theorem m182 : mR 182 = (8, yX8_place, cX8_place, 6, (some .int), 1) := rfl
theorem m183 : mR 183 = (8, yX8_seen, cX8_seen, 6, (some .int), 4) := rfl
theorem m184 : mR 184 = (8, yX8_isSize, cX8_isSize, 5, (some .boolean), 2) := rfl
theorem m185 : mR 185 = (8, yX8_sizes, cX8_sizes, 8, (some .int), 2) := rfl
theorem m186 : mR 186 = (8, yX8_mostAt, cX8_mostAt, 7, (some .int), 2) := rfl
theorem m187 : mR 187 = (8, yX8_tell, cX8_tell, 6, (some .int), 1) := rfl
theorem m188 : mR 188 = (8, yX8_note, cX8_note, 6, (some .int), 4) := rfl
theorem m189 : mR 189 = (8, yX8_mark, cX8_mark, 7, (some .int), 5) := rfl
theorem m190 : mR 190 = (8, yX8_forget, cX8_forget, 4, (some .int), 1) := rfl
theorem m191 : mR 191 = (8, yX8_kindsOf, cX8_kindsOf, 6, (some .int), 1) := rfl
theorem m192 : mR 192 = (8, yX8_is, cX8_is, 2, (some .int), 1) := rfl
theorem m193 : mR 193 = (8, yX8_mostAlike, cX8_mostAlike, 6, (some .int), 1) := rfl
theorem m194 : mR 194 = (8, yX8_look, cX8_look, 7, (some .int), 1) := rfl
theorem m195 : mR 195 = (8, yX8_sievesOf, cX8_sievesOf, 6, (some .int), 1) := rfl
theorem m196 : mR 196 = (8, yX8_kinds, cX8_kinds, 2, (some .int), 1) := rfl
theorem m197 : mR 197 = (8, yX8_ask, cX8_ask, 9, (some .int), 1) := rfl
theorem m198 : mR 198 = (8, yX8_gets, cX8_gets, 2, (some .int), 2) := rfl
theorem m199 : mR 199 = (8, yX8_rests, cX8_rests, 5, (some .boolean), 2) := rfl
theorem m200 : mR 200 = (8, yX8_rivals, cX8_rivals, 8, (some .int), 4) := rfl
theorem m201 : mR 201 = (8, yX8_tellPart, cX8_tellPart, 11, none, 2) := rfl
theorem m202 : mR 202 = (8, yX8_rain, cX8_rain, 6, (some .int), 2) := rfl
theorem m203 : mR 203 = (8, yX8_years, cX8_years, 8, (some .int), 2) := rfl
theorem m204 : mR 204 = (8, yX8_part, cX8_part, 2, (some .long), 1) := rfl
theorem m205 : mR 205 = (8, yX8_image, cX8_image, 3, (some .int), 1) := rfl
theorem m206 : mR 206 = (8, yX8_from, cX8_from, 3, (some .int), 1) := rfl
theorem m207 : mR 207 = (8, yX8_status, cX8_status, 2, (some .int), 1) := rfl
theorem m208 : mR 208 = (8, yX8_outOnes, cX8_outOnes, 3, (some .int), 0) := rfl
theorem m209 : mR 209 = (8, yX8_countOf, cX8_countOf, 2, (some .int), 1) := rfl
theorem m210 : mR 210 = (8, yX8_count, cX8_count, 2, (some .int), 1) := rfl
theorem m211 : mR 211 = (8, yX8_join, cX8_join, 8, (some .long), 3) := rfl
theorem m212 : mR 212 = (8, yX8_digest, cX8_digest, 4, (some .long), 0) := rfl
theorem m213 : mR 213 = (16, yJ6_bitCount_0f7a4, cJ6_bitCount_0f7a4, 1, (some .int), 1) := rfl
theorem m214 : mR 214 = (10, yJ0_length_8abf5, cJ0_length_8abf5, 1, (some .int), 0) := rfl
theorem m215 : mR 215 = (10, yJ0_charAt_5068e, cJ0_charAt_5068e, 2, (some .char), 1) := rfl
theorem m216 : mR 216 = (10, yJ0_coder_7d493, cJ0_coder_7d493, 1, (some .byte), 0) := rfl
theorem m217 : mR 217 = (10, yJ0_isLatin1_aae02, cJ0_isLatin1_aae02, 1, (some .boolean), 0) := rfl
theorem m218 : mR 218 = (10, yJ0_checkIndex_df160, cJ0_checkIndex_df160, 2, none, 2) := rfl
theorem m219 : mR 219 = (11, yJ1_charAt_3b067, cJ1_charAt_3b067, 2, (some .char), 2) := rfl
theorem m220 : mR 220 = (13, yJ3_checkIndex_8e157, cJ3_checkIndex_8e157, 3, (some .int), 3) := rfl
theorem m221 : mR 221 = (20, ⟨RL, "law", "([I)Z"⟩, code, 4, some .boolean, 1) := rfl
theorem k0_3 : ml 0 3 = some (9, 0) := by decide +kernel
theorem k0_18 : ml 0 18 = some (1, 64) := by decide +kernel
theorem k0_24 : ml 0 24 = some (3, 123) := by decide +kernel
theorem k0_28 : ml 0 28 = some (1, 3) := by decide +kernel
theorem k0_32 : ml 0 32 = some (3, 122) := by decide +kernel
theorem k0_36 : ml 0 36 = some (0, 4) := by decide +kernel
theorem k1_3 : ml 1 3 = some (9, 0) := by decide +kernel
theorem k1_15 : ml 1 15 = some (1, 7) := by decide +kernel
theorem k1_31 : ml 1 31 = some (1, 39) := by decide +kernel
theorem k1_35 : ml 1 35 = some (1, 66) := by decide +kernel
theorem k1_39 : ml 1 39 = some (1, 6) := by decide +kernel
theorem k1_46 : ml 1 46 = some (1, 9) := by decide +kernel
theorem k1_50 : ml 1 50 = some (3, 123) := by decide +kernel
theorem k1_54 : ml 1 54 = some (3, 119) := by decide +kernel
theorem k1_61 : ml 1 61 = some (3, 122) := by decide +kernel
theorem k1_65 : ml 1 65 = some (6, 0) := by decide +kernel
theorem k1_70 : ml 1 70 = some (1, 11) := by decide +kernel
theorem k1_76 : ml 1 76 = some (0, 49) := by decide +kernel
theorem k1_82 : ml 1 82 = some (1, 10) := by decide +kernel
theorem k1_88 : ml 1 88 = some (1, 13) := by decide +kernel
theorem k1_91 : ml 1 91 = some (1, 15) := by decide +kernel
theorem k1_97 : ml 1 97 = some (0, 50) := by decide +kernel
theorem k1_100 : ml 1 100 = some (1, 14) := by decide +kernel
theorem k1_106 : ml 1 106 = some (1, 17) := by decide +kernel
theorem k1_109 : ml 1 109 = some (0, 213) := by decide +kernel
theorem k2_3 : ml 2 3 = some (9, 0) := by decide +kernel
theorem k2_40 : ml 2 40 = some (3, 123) := by decide +kernel
theorem k2_44 : ml 2 44 = some (1, 21) := by decide +kernel
theorem k2_48 : ml 2 48 = some (1, 23) := by decide +kernel
theorem k2_52 : ml 2 52 = some (1, 22) := by decide +kernel
theorem k2_56 : ml 2 56 = some (1, 27) := by decide +kernel
theorem k2_67 : ml 2 67 = some (1, 24) := by decide +kernel
theorem k2_71 : ml 2 71 = some (1, 25) := by decide +kernel
theorem k2_75 : ml 2 75 = some (3, 118) := by decide +kernel
theorem k2_82 : ml 2 82 = some (1, 57) := by decide +kernel
theorem k2_86 : ml 2 86 = some (1, 58) := by decide +kernel
theorem k2_92 : ml 2 92 = some (1, 71) := by decide +kernel
theorem k2_96 : ml 2 96 = some (3, 122) := by decide +kernel
theorem k2_100 : ml 2 100 = some (0, 32) := by decide +kernel
theorem k2_104 : ml 2 104 = some (1, 28) := by decide +kernel
theorem k2_107 : ml 2 107 = some (0, 33) := by decide +kernel
theorem k2_110 : ml 2 110 = some (1, 29) := by decide +kernel
theorem k2_113 : ml 2 113 = some (0, 31) := by decide +kernel
theorem k2_117 : ml 2 117 = some (1, 30) := by decide +kernel
theorem k2_121 : ml 2 121 = some (1, 214) := by decide +kernel
theorem k2_126 : ml 2 126 = some (1, 215) := by decide +kernel
theorem k3_1 : ml 3 1 = some (9, 0) := by decide +kernel
theorem k3_13 : ml 3 13 = some (6, 0) := by decide +kernel
theorem k3_29 : ml 3 29 = some (1, 35) := by decide +kernel
theorem k3_33 : ml 3 33 = some (8, 0) := by decide +kernel
theorem k3_39 : ml 3 39 = some (3, 123) := by decide +kernel
theorem k3_45 : ml 3 45 = some (1, 37) := by decide +kernel
theorem k3_49 : ml 3 49 = some (3, 122) := by decide +kernel
theorem k3_53 : ml 3 53 = some (1, 39) := by decide +kernel
theorem k3_56 : ml 3 56 = some (7, 0) := by decide +kernel
theorem k3_59 : ml 3 59 = some (3, 124) := by decide +kernel
theorem k4_3 : ml 4 3 = some (9, 0) := by decide +kernel
theorem k4_38 : ml 4 38 = some (1, 63) := by decide +kernel
theorem k4_42 : ml 4 42 = some (3, 123) := by decide +kernel
theorem k4_46 : ml 4 46 = some (0, 47) := by decide +kernel
theorem k4_50 : ml 4 50 = some (1, 48) := by decide +kernel
theorem k4_54 : ml 4 54 = some (3, 122) := by decide +kernel
theorem k4_58 : ml 4 58 = some (3, 124) := by decide +kernel
theorem k5_9 : ml 5 9 = some (0, 49) := by decide +kernel
theorem k6_3 : ml 6 3 = some (9, 0) := by decide +kernel
theorem k6_32 : ml 6 32 = some (2, 34) := by decide +kernel
theorem k6_61 : ml 6 61 = some (1, 42) := by decide +kernel
theorem k6_65 : ml 6 65 = some (3, 124) := by decide +kernel
theorem k6_69 : ml 6 69 = some (1, 43) := by decide +kernel
theorem k6_73 : ml 6 73 = some (3, 118) := by decide +kernel
theorem k6_77 : ml 6 77 = some (3, 123) := by decide +kernel
theorem k6_81 : ml 6 81 = some (3, 122) := by decide +kernel
theorem k6_85 : ml 6 85 = some (0, 50) := by decide +kernel
theorem k6_91 : ml 6 91 = some (1, 56) := by decide +kernel
theorem k6_95 : ml 6 95 = some (1, 61) := by decide +kernel
theorem k6_99 : ml 6 99 = some (0, 51) := by decide +kernel
theorem k6_102 : ml 6 102 = some (1, 62) := by decide +kernel
theorem k6_106 : ml 6 106 = some (0, 213) := by decide +kernel
theorem k6_111 : ml 6 111 = some (1, 66) := by decide +kernel
theorem k6_115 : ml 6 115 = some (3, 119) := by decide +kernel
theorem k6_119 : ml 6 119 = some (1, 68) := by decide +kernel
theorem k6_122 : ml 6 122 = some (1, 69) := by decide +kernel
theorem k6_125 : ml 6 125 = some (7, 0) := by decide +kernel
theorem k6_130 : ml 6 130 = some (1, 70) := by decide +kernel
theorem k6_133 : ml 6 133 = some (1, 36) := by decide +kernel
theorem k6_136 : ml 6 136 = some (1, 37) := by decide +kernel
theorem k6_139 : ml 6 139 = some (1, 40) := by decide +kernel
theorem k6_142 : ml 6 142 = some (1, 41) := by decide +kernel
theorem k7_1 : ml 7 1 = some (9, 0) := by decide +kernel
theorem k7_9 : ml 7 9 = some (5, 52) := by decide +kernel
theorem k7_25 : ml 7 25 = some (5, 18) := by decide +kernel
theorem k7_32 : ml 7 32 = some (5, 5) := by decide +kernel
theorem k7_39 : ml 7 39 = some (5, 45) := by decide +kernel
theorem k7_46 : ml 7 46 = some (5, 0) := by decide +kernel
theorem k7_62 : ml 7 62 = some (0, 118) := by decide +kernel
theorem k7_66 : ml 7 66 = some (1, 116) := by decide +kernel
theorem k7_73 : ml 7 73 = some (1, 53) := by decide +kernel
theorem k7_77 : ml 7 77 = some (1, 57) := by decide +kernel
theorem k7_84 : ml 7 84 = some (1, 58) := by decide +kernel
theorem k7_90 : ml 7 90 = some (1, 19) := by decide +kernel
theorem k7_96 : ml 7 96 = some (1, 27) := by decide +kernel
theorem k7_102 : ml 7 102 = some (1, 54) := by decide +kernel
theorem k7_106 : ml 7 106 = some (1, 20) := by decide +kernel
theorem k7_113 : ml 7 113 = some (1, 26) := by decide +kernel
theorem k7_116 : ml 7 116 = some (1, 55) := by decide +kernel
theorem k7_120 : ml 7 120 = some (1, 56) := by decide +kernel
theorem k7_126 : ml 7 126 = some (0, 122) := by decide +kernel
theorem k7_130 : ml 7 130 = some (1, 72) := by decide +kernel
theorem k7_133 : ml 7 133 = some (0, 123) := by decide +kernel
theorem k7_137 : ml 7 137 = some (1, 62) := by decide +kernel
theorem k7_143 : ml 7 143 = some (1, 71) := by decide +kernel
theorem k7_146 : ml 7 146 = some (1, 60) := by decide +kernel
theorem k7_159 : ml 7 159 = some (1, 73) := by decide +kernel
theorem k7_180 : ml 7 180 = some (1, 68) := by decide +kernel
theorem k7_183 : ml 7 183 = some (1, 69) := by decide +kernel
theorem k7_186 : ml 7 186 = some (0, 49) := by decide +kernel
theorem k7_192 : ml 7 192 = some (1, 70) := by decide +kernel
theorem k7_195 : ml 7 195 = some (1, 63) := by decide +kernel
theorem k7_198 : ml 7 198 = some (0, 213) := by decide +kernel
theorem k7_203 : ml 7 203 = some (1, 67) := by decide +kernel
theorem k7_206 : ml 7 206 = some (1, 64) := by decide +kernel
theorem k7_209 : ml 7 209 = some (1, 46) := by decide +kernel
theorem k7_221 : ml 7 221 = some (1, 35) := by decide +kernel
theorem k7_225 : ml 7 225 = some (1, 36) := by decide +kernel
theorem k7_228 : ml 7 228 = some (1, 38) := by decide +kernel
theorem k7_232 : ml 7 232 = some (1, 6) := by decide +kernel
theorem k7_236 : ml 7 236 = some (0, 120) := by decide +kernel
theorem k7_239 : ml 7 239 = some (0, 121) := by decide +kernel
theorem k7_242 : ml 7 242 = some (1, 8) := by decide +kernel
theorem k7_251 : ml 7 251 = some (1, 37) := by decide +kernel
theorem k7_255 : ml 7 255 = some (1, 42) := by decide +kernel
theorem k7_258 : ml 7 258 = some (1, 10) := by decide +kernel
theorem k7_261 : ml 7 261 = some (1, 12) := by decide +kernel
theorem k7_264 : ml 7 264 = some (1, 14) := by decide +kernel
theorem k7_267 : ml 7 267 = some (1, 16) := by decide +kernel
theorem k7_270 : ml 7 270 = some (1, 1) := by decide +kernel
theorem k7_274 : ml 7 274 = some (1, 2) := by decide +kernel
theorem k7_277 : ml 7 277 = some (1, 65) := by decide +kernel
theorem k7_280 : ml 7 280 = some (1, 117) := by decide +kernel
theorem k7_298 : ml 7 298 = some (1, 115) := by decide +kernel
theorem k7_305 : ml 7 305 = some (1, 44) := by decide +kernel
theorem k7_309 : ml 7 309 = some (1, 59) := by decide +kernel
theorem k7_312 : ml 7 312 = some (0, 119) := by decide +kernel
theorem k7_316 : ml 7 316 = some (7, 0) := by decide +kernel
theorem k7_321 : ml 7 321 = some (8, 0) := by decide +kernel
theorem k8_1 : ml 8 1 = some (9, 0) := by decide +kernel
theorem k8_45 : ml 8 45 = some (1, 129) := by decide +kernel
theorem k8_49 : ml 8 49 = some (0, 126) := by decide +kernel
theorem k8_53 : ml 8 53 = some (1, 131) := by decide +kernel
theorem k8_57 : ml 8 57 = some (1, 133) := by decide +kernel
theorem k8_61 : ml 8 61 = some (1, 135) := by decide +kernel
theorem k8_74 : ml 8 74 = some (1, 139) := by decide +kernel
theorem k8_78 : ml 8 78 = some (1, 140) := by decide +kernel
theorem k8_81 : ml 8 81 = some (1, 142) := by decide +kernel
theorem k8_84 : ml 8 84 = some (1, 141) := by decide +kernel
theorem k8_87 : ml 8 87 = some (1, 144) := by decide +kernel
theorem k8_101 : ml 8 101 = some (1, 145) := by decide +kernel
theorem k8_105 : ml 8 105 = some (1, 146) := by decide +kernel
theorem k8_108 : ml 8 108 = some (1, 147) := by decide +kernel
theorem k8_111 : ml 8 111 = some (1, 148) := by decide +kernel
theorem k8_115 : ml 8 115 = some (1, 160) := by decide +kernel
theorem k8_118 : ml 8 118 = some (1, 143) := by decide +kernel
theorem k8_122 : ml 8 122 = some (1, 149) := by decide +kernel
theorem k8_125 : ml 8 125 = some (1, 150) := by decide +kernel
theorem k8_129 : ml 8 129 = some (0, 153) := by decide +kernel
theorem k8_132 : ml 8 132 = some (0, 152) := by decide +kernel
theorem k8_136 : ml 8 136 = some (0, 154) := by decide +kernel
theorem k8_139 : ml 8 139 = some (1, 156) := by decide +kernel
theorem k8_142 : ml 8 142 = some (0, 155) := by decide +kernel
theorem k8_145 : ml 8 145 = some (1, 157) := by decide +kernel
theorem k8_148 : ml 8 148 = some (0, 128) := by decide +kernel
theorem k8_151 : ml 8 151 = some (1, 158) := by decide +kernel
theorem k8_154 : ml 8 154 = some (1, 159) := by decide +kernel
theorem k8_157 : ml 8 157 = some (1, 163) := by decide +kernel
theorem k8_160 : ml 8 160 = some (1, 164) := by decide +kernel
theorem k8_163 : ml 8 163 = some (1, 162) := by decide +kernel
theorem k8_166 : ml 8 166 = some (1, 161) := by decide +kernel
theorem k8_169 : ml 8 169 = some (1, 174) := by decide +kernel
theorem k8_172 : ml 8 172 = some (0, 127) := by decide +kernel
theorem k8_176 : ml 8 176 = some (1, 130) := by decide +kernel
theorem k8_179 : ml 8 179 = some (1, 180) := by decide +kernel
theorem k8_182 : ml 8 182 = some (1, 181) := by decide +kernel
theorem k8_185 : ml 8 185 = some (1, 184) := by decide +kernel
theorem k8_188 : ml 8 188 = some (1, 186) := by decide +kernel
theorem k8_191 : ml 8 191 = some (1, 191) := by decide +kernel
theorem k8_194 : ml 8 194 = some (1, 193) := by decide +kernel
theorem k8_197 : ml 8 197 = some (1, 195) := by decide +kernel
theorem k8_200 : ml 8 200 = some (0, 198) := by decide +kernel
theorem k8_203 : ml 8 203 = some (1, 199) := by decide +kernel
theorem k8_211 : ml 8 211 = some (1, 201) := by decide +kernel
theorem k8_230 : ml 8 230 = some (1, 208) := by decide +kernel
theorem k8_233 : ml 8 233 = some (1, 209) := by decide +kernel
theorem k8_240 : ml 8 240 = some (1, 211) := by decide +kernel
theorem k10_335 : ml 10 335 = some (1, 216) := by decide +kernel
theorem k10_492 : ml 10 492 = some (1, 217) := by decide +kernel
theorem k10_495 : ml 10 495 = some (0, 219) := by decide +kernel
theorem k10_1059 : ml 10 1059 = some (0, 220) := by decide +kernel
theorem k11_9 : ml 11 9 = some (0, 218) := by decide +kernel
theorem k20_9 : ml 20 9 = some (2, 74) := by decide +kernel
theorem k20_12 : ml 20 12 = some (2, 125) := by decide +kernel
theorem k20_13 : ml 20 13 = some (1, 75) := by decide +kernel
theorem k20_17 : ml 20 17 = some (1, 132) := by decide +kernel
theorem k20_18 : ml 20 18 = some (1, 76) := by decide +kernel
theorem k20_22 : ml 20 22 = some (1, 134) := by decide +kernel
theorem k20_23 : ml 20 23 = some (1, 77) := by decide +kernel
theorem k20_26 : ml 20 26 = some (1, 136) := by decide +kernel
theorem k20_27 : ml 20 27 = some (1, 78) := by decide +kernel
theorem k20_30 : ml 20 30 = some (1, 137) := by decide +kernel
theorem k20_31 : ml 20 31 = some (1, 79) := by decide +kernel
theorem k20_35 : ml 20 35 = some (1, 138) := by decide +kernel
theorem k20_36 : ml 20 36 = some (1, 80) := by decide +kernel
theorem k20_39 : ml 20 39 = some (1, 151) := by decide +kernel
theorem k20_40 : ml 20 40 = some (1, 81) := by decide +kernel
theorem k20_43 : ml 20 43 = some (1, 165) := by decide +kernel
theorem k20_44 : ml 20 44 = some (1, 82) := by decide +kernel
theorem k20_47 : ml 20 47 = some (1, 166) := by decide +kernel
theorem k20_48 : ml 20 48 = some (1, 83) := by decide +kernel
theorem k20_51 : ml 20 51 = some (1, 167) := by decide +kernel
theorem k20_52 : ml 20 52 = some (1, 84) := by decide +kernel
theorem k20_55 : ml 20 55 = some (1, 168) := by decide +kernel
theorem k20_56 : ml 20 56 = some (1, 85) := by decide +kernel
theorem k20_59 : ml 20 59 = some (1, 169) := by decide +kernel
theorem k20_60 : ml 20 60 = some (1, 86) := by decide +kernel
theorem k20_63 : ml 20 63 = some (1, 170) := by decide +kernel
theorem k20_64 : ml 20 64 = some (1, 87) := by decide +kernel
theorem k20_67 : ml 20 67 = some (1, 171) := by decide +kernel
theorem k20_68 : ml 20 68 = some (1, 88) := by decide +kernel
theorem k20_71 : ml 20 71 = some (1, 172) := by decide +kernel
theorem k20_72 : ml 20 72 = some (1, 89) := by decide +kernel
theorem k20_75 : ml 20 75 = some (1, 173) := by decide +kernel
theorem k20_76 : ml 20 76 = some (1, 90) := by decide +kernel
theorem k20_79 : ml 20 79 = some (1, 175) := by decide +kernel
theorem k20_80 : ml 20 80 = some (1, 91) := by decide +kernel
theorem k20_83 : ml 20 83 = some (1, 176) := by decide +kernel
theorem k20_84 : ml 20 84 = some (1, 92) := by decide +kernel
theorem k20_87 : ml 20 87 = some (1, 177) := by decide +kernel
theorem k20_88 : ml 20 88 = some (1, 93) := by decide +kernel
theorem k20_91 : ml 20 91 = some (1, 178) := by decide +kernel
theorem k20_92 : ml 20 92 = some (1, 94) := by decide +kernel
theorem k20_96 : ml 20 96 = some (1, 179) := by decide +kernel
theorem k20_97 : ml 20 97 = some (1, 95) := by decide +kernel
theorem k20_100 : ml 20 100 = some (1, 182) := by decide +kernel
theorem k20_101 : ml 20 101 = some (1, 96) := by decide +kernel
theorem k20_105 : ml 20 105 = some (1, 183) := by decide +kernel
theorem k20_106 : ml 20 106 = some (1, 97) := by decide +kernel
theorem k20_109 : ml 20 109 = some (1, 185) := by decide +kernel
theorem k20_110 : ml 20 110 = some (1, 98) := by decide +kernel
theorem k20_113 : ml 20 113 = some (1, 187) := by decide +kernel
theorem k20_114 : ml 20 114 = some (1, 99) := by decide +kernel
theorem k20_117 : ml 20 117 = some (1, 188) := by decide +kernel
theorem k20_118 : ml 20 118 = some (1, 100) := by decide +kernel
theorem k20_122 : ml 20 122 = some (1, 189) := by decide +kernel
theorem k20_123 : ml 20 123 = some (1, 101) := by decide +kernel
theorem k20_126 : ml 20 126 = some (1, 190) := by decide +kernel
theorem k20_127 : ml 20 127 = some (1, 102) := by decide +kernel
theorem k20_130 : ml 20 130 = some (1, 192) := by decide +kernel
theorem k20_131 : ml 20 131 = some (1, 103) := by decide +kernel
theorem k20_134 : ml 20 134 = some (1, 194) := by decide +kernel
theorem k20_135 : ml 20 135 = some (1, 104) := by decide +kernel
theorem k20_138 : ml 20 138 = some (1, 196) := by decide +kernel
theorem k20_139 : ml 20 139 = some (1, 105) := by decide +kernel
theorem k20_142 : ml 20 142 = some (1, 197) := by decide +kernel
theorem k20_143 : ml 20 143 = some (1, 106) := by decide +kernel
theorem k20_146 : ml 20 146 = some (1, 200) := by decide +kernel
theorem k20_147 : ml 20 147 = some (1, 107) := by decide +kernel
theorem k20_150 : ml 20 150 = some (1, 202) := by decide +kernel
theorem k20_151 : ml 20 151 = some (1, 108) := by decide +kernel
theorem k20_154 : ml 20 154 = some (1, 203) := by decide +kernel
theorem k20_155 : ml 20 155 = some (1, 109) := by decide +kernel
theorem k20_159 : ml 20 159 = some (1, 204) := by decide +kernel
theorem k20_160 : ml 20 160 = some (1, 110) := by decide +kernel
theorem k20_163 : ml 20 163 = some (1, 205) := by decide +kernel
theorem k20_164 : ml 20 164 = some (1, 111) := by decide +kernel
theorem k20_167 : ml 20 167 = some (1, 206) := by decide +kernel
theorem k20_168 : ml 20 168 = some (1, 112) := by decide +kernel
theorem k20_171 : ml 20 171 = some (1, 207) := by decide +kernel
theorem k20_172 : ml 20 172 = some (1, 113) := by decide +kernel
theorem k20_175 : ml 20 175 = some (1, 210) := by decide +kernel
theorem k20_176 : ml 20 176 = some (1, 114) := by decide +kernel
theorem k20_180 : ml 20 180 = some (1, 212) := by decide +kernel
theorem f0_9 : fl 0 9 = some (0, 0) := by decide +kernel
theorem f0_15 : fl 0 15 = some (0, 1) := by decide +kernel
theorem f1_9 : fl 1 9 = some (1, 0) := by decide +kernel
theorem f1_19 : fl 1 19 = some (5, 6) := by decide +kernel
theorem f1_25 : fl 1 25 = some (3, 3) := by decide +kernel
theorem f1_43 : fl 1 43 = some (5, 11) := by decide +kernel
theorem f1_58 : fl 1 58 = some (5, 12) := by decide +kernel
theorem f1_73 : fl 1 73 = some (5, 7) := by decide +kernel
theorem f1_85 : fl 1 85 = some (5, 1) := by decide +kernel
theorem f1_94 : fl 1 94 = some (5, 8) := by decide +kernel
theorem f1_103 : fl 1 103 = some (5, 4) := by decide +kernel
theorem f2_9 : fl 2 9 = some (2, 0) := by decide +kernel
theorem f2_15 : fl 2 15 = some (2, 1) := by decide +kernel
theorem f2_19 : fl 2 19 = some (2, 2) := by decide +kernel
theorem f2_22 : fl 2 22 = some (2, 3) := by decide +kernel
theorem f2_25 : fl 2 25 = some (2, 4) := by decide +kernel
theorem f2_28 : fl 2 28 = some (2, 5) := by decide +kernel
theorem f2_31 : fl 2 31 = some (2, 6) := by decide +kernel
theorem f2_34 : fl 2 34 = some (2, 7) := by decide +kernel
theorem f2_37 : fl 2 37 = some (2, 8) := by decide +kernel
theorem f2_59 : fl 2 59 = some (5, 10) := by decide +kernel
theorem f2_64 : fl 2 64 = some (5, 11) := by decide +kernel
theorem f2_79 : fl 2 79 = some (5, 12) := by decide +kernel
theorem f2_89 : fl 2 89 = some (5, 2) := by decide +kernel
theorem f3_7 : fl 3 7 = some (3, 3) := by decide +kernel
theorem f3_19 : fl 3 19 = some (3, 0) := by decide +kernel
theorem f3_22 : fl 3 22 = some (3, 1) := by decide +kernel
theorem f3_25 : fl 3 25 = some (3, 2) := by decide +kernel
theorem f4_9 : fl 4 9 = some (4, 0) := by decide +kernel
theorem f4_15 : fl 4 15 = some (4, 1) := by decide +kernel
theorem f4_18 : fl 4 18 = some (4, 2) := by decide +kernel
theorem f4_21 : fl 4 21 = some (4, 3) := by decide +kernel
theorem f4_24 : fl 4 24 = some (4, 4) := by decide +kernel
theorem f4_28 : fl 4 28 = some (4, 5) := by decide +kernel
theorem f4_31 : fl 4 31 = some (4, 6) := by decide +kernel
theorem f4_34 : fl 4 34 = some (5, 10) := by decide +kernel
theorem f4_37 : fl 4 37 = some (5, 11) := by decide +kernel
theorem f6_9 : fl 6 9 = some (5, 0) := by decide +kernel
theorem f6_15 : fl 6 15 = some (5, 1) := by decide +kernel
theorem f6_18 : fl 6 18 = some (5, 2) := by decide +kernel
theorem f6_21 : fl 6 21 = some (5, 3) := by decide +kernel
theorem f6_24 : fl 6 24 = some (5, 4) := by decide +kernel
theorem f6_27 : fl 6 27 = some (5, 5) := by decide +kernel
theorem f6_35 : fl 6 35 = some (5, 6) := by decide +kernel
theorem f6_39 : fl 6 39 = some (5, 7) := by decide +kernel
theorem f6_42 : fl 6 42 = some (5, 8) := by decide +kernel
theorem f6_45 : fl 6 45 = some (5, 9) := by decide +kernel
theorem f6_48 : fl 6 48 = some (5, 10) := by decide +kernel
theorem f6_52 : fl 6 52 = some (5, 11) := by decide +kernel
theorem f6_55 : fl 6 55 = some (5, 12) := by decide +kernel
theorem f6_58 : fl 6 58 = some (5, 13) := by decide +kernel
theorem f7_10 : fl 7 10 = some (6, 0) := by decide +kernel
theorem f7_16 : fl 7 16 = some (6, 1) := by decide +kernel
theorem f7_19 : fl 7 19 = some (6, 2) := by decide +kernel
theorem f7_26 : fl 7 26 = some (6, 3) := by decide +kernel
theorem f7_33 : fl 7 33 = some (6, 4) := by decide +kernel
theorem f7_40 : fl 7 40 = some (6, 5) := by decide +kernel
theorem f7_47 : fl 7 47 = some (6, 6) := by decide +kernel
theorem f7_51 : fl 7 51 = some (6, 7) := by decide +kernel
theorem f7_55 : fl 7 55 = some (6, 8) := by decide +kernel
theorem f7_59 : fl 7 59 = some (6, 9) := by decide +kernel
theorem f7_70 : fl 7 70 = some (5, 10) := by decide +kernel
theorem f7_81 : fl 7 81 = some (5, 11) := by decide +kernel
theorem f7_87 : fl 7 87 = some (2, 1) := by decide +kernel
theorem f7_93 : fl 7 93 = some (2, 2) := by decide +kernel
theorem f7_99 : fl 7 99 = some (2, 4) := by decide +kernel
theorem f7_110 : fl 7 110 = some (2, 3) := by decide +kernel
theorem f7_123 : fl 7 123 = some (5, 2) := by decide +kernel
theorem f7_140 : fl 7 140 = some (5, 12) := by decide +kernel
theorem f7_150 : fl 7 150 = some (5, 9) := by decide +kernel
theorem f7_154 : fl 7 154 = some (3, 3) := by decide +kernel
theorem f7_162 : fl 7 162 = some (5, 13) := by decide +kernel
theorem f7_165 : fl 7 165 = some (5, 0) := by decide +kernel
theorem f7_168 : fl 7 168 = some (5, 1) := by decide +kernel
theorem f7_171 : fl 7 171 = some (5, 3) := by decide +kernel
theorem f7_174 : fl 7 174 = some (5, 4) := by decide +kernel
theorem f7_177 : fl 7 177 = some (5, 5) := by decide +kernel
theorem f7_212 : fl 7 212 = some (4, 6) := by decide +kernel
theorem f7_215 : fl 7 215 = some (4, 3) := by decide +kernel
theorem f7_218 : fl 7 218 = some (5, 6) := by decide +kernel
theorem f7_245 : fl 7 245 = some (5, 7) := by decide +kernel
theorem f7_248 : fl 7 248 = some (5, 8) := by decide +kernel
theorem f8_7 : fl 8 7 = some (7, 0) := by decide +kernel
theorem f8_13 : fl 8 13 = some (7, 1) := by decide +kernel
theorem f8_17 : fl 8 17 = some (7, 2) := by decide +kernel
theorem f8_20 : fl 8 20 = some (7, 4) := by decide +kernel
theorem f8_24 : fl 8 24 = some (7, 5) := by decide +kernel
theorem f8_27 : fl 8 27 = some (7, 7) := by decide +kernel
theorem f8_30 : fl 8 30 = some (7, 13) := by decide +kernel
theorem f8_33 : fl 8 33 = some (7, 14) := by decide +kernel
theorem f8_36 : fl 8 36 = some (7, 15) := by decide +kernel
theorem f8_39 : fl 8 39 = some (7, 16) := by decide +kernel
theorem f8_42 : fl 8 42 = some (7, 17) := by decide +kernel
theorem f8_64 : fl 8 64 = some (7, 6) := by decide +kernel
theorem f8_68 : fl 8 68 = some (7, 9) := by decide +kernel
theorem f8_71 : fl 8 71 = some (7, 8) := by decide +kernel
theorem f8_91 : fl 8 91 = some (7, 12) := by decide +kernel
theorem f8_95 : fl 8 95 = some (7, 10) := by decide +kernel
theorem f8_98 : fl 8 98 = some (7, 11) := by decide +kernel
theorem f8_206 : fl 8 206 = some (7, 3) := by decide +kernel
