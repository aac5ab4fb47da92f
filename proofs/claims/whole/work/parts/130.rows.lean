/-! rows for the walk -/
theorem gm_X6_init : gmt[0]? = some (yX6_init, cX6_init, 2, none, 6) := rfl
theorem gm_X1_init : gmt[1]? = some (yX1_init, cX1_init, 1, none, 1) := rfl
theorem gm_X4_init : gmt[2]? = some (yX4_init, cX4_init, 1, none, 4) := rfl
theorem gm_X3_init : gmt[3]? = some (yX3_init, cX3_init, 1, none, 3) := rfl
theorem gm_X2_init : gmt[4]? = some (yX2_init, cX2_init, 3, none, 2) := rfl
theorem gm_J9_max_7cf53 : gmt[5]? = some (yJ9_max_7cf53, cJ9_max_7cf53, 2, (some .int), 10) := rfl
theorem gm_X0_init : gmt[6]? = some (yX0_init, cX0_init, 1, none, 0) := rfl
theorem gm_X5_init : gmt[7]? = some (yX5_init, cX5_init, 1, none, 5) := rfl
theorem gm_X1_add : gmt[8]? = some (yX1_add, cX1_add, 2, (some .boolean), 1) := rfl
theorem gm_X1_firstFault : gmt[9]? = some (yX1_firstFault, cX1_firstFault, 4, (some .int), 1) := rfl
theorem gm_X4_empty : gmt[10]? = some (yX4_empty, cX4_empty, 2, none, 4) := rfl
theorem gm_X1_readItem : gmt[11]? = some (yX1_readItem, cX1_readItem, 6, (some .boolean), 1) := rfl
theorem gm_X1_readLetter : gmt[12]? = some (yX1_readLetter, cX1_readLetter, 1, (some .int), 1) := rfl
theorem gm_X1_numbersBehind : gmt[13]? = some (yX1_numbersBehind, cX1_numbersBehind, 1, (some .int), 1) := rfl
theorem gm_X1_readNumber : gmt[14]? = some (yX1_readNumber, cX1_readNumber, 4, (some .int), 1) := rfl
theorem gm_X6_within : gmt[15]? = some (yX6_within, cX6_within, 3, (some .boolean), 6) := rfl
theorem gm_X4_take : gmt[16]? = some (yX4_take, cX4_take, 3, (some .boolean), 4) := rfl
theorem gm_X4_takePerson : gmt[17]? = some (yX4_takePerson, cX4_takePerson, 2, (some .boolean), 4) := rfl
theorem gm_X4_eachUpTo : gmt[18]? = some (yX4_eachUpTo, cX4_eachUpTo, 4, (some .boolean), 4) := rfl
theorem gm_X4_takeDeed : gmt[19]? = some (yX4_takeDeed, cX4_takeDeed, 2, (some .boolean), 4) := rfl
theorem gm_X4_takeHabit : gmt[20]? = some (yX4_takeHabit, cX4_takeHabit, 2, (some .boolean), 4) := rfl
theorem gm_X4_takePrice : gmt[21]? = some (yX4_takePrice, cX4_takePrice, 2, (some .boolean), 4) := rfl
theorem gm_X3_begin : gmt[22]? = some (yX3_begin, cX3_begin, 3, none, 3) := rfl
theorem gm_X6_write : gmt[23]? = some (yX6_write, cX6_write, 2, (some .int), 6) := rfl
theorem gm_X6_wipe : gmt[24]? = some (yX6_wipe, cX6_wipe, 2, (some .int), 6) := rfl
theorem gm_X6_fault : gmt[25]? = some (yX6_fault, cX6_fault, 1, (some .int), 6) := rfl
theorem gm_X6_lay : gmt[26]? = some (yX6_lay, cX6_lay, 2, (some .int), 6) := rfl
theorem gm_X6_person : gmt[27]? = some (yX6_person, cX6_person, 3, (some .int), 6) := rfl
theorem gm_X6_isPerson : gmt[28]? = some (yX6_isPerson, cX6_isPerson, 2, (some .boolean), 6) := rfl
theorem gm_X3_hue : gmt[29]? = some (yX3_hue, cX3_hue, 2, (some .int), 3) := rfl
theorem gm_X6_hueOf : gmt[30]? = some (yX6_hueOf, cX6_hueOf, 4, (some .int), 6) := rfl
theorem gm_X6_deed : gmt[31]? = some (yX6_deed, cX6_deed, 3, (some .int), 6) := rfl
theorem gm_X6_isDeed : gmt[32]? = some (yX6_isDeed, cX6_isDeed, 2, (some .boolean), 6) := rfl
theorem gm_X6_told : gmt[33]? = some (yX6_told, cX6_told, 3, (some .int), 6) := rfl
theorem gm_X6_can : gmt[34]? = some (yX6_can, cX6_can, 3, (some .int), 6) := rfl
theorem gm_X4_affords : gmt[35]? = some (yX4_affords, cX4_affords, 9, (some .boolean), 4) := rfl
theorem gm_X4_writeBill : gmt[36]? = some (yX4_writeBill, cX4_writeBill, 4, none, 4) := rfl
theorem gm_X4_billSum : gmt[37]? = some (yX4_billSum, cX4_billSum, 1, (some .int), 4) := rfl
theorem gm_X4_mix : gmt[38]? = some (yX4_mix, cX4_mix, 6, (some .boolean), 4) := rfl
theorem gm_X6_pass : gmt[39]? = some (yX6_pass, cX6_pass, 2, (some .int), 6) := rfl
theorem gm_X2_put : gmt[40]? = some (yX2_put, cX2_put, 2, none, 2) := rfl
theorem gm_X3_copyFrom : gmt[41]? = some (yX3_copyFrom, cX3_copyFrom, 2, none, 3) := rfl
theorem gm_J9_min_7cf53 : gmt[42]? = some (yJ9_min_7cf53, cJ9_min_7cf53, 2, (some .int), 10) := rfl
theorem gm_X3_passDays : gmt[43]? = some (yX3_passDays, cX3_passDays, 4, none, 3) := rfl
theorem gm_X3_doTold : gmt[44]? = some (yX3_doTold, cX3_doTold, 4, none, 3) := rfl
theorem gm_X3_weekday : gmt[45]? = some (yX3_weekday, cX3_weekday, 1, (some .int), 3) := rfl
theorem gm_X3_perform : gmt[46]? = some (yX3_perform, cX3_perform, 4, (some .int), 3) := rfl
theorem gm_X4_pay : gmt[47]? = some (yX4_pay, cX4_pay, 4, none, 4) := rfl
theorem gm_X3_fade : gmt[48]? = some (yX3_fade, cX3_fade, 3, none, 3) := rfl
theorem gm_X4_fade : gmt[49]? = some (yX4_fade, cX4_fade, 4, none, 4) := rfl
theorem gm_X3_endDay : gmt[50]? = some (yX3_endDay, cX3_endDay, 3, none, 3) := rfl
theorem gm_X4_renew : gmt[51]? = some (yX4_renew, cX4_renew, 6, none, 4) := rfl
theorem gm_X6_act : gmt[52]? = some (yX6_act, cX6_act, 3, (some .int), 6) := rfl
theorem gm_X6_lend : gmt[53]? = some (yX6_lend, cX6_lend, 7, (some .int), 6) := rfl
theorem gm_X6_isSort : gmt[54]? = some (yX6_isSort, cX6_isSort, 1, (some .boolean), 6) := rfl
theorem gm_X6_sell : gmt[55]? = some (yX6_sell, cX6_sell, 5, (some .int), 6) := rfl
theorem gm_X6_levy : gmt[56]? = some (yX6_levy, cX6_levy, 4, (some .int), 6) := rfl
theorem gm_X3_takeFromRichest : gmt[57]? = some (yX3_takeFromRichest, cX3_takeFromRichest, 5, (some .boolean), 3) := rfl
theorem gm_X6_undo : gmt[58]? = some (yX6_undo, cX6_undo, 1, (some .int), 6) := rfl
theorem gm_X2_takeLast : gmt[59]? = some (yX2_takeLast, cX2_takeLast, 2, (some .boolean), 2) := rfl
theorem gm_X6_behind : gmt[60]? = some (yX6_behind, cX6_behind, 4, (some .int), 6) := rfl
theorem gm_X6_grey : gmt[61]? = some (yX6_grey, cX6_grey, 4, (some .int), 6) := rfl
theorem gm_X3_firstGrey : gmt[62]? = some (yX3_firstGrey, cX3_firstGrey, 3, (some .int), 3) := rfl
theorem gm_X6_best : gmt[63]? = some (yX6_best, cX6_best, 3, (some .int), 6) := rfl
theorem gm_X0_choose : gmt[64]? = some (yX0_choose, cX0_choose, 5, none, 0) := rfl
theorem gm_X0_search : gmt[65]? = some (yX0_search, cX0_search, 8, none, 0) := rfl
theorem gm_X0_isBetter : gmt[66]? = some (yX0_isBetter, cX0_isBetter, 3, (some .boolean), 0) := rfl
theorem gm_X0_repeat : gmt[67]? = some (yX0_repeat, cX0_repeat, 7, (some .int), 0) := rfl
theorem gm_X6_lending : gmt[68]? = some (yX6_lending, cX6_lending, 6, (some .int), 6) := rfl
theorem gm_X6_needToday : gmt[69]? = some (yX6_needToday, cX6_needToday, 4, (some .int), 6) := rfl
theorem gm_X6_heap : gmt[70]? = some (yX6_heap, cX6_heap, 8, (some .int), 6) := rfl
theorem gm_J6_bitCount_0f7a4 : gmt[71]? = some (yJ6_bitCount_0f7a4, cJ6_bitCount_0f7a4, 1, (some .int), 9) := rfl
theorem gm_X6_sumOf : gmt[72]? = some (yX6_sumOf, cX6_sumOf, 5, (some .int), 6) := rfl
theorem gm_X6_seen : gmt[73]? = some (yX6_seen, cX6_seen, 4, (some .int), 6) := rfl
theorem gm_X5_add : gmt[74]? = some (yX5_add, cX5_add, 4, (some .boolean), 5) := rfl
theorem gm_X6_forget : gmt[75]? = some (yX6_forget, cX6_forget, 2, (some .int), 6) := rfl
theorem gm_X6_spent : gmt[76]? = some (yX6_spent, cX6_spent, 3, (some .int), 6) := rfl
theorem gm_X5_lastDay : gmt[77]? = some (yX5_lastDay, cX5_lastDay, 4, (some .int), 5) := rfl
theorem gm_X5_recall : gmt[78]? = some (yX5_recall, cX5_recall, 4, none, 5) := rfl
theorem gm_X5_search : gmt[79]? = some (yX5_search, cX5_search, 7, none, 5) := rfl
theorem gm_X5_spendDay : gmt[80]? = some (yX5_spendDay, cX5_spendDay, 7, (some .boolean), 5) := rfl
theorem gm_X5_agrees : gmt[81]? = some (yX5_agrees, cX5_agrees, 5, (some .boolean), 5) := rfl
theorem gm_X6_saved : gmt[82]? = some (yX6_saved, cX6_saved, 5, (some .int), 6) := rfl
theorem gm_X6_lasts : gmt[83]? = some (yX6_lasts, cX6_lasts, 11, (some .int), 6) := rfl
theorem gm_X6_timesInARow : gmt[84]? = some (yX6_timesInARow, cX6_timesInARow, 5, (some .int), 6) := rfl
theorem gm_X6_choose : gmt[85]? = some (yX6_choose, cX6_choose, 5, (some .long), 6) := rfl
theorem gm_X6_power : gmt[86]? = some (yX6_power, cX6_power, 5, (some .long), 6) := rfl
theorem gm_X6_commonDivisor : gmt[87]? = some (yX6_commonDivisor, cX6_commonDivisor, 11, (some .long), 6) := rfl
theorem gm_J9_max_f86c9 : gmt[88]? = some (yJ9_max_f86c9, cJ9_max_f86c9, 4, (some .long), 10) := rfl
theorem gm_X6_year : gmt[89]? = some (yX6_year, cX6_year, 6, (some .int), 6) := rfl
theorem gm_X3_doDrawn : gmt[90]? = some (yX3_doDrawn, cX3_doDrawn, 6, none, 3) := rfl
theorem gm_X3_draw : gmt[91]? = some (yX3_draw, cX3_draw, 5, (some .int), 3) := rfl
theorem gm_X3_countGrey : gmt[92]? = some (yX3_countGrey, cX3_countGrey, 4, (some .int), 3) := rfl
theorem gm_X3_worthOfAll : gmt[93]? = some (yX3_worthOfAll, cX3_worthOfAll, 4, (some .int), 3) := rfl
theorem gm_X6_keep : gmt[94]? = some (yX6_keep, cX6_keep, 1, (some .int), 6) := rfl
theorem gm_X6_back : gmt[95]? = some (yX6_back, cX6_back, 1, (some .int), 6) := rfl
theorem gm_X6_count : gmt[96]? = some (yX6_count, cX6_count, 2, (some .int), 6) := rfl
theorem gm_X3_thimblesOfAll : gmt[97]? = some (yX3_thimblesOfAll, cX3_thimblesOfAll, 4, (some .int), 3) := rfl
theorem gm_X7_init : gmt[98]? = some (yX7_init, cX7_init, 1, none, 7) := rfl
theorem gm_X7_firstPerson : gmt[99]? = some (yX7_firstPerson, cX7_firstPerson, 7, none, 7) := rfl
theorem gm_X7_firstDeed : gmt[100]? = some (yX7_firstDeed, cX7_firstDeed, 6, none, 7) := rfl
theorem gm_X7_takeDraft : gmt[101]? = some (yX7_takeDraft, cX7_takeDraft, 2, none, 7) := rfl
theorem gm_X7_write : gmt[102]? = some (yX7_write, cX7_write, 2, (some .int), 7) := rfl
theorem gm_X7_in : gmt[103]? = some (yX7_in, cX7_in, 3, (some .boolean), 7) := rfl
theorem gm_X7_wipe : gmt[104]? = some (yX7_wipe, cX7_wipe, 2, (some .int), 7) := rfl
theorem gm_X7_fault : gmt[105]? = some (yX7_fault, cX7_fault, 2, (some .int), 7) := rfl
theorem gm_X7_readItem : gmt[106]? = some (yX7_readItem, cX7_readItem, 6, none, 7) := rfl
theorem gm_X7_here : gmt[107]? = some (yX7_here, cX7_here, 1, (some .int), 7) := rfl
theorem gm_X7_number : gmt[108]? = some (yX7_number, cX7_number, 6, (some .int), 7) := rfl
theorem gm_X7_lay : gmt[109]? = some (yX7_lay, cX7_lay, 1, (some .int), 7) := rfl
theorem gm_X7_person : gmt[110]? = some (yX7_person, cX7_person, 3, (some .int), 7) := rfl
theorem gm_X7_isPerson : gmt[111]? = some (yX7_isPerson, cX7_isPerson, 2, (some .boolean), 7) := rfl
theorem gm_X7_hue : gmt[112]? = some (yX7_hue, cX7_hue, 5, (some .int), 7) := rfl
theorem gm_X7_deed : gmt[113]? = some (yX7_deed, cX7_deed, 3, (some .int), 7) := rfl
theorem gm_X7_isDeed : gmt[114]? = some (yX7_isDeed, cX7_isDeed, 2, (some .boolean), 7) := rfl
theorem gm_X7_told : gmt[115]? = some (yX7_told, cX7_told, 3, (some .int), 7) := rfl
theorem gm_X7_can : gmt[116]? = some (yX7_can, cX7_can, 3, (some .int), 7) := rfl
theorem gm_X7_canDo : gmt[117]? = some (yX7_canDo, cX7_canDo, 8, (some .boolean), 7) := rfl
theorem gm_X7_plainCost : gmt[118]? = some (yX7_plainCost, cX7_plainCost, 6, none, 7) := rfl
theorem gm_X7_lacks : gmt[119]? = some (yX7_lacks, cX7_lacks, 6, (some .int), 7) := rfl
theorem gm_X7_pass : gmt[120]? = some (yX7_pass, cX7_pass, 3, (some .int), 7) := rfl
theorem gm_X7_know : gmt[121]? = some (yX7_know, cX7_know, 2, none, 7) := rfl
theorem gm_X7_copy : gmt[122]? = some (yX7_copy, cX7_copy, 4, none, 7) := rfl
theorem gm_X7_toldDeeds : gmt[123]? = some (yX7_toldDeeds, cX7_toldDeeds, 4, none, 7) := rfl
theorem gm_X7_doIt : gmt[124]? = some (yX7_doIt, cX7_doIt, 6, (some .int), 7) := rfl
theorem gm_X7_seaAll : gmt[125]? = some (yX7_seaAll, cX7_seaAll, 3, none, 7) := rfl
theorem gm_X7_sea : gmt[126]? = some (yX7_sea, cX7_sea, 4, none, 7) := rfl
theorem gm_X7_over : gmt[127]? = some (yX7_over, cX7_over, 5, none, 7) := rfl
theorem gm_X7_act : gmt[128]? = some (yX7_act, cX7_act, 3, (some .int), 7) := rfl
theorem gm_X7_lend : gmt[129]? = some (yX7_lend, cX7_lend, 7, (some .int), 7) := rfl
theorem gm_X7_isSort : gmt[130]? = some (yX7_isSort, cX7_isSort, 1, (some .boolean), 7) := rfl
theorem gm_X7_sell : gmt[131]? = some (yX7_sell, cX7_sell, 4, (some .int), 7) := rfl
theorem gm_X7_levy : gmt[132]? = some (yX7_levy, cX7_levy, 6, (some .int), 7) := rfl
theorem gm_X7_undo : gmt[133]? = some (yX7_undo, cX7_undo, 1, (some .int), 7) := rfl
theorem gm_X7_behind : gmt[134]? = some (yX7_behind, cX7_behind, 5, (some .int), 7) := rfl
theorem gm_X7_grey : gmt[135]? = some (yX7_grey, cX7_grey, 4, (some .int), 7) := rfl
theorem gm_X7_best : gmt[136]? = some (yX7_best, cX7_best, 8, (some .int), 7) := rfl
theorem gm_X7_tryRow : gmt[137]? = some (yX7_tryRow, cX7_tryRow, 7, (some .boolean), 7) := rfl
theorem gm_X7_lending : gmt[138]? = some (yX7_lending, cX7_lending, 9, (some .int), 7) := rfl
theorem gm_X7_heap : gmt[139]? = some (yX7_heap, cX7_heap, 7, (some .int), 7) := rfl
theorem gm_X7_together : gmt[140]? = some (yX7_together, cX7_together, 5, (some .int), 7) := rfl
theorem gm_X7_manyOf : gmt[141]? = some (yX7_manyOf, cX7_manyOf, 3, (some .int), 7) := rfl
theorem gm_X7_seen : gmt[142]? = some (yX7_seen, cX7_seen, 4, (some .int), 7) := rfl
theorem gm_X7_forget : gmt[143]? = some (yX7_forget, cX7_forget, 2, (some .int), 7) := rfl
theorem gm_X7_spent : gmt[144]? = some (yX7_spent, cX7_spent, 7, (some .int), 7) := rfl
theorem gm_X7_lastOf : gmt[145]? = some (yX7_lastOf, cX7_lastOf, 4, (some .int), 7) := rfl
theorem gm_X7_power : gmt[146]? = some (yX7_power, cX7_power, 4, (some .int), 7) := rfl
theorem gm_X7_isSpent : gmt[147]? = some (yX7_isSpent, cX7_isSpent, 8, (some .boolean), 7) := rfl
theorem gm_X7_saved : gmt[148]? = some (yX7_saved, cX7_saved, 6, (some .int), 7) := rfl
theorem gm_X7_lasts : gmt[149]? = some (yX7_lasts, cX7_lasts, 12, (some .int), 7) := rfl
theorem gm_X7_year : gmt[150]? = some (yX7_year, cX7_year, 10, (some .int), 7) := rfl
theorem gm_X7_keep : gmt[151]? = some (yX7_keep, cX7_keep, 1, (some .int), 7) := rfl
theorem gm_X7_back : gmt[152]? = some (yX7_back, cX7_back, 1, (some .int), 7) := rfl
theorem gm_X7_count : gmt[153]? = some (yX7_count, cX7_count, 6, (some .int), 7) := rfl
theorem gzfin0 : ((0 : Fin 4) : Nat) = 0 := rfl
theorem gzfin1 : ((1 : Fin 4) : Nat) = 1 := rfl
theorem gzfin2 : ((2 : Fin 4) : Nat) = 2 := rfl
theorem gzfin3 : ((3 : Fin 4) : Nat) = 3 := rfl
theorem gzcat_i (x : Int32) : (Value.int x).category = 1 := rfl
theorem gzcat_l (x : Int64) : (Value.long x).category = 2 := rfl
theorem gzcat_r (x : Nat) : (Value.ref x).category = 1 := rfl
