/-! tables by number: classes, methods, links (written by a program of mine out of the tables_1) -/
def gown : Nat → String := fun o => match o with
  | 0 => RX0
  | 1 => RX1
  | 2 => RX2
  | 3 => RX3
  | 4 => RX4
  | 5 => RX5
  | 6 => RX6
  | 7 => RX7
  | 8 => RL
  | 9 => RJ6
  | _ => RJ9
def gmt : List (MethodName × ByteArray × Nat × Option FieldType × Nat) := [
  (yX6_init, cX6_init, 2, none, 6),
  (yX1_init, cX1_init, 1, none, 1),
  (yX4_init, cX4_init, 1, none, 4),
  (yX3_init, cX3_init, 1, none, 3),
  (yX2_init, cX2_init, 3, none, 2),
  (yJ9_max_7cf53, cJ9_max_7cf53, 2, (some .int), 10),
  (yX0_init, cX0_init, 1, none, 0),
  (yX5_init, cX5_init, 1, none, 5),
  (yX1_add, cX1_add, 2, (some .boolean), 1),
  (yX1_firstFault, cX1_firstFault, 4, (some .int), 1),
  (yX4_empty, cX4_empty, 2, none, 4),
  (yX1_readItem, cX1_readItem, 6, (some .boolean), 1),
  (yX1_readLetter, cX1_readLetter, 1, (some .int), 1),
  (yX1_numbersBehind, cX1_numbersBehind, 1, (some .int), 1),
  (yX1_readNumber, cX1_readNumber, 4, (some .int), 1),
  (yX6_within, cX6_within, 3, (some .boolean), 6),
  (yX4_take, cX4_take, 3, (some .boolean), 4),
  (yX4_takePerson, cX4_takePerson, 2, (some .boolean), 4),
  (yX4_eachUpTo, cX4_eachUpTo, 4, (some .boolean), 4),
  (yX4_takeDeed, cX4_takeDeed, 2, (some .boolean), 4),
  (yX4_takeHabit, cX4_takeHabit, 2, (some .boolean), 4),
  (yX4_takePrice, cX4_takePrice, 2, (some .boolean), 4),
  (yX3_begin, cX3_begin, 3, none, 3),
  (yX6_write, cX6_write, 2, (some .int), 6),
  (yX6_wipe, cX6_wipe, 2, (some .int), 6),
  (yX6_fault, cX6_fault, 1, (some .int), 6),
  (yX6_lay, cX6_lay, 2, (some .int), 6),
  (yX6_person, cX6_person, 3, (some .int), 6),
  (yX6_isPerson, cX6_isPerson, 2, (some .boolean), 6),
  (yX3_hue, cX3_hue, 2, (some .int), 3),
  (yX6_hueOf, cX6_hueOf, 4, (some .int), 6),
  (yX6_deed, cX6_deed, 3, (some .int), 6),
  (yX6_isDeed, cX6_isDeed, 2, (some .boolean), 6),
  (yX6_told, cX6_told, 3, (some .int), 6),
  (yX6_can, cX6_can, 3, (some .int), 6),
  (yX4_affords, cX4_affords, 9, (some .boolean), 4),
  (yX4_writeBill, cX4_writeBill, 4, none, 4),
  (yX4_billSum, cX4_billSum, 1, (some .int), 4),
  (yX4_mix, cX4_mix, 6, (some .boolean), 4),
  (yX6_pass, cX6_pass, 2, (some .int), 6),
  (yX2_put, cX2_put, 2, none, 2),
  (yX3_copyFrom, cX3_copyFrom, 2, none, 3),
  (yJ9_min_7cf53, cJ9_min_7cf53, 2, (some .int), 10),
  (yX3_passDays, cX3_passDays, 4, none, 3),
  (yX3_doTold, cX3_doTold, 4, none, 3),
  (yX3_weekday, cX3_weekday, 1, (some .int), 3),
  (yX3_perform, cX3_perform, 4, (some .int), 3),
  (yX4_pay, cX4_pay, 4, none, 4),
  (yX3_fade, cX3_fade, 3, none, 3),
  (yX4_fade, cX4_fade, 4, none, 4),
  (yX3_endDay, cX3_endDay, 3, none, 3),
  (yX4_renew, cX4_renew, 6, none, 4),
  (yX6_act, cX6_act, 3, (some .int), 6),
  (yX6_lend, cX6_lend, 7, (some .int), 6),
  (yX6_isSort, cX6_isSort, 1, (some .boolean), 6),
  (yX6_sell, cX6_sell, 5, (some .int), 6),
  (yX6_levy, cX6_levy, 4, (some .int), 6),
  (yX3_takeFromRichest, cX3_takeFromRichest, 5, (some .boolean), 3),
  (yX6_undo, cX6_undo, 1, (some .int), 6),
  (yX2_takeLast, cX2_takeLast, 2, (some .boolean), 2),
  (yX6_behind, cX6_behind, 4, (some .int), 6),
  (yX6_grey, cX6_grey, 4, (some .int), 6),
  (yX3_firstGrey, cX3_firstGrey, 3, (some .int), 3),
  (yX6_best, cX6_best, 3, (some .int), 6),
  (yX0_choose, cX0_choose, 5, none, 0),
  (yX0_search, cX0_search, 8, none, 0),
  (yX0_isBetter, cX0_isBetter, 3, (some .boolean), 0),
  (yX0_repeat, cX0_repeat, 7, (some .int), 0),
  (yX6_lending, cX6_lending, 6, (some .int), 6),
  (yX6_needToday, cX6_needToday, 4, (some .int), 6),
  (yX6_heap, cX6_heap, 8, (some .int), 6),
  (yJ6_bitCount_0f7a4, cJ6_bitCount_0f7a4, 1, (some .int), 9),
  (yX6_sumOf, cX6_sumOf, 5, (some .int), 6),
  (yX6_seen, cX6_seen, 4, (some .int), 6),
  (yX5_add, cX5_add, 4, (some .boolean), 5),
  (yX6_forget, cX6_forget, 2, (some .int), 6),
  (yX6_spent, cX6_spent, 3, (some .int), 6),
  (yX5_lastDay, cX5_lastDay, 4, (some .int), 5),
  (yX5_recall, cX5_recall, 4, none, 5),
  (yX5_search, cX5_search, 7, none, 5),
  (yX5_spendDay, cX5_spendDay, 7, (some .boolean), 5),
  (yX5_agrees, cX5_agrees, 5, (some .boolean), 5),
  (yX6_saved, cX6_saved, 5, (some .int), 6),
  (yX6_lasts, cX6_lasts, 11, (some .int), 6),
  (yX6_timesInARow, cX6_timesInARow, 5, (some .int), 6),
  (yX6_choose, cX6_choose, 5, (some .long), 6),
  (yX6_power, cX6_power, 5, (some .long), 6),
  (yX6_commonDivisor, cX6_commonDivisor, 11, (some .long), 6),
  (yJ9_max_f86c9, cJ9_max_f86c9, 4, (some .long), 10),
  (yX6_year, cX6_year, 6, (some .int), 6),
  (yX3_doDrawn, cX3_doDrawn, 6, none, 3),
  (yX3_draw, cX3_draw, 5, (some .int), 3),
  (yX3_countGrey, cX3_countGrey, 4, (some .int), 3),
  (yX3_worthOfAll, cX3_worthOfAll, 4, (some .int), 3),
  (yX6_keep, cX6_keep, 1, (some .int), 6),
  (yX6_back, cX6_back, 1, (some .int), 6),
  (yX6_count, cX6_count, 2, (some .int), 6),
  (yX3_thimblesOfAll, cX3_thimblesOfAll, 4, (some .int), 3),
  (yX7_init, cX7_init, 1, none, 7),
  (yX7_firstPerson, cX7_firstPerson, 7, none, 7),
  (yX7_firstDeed, cX7_firstDeed, 6, none, 7),
  (yX7_takeDraft, cX7_takeDraft, 2, none, 7),
  (yX7_write, cX7_write, 2, (some .int), 7),
  (yX7_in, cX7_in, 3, (some .boolean), 7),
  (yX7_wipe, cX7_wipe, 2, (some .int), 7),
  (yX7_fault, cX7_fault, 2, (some .int), 7),
  (yX7_readItem, cX7_readItem, 6, none, 7),
  (yX7_here, cX7_here, 1, (some .int), 7),
  (yX7_number, cX7_number, 6, (some .int), 7),
  (yX7_lay, cX7_lay, 1, (some .int), 7),
  (yX7_person, cX7_person, 3, (some .int), 7),
  (yX7_isPerson, cX7_isPerson, 2, (some .boolean), 7),
  (yX7_hue, cX7_hue, 5, (some .int), 7),
  (yX7_deed, cX7_deed, 3, (some .int), 7),
  (yX7_isDeed, cX7_isDeed, 2, (some .boolean), 7),
  (yX7_told, cX7_told, 3, (some .int), 7),
  (yX7_can, cX7_can, 3, (some .int), 7),
  (yX7_canDo, cX7_canDo, 8, (some .boolean), 7),
  (yX7_plainCost, cX7_plainCost, 6, none, 7),
  (yX7_lacks, cX7_lacks, 6, (some .int), 7),
  (yX7_pass, cX7_pass, 3, (some .int), 7),
  (yX7_know, cX7_know, 2, none, 7),
  (yX7_copy, cX7_copy, 4, none, 7),
  (yX7_toldDeeds, cX7_toldDeeds, 4, none, 7),
  (yX7_doIt, cX7_doIt, 6, (some .int), 7),
  (yX7_seaAll, cX7_seaAll, 3, none, 7),
  (yX7_sea, cX7_sea, 4, none, 7),
  (yX7_over, cX7_over, 5, none, 7),
  (yX7_act, cX7_act, 3, (some .int), 7),
  (yX7_lend, cX7_lend, 7, (some .int), 7),
  (yX7_isSort, cX7_isSort, 1, (some .boolean), 7),
  (yX7_sell, cX7_sell, 4, (some .int), 7),
  (yX7_levy, cX7_levy, 6, (some .int), 7),
  (yX7_undo, cX7_undo, 1, (some .int), 7),
  (yX7_behind, cX7_behind, 5, (some .int), 7),
  (yX7_grey, cX7_grey, 4, (some .int), 7),
  (yX7_best, cX7_best, 8, (some .int), 7),
  (yX7_tryRow, cX7_tryRow, 7, (some .boolean), 7),
  (yX7_lending, cX7_lending, 9, (some .int), 7),
  (yX7_heap, cX7_heap, 7, (some .int), 7),
  (yX7_together, cX7_together, 5, (some .int), 7),
  (yX7_manyOf, cX7_manyOf, 3, (some .int), 7),
  (yX7_seen, cX7_seen, 4, (some .int), 7),
  (yX7_forget, cX7_forget, 2, (some .int), 7),
  (yX7_spent, cX7_spent, 7, (some .int), 7),
  (yX7_lastOf, cX7_lastOf, 4, (some .int), 7),
  (yX7_power, cX7_power, 4, (some .int), 7),
  (yX7_isSpent, cX7_isSpent, 8, (some .boolean), 7),
  (yX7_saved, cX7_saved, 6, (some .int), 7),
  (yX7_lasts, cX7_lasts, 12, (some .int), 7),
  (yX7_year, cX7_year, 10, (some .int), 7),
  (yX7_keep, cX7_keep, 1, (some .int), 7),
  (yX7_back, cX7_back, 1, (some .int), 7),
  (yX7_count, cX7_count, 6, (some .int), 7)]
abbrev mX6_init : Nat := 0
abbrev mX1_init : Nat := 1
abbrev mX4_init : Nat := 2
abbrev mX3_init : Nat := 3
abbrev mX2_init : Nat := 4
abbrev mJ9_max_7cf53 : Nat := 5
abbrev mX0_init : Nat := 6
abbrev mX5_init : Nat := 7
abbrev mX1_add : Nat := 8
abbrev mX1_firstFault : Nat := 9
abbrev mX4_empty : Nat := 10
abbrev mX1_readItem : Nat := 11
abbrev mX1_readLetter : Nat := 12
abbrev mX1_numbersBehind : Nat := 13
abbrev mX1_readNumber : Nat := 14
abbrev mX6_within : Nat := 15
abbrev mX4_take : Nat := 16
abbrev mX4_takePerson : Nat := 17
abbrev mX4_eachUpTo : Nat := 18
abbrev mX4_takeDeed : Nat := 19
abbrev mX4_takeHabit : Nat := 20
abbrev mX4_takePrice : Nat := 21
abbrev mX3_begin : Nat := 22
abbrev mX6_write : Nat := 23
abbrev mX6_wipe : Nat := 24
abbrev mX6_fault : Nat := 25
abbrev mX6_lay : Nat := 26
abbrev mX6_person : Nat := 27
abbrev mX6_isPerson : Nat := 28
abbrev mX3_hue : Nat := 29
abbrev mX6_hueOf : Nat := 30
abbrev mX6_deed : Nat := 31
abbrev mX6_isDeed : Nat := 32
abbrev mX6_told : Nat := 33
abbrev mX6_can : Nat := 34
abbrev mX4_affords : Nat := 35
abbrev mX4_writeBill : Nat := 36
abbrev mX4_billSum : Nat := 37
abbrev mX4_mix : Nat := 38
abbrev mX6_pass : Nat := 39
abbrev mX2_put : Nat := 40
abbrev mX3_copyFrom : Nat := 41
abbrev mJ9_min_7cf53 : Nat := 42
abbrev mX3_passDays : Nat := 43
abbrev mX3_doTold : Nat := 44
abbrev mX3_weekday : Nat := 45
abbrev mX3_perform : Nat := 46
abbrev mX4_pay : Nat := 47
abbrev mX3_fade : Nat := 48
abbrev mX4_fade : Nat := 49
abbrev mX3_endDay : Nat := 50
abbrev mX4_renew : Nat := 51
abbrev mX6_act : Nat := 52
abbrev mX6_lend : Nat := 53
abbrev mX6_isSort : Nat := 54
abbrev mX6_sell : Nat := 55
abbrev mX6_levy : Nat := 56
abbrev mX3_takeFromRichest : Nat := 57
abbrev mX6_undo : Nat := 58
abbrev mX2_takeLast : Nat := 59
abbrev mX6_behind : Nat := 60
abbrev mX6_grey : Nat := 61
abbrev mX3_firstGrey : Nat := 62
abbrev mX6_best : Nat := 63
abbrev mX0_choose : Nat := 64
abbrev mX0_search : Nat := 65
abbrev mX0_isBetter : Nat := 66
abbrev mX0_repeat : Nat := 67
abbrev mX6_lending : Nat := 68
abbrev mX6_needToday : Nat := 69
abbrev mX6_heap : Nat := 70
abbrev mJ6_bitCount_0f7a4 : Nat := 71
abbrev mX6_sumOf : Nat := 72
abbrev mX6_seen : Nat := 73
abbrev mX5_add : Nat := 74
abbrev mX6_forget : Nat := 75
abbrev mX6_spent : Nat := 76
abbrev mX5_lastDay : Nat := 77
abbrev mX5_recall : Nat := 78
abbrev mX5_search : Nat := 79
abbrev mX5_spendDay : Nat := 80
abbrev mX5_agrees : Nat := 81
abbrev mX6_saved : Nat := 82
abbrev mX6_lasts : Nat := 83
abbrev mX6_timesInARow : Nat := 84
abbrev mX6_choose : Nat := 85
abbrev mX6_power : Nat := 86
abbrev mX6_commonDivisor : Nat := 87
abbrev mJ9_max_f86c9 : Nat := 88
abbrev mX6_year : Nat := 89
abbrev mX3_doDrawn : Nat := 90
abbrev mX3_draw : Nat := 91
abbrev mX3_countGrey : Nat := 92
abbrev mX3_worthOfAll : Nat := 93
abbrev mX6_keep : Nat := 94
abbrev mX6_back : Nat := 95
abbrev mX6_count : Nat := 96
abbrev mX3_thimblesOfAll : Nat := 97
abbrev mX7_init : Nat := 98
abbrev mX7_firstPerson : Nat := 99
abbrev mX7_firstDeed : Nat := 100
abbrev mX7_takeDraft : Nat := 101
abbrev mX7_write : Nat := 102
abbrev mX7_in : Nat := 103
abbrev mX7_wipe : Nat := 104
abbrev mX7_fault : Nat := 105
abbrev mX7_readItem : Nat := 106
abbrev mX7_here : Nat := 107
abbrev mX7_number : Nat := 108
abbrev mX7_lay : Nat := 109
abbrev mX7_person : Nat := 110
abbrev mX7_isPerson : Nat := 111
abbrev mX7_hue : Nat := 112
abbrev mX7_deed : Nat := 113
abbrev mX7_isDeed : Nat := 114
abbrev mX7_told : Nat := 115
abbrev mX7_can : Nat := 116
abbrev mX7_canDo : Nat := 117
abbrev mX7_plainCost : Nat := 118
abbrev mX7_lacks : Nat := 119
abbrev mX7_pass : Nat := 120
abbrev mX7_know : Nat := 121
abbrev mX7_copy : Nat := 122
abbrev mX7_toldDeeds : Nat := 123
abbrev mX7_doIt : Nat := 124
abbrev mX7_seaAll : Nat := 125
abbrev mX7_sea : Nat := 126
abbrev mX7_over : Nat := 127
abbrev mX7_act : Nat := 128
abbrev mX7_lend : Nat := 129
abbrev mX7_isSort : Nat := 130
abbrev mX7_sell : Nat := 131
abbrev mX7_levy : Nat := 132
abbrev mX7_undo : Nat := 133
abbrev mX7_behind : Nat := 134
abbrev mX7_grey : Nat := 135
abbrev mX7_best : Nat := 136
abbrev mX7_tryRow : Nat := 137
abbrev mX7_lending : Nat := 138
abbrev mX7_heap : Nat := 139
abbrev mX7_together : Nat := 140
abbrev mX7_manyOf : Nat := 141
abbrev mX7_seen : Nat := 142
abbrev mX7_forget : Nat := 143
abbrev mX7_spent : Nat := 144
abbrev mX7_lastOf : Nat := 145
abbrev mX7_power : Nat := 146
abbrev mX7_isSpent : Nat := 147
abbrev mX7_saved : Nat := 148
abbrev mX7_lasts : Nat := 149
abbrev mX7_year : Nat := 150
abbrev mX7_keep : Nat := 151
abbrev mX7_back : Nat := 152
abbrev mX7_count : Nat := 153
def gflT : List ((Nat × Nat) × (Nat × Nat × Nat)) := [((0, 11), (0, 0, 3)), ((0, 15), (0, 1, 3)), ((0, 18), (0, 2, 3)), ((0, 21), (0, 3, 3)), ((0, 24), (0, 4, 0)), ((0, 28), (0, 5, 0)), ((0, 31), (4, 7, 0)), ((0, 36), (4, 3, 3)), ((0, 39), (3, 0, 3)), ((1, 11), (1, 0, 3)), ((1, 15), (1, 1, 3)), ((1, 18), (1, 2, 0)), ((1, 27), (1, 3, 0)), ((2, 15), (2, 0, 3)), ((2, 22), (2, 1, 0)), ((2, 30), (2, 2, 0)), ((3, 9), (3, 0, 3)), ((3, 15), (3, 1, 3)), ((3, 18), (3, 2, 3)), ((3, 21), (3, 3, 0)), ((3, 25), (4, 1, 3)), ((3, 48), (4, 3, 3)), ((3, 65), (4, 6, 0)), ((3, 68), (4, 4, 3)), ((3, 82), (4, 7, 0)), ((4, 9), (4, 0, 3)), ((4, 15), (4, 1, 3)), ((4, 18), (4, 2, 3)), ((4, 21), (4, 3, 3)), ((4, 24), (4, 4, 3)), ((4, 27), (4, 5, 3)), ((4, 30), (4, 6, 0)), ((4, 34), (4, 7, 0)), ((4, 37), (4, 8, 0)), ((5, 11), (5, 0, 3)), ((5, 15), (5, 1, 3)), ((5, 18), (5, 2, 3)), ((5, 21), (5, 3, 3)), ((5, 24), (5, 4, 3)), ((5, 27), (5, 5, 3)), ((5, 30), (5, 6, 0)), ((5, 40), (5, 7, 0)), ((5, 43), (3, 0, 3)), ((5, 66), (4, 7, 0)), ((6, 10), (6, 0, 3)), ((6, 19), (6, 1, 2)), ((6, 23), (6, 2, 2)), ((6, 29), (6, 3, 3)), ((6, 33), (6, 4, 3)), ((6, 41), (6, 5, 3)), ((6, 45), (6, 6, 3)), ((6, 51), (6, 7, 3)), ((6, 58), (6, 8, 3)), ((6, 62), (6, 9, 3)), ((6, 86), (1, 2, 0)), ((6, 97), (4, 6, 0)), ((6, 100), (2, 2, 0)), ((6, 103), (5, 6, 0)), ((6, 107), (4, 0, 3)), ((6, 114), (3, 1, 3)), ((6, 117), (3, 2, 3)), ((6, 120), (3, 0, 3)), ((6, 126), (4, 3, 3)), ((6, 129), (4, 2, 3)), ((6, 132), (4, 4, 3)), ((6, 157), (4, 8, 0)), ((6, 183), (4, 7, 0)), ((6, 190), (0, 4, 0)), ((6, 193), (0, 2, 3)), ((6, 216), (5, 7, 0)), ((6, 219), (5, 5, 3)), ((6, 256), (3, 3, 0)), ((6, 266), (4, 5, 3)), ((7, 7), (7, 0, 3)), ((7, 13), (7, 2, 3)), ((7, 17), (7, 3, 3)), ((7, 20), (7, 4, 3)), ((7, 23), (7, 5, 3)), ((7, 26), (7, 6, 3)), ((7, 29), (7, 7, 3)), ((7, 32), (7, 8, 3)), ((7, 35), (7, 9, 3)), ((7, 38), (7, 12, 3)), ((7, 41), (7, 15, 3)), ((7, 44), (7, 16, 3)), ((7, 47), (7, 19, 3)), ((7, 50), (7, 20, 3)), ((7, 53), (7, 21, 3)), ((7, 70), (7, 1, 0)), ((7, 74), (7, 10, 0)), ((7, 81), (7, 11, 1)), ((7, 92), (7, 13, 0)), ((7, 95), (7, 14, 0)), ((7, 98), (7, 22, 0)), ((7, 150), (7, 17, 0)), ((7, 153), (7, 18, 0))]
def glkT : List ((Nat × Nat) × (Nat × Nat × Nat × Nat × Nat)) := [((0, 5), (5, 0, 0, 0, 0)), ((0, 44), (6, 0, 5, 0, 0)), ((0, 50), (0, 65, 6, 0, 0)), ((0, 54), (0, 66, 2, 1, 0)), ((0, 58), (0, 67, 4, 1, 0)), ((0, 62), (0, 35, 4, 1, 4)), ((0, 66), (0, 47, 2, 0, 4)), ((1, 3), (5, 0, 0, 0, 0)), ((1, 22), (0, 10, 0, 0, 4)), ((1, 30), (0, 11, 1, 1, 1)), ((1, 34), (0, 12, 0, 1, 1)), ((1, 38), (1, 13, 1, 1, 1)), ((1, 42), (0, 14, 0, 1, 1)), ((1, 45), (0, 16, 2, 1, 4)), ((1, 49), (3, 15, 3, 1, 6)), ((2, 1), (5, 0, 0, 0, 0)), ((2, 7), (1, 5, 2, 1, 10)), ((2, 21), (4, 3, 0, 0, 3)), ((2, 26), (0, 41, 1, 0, 3)), ((2, 33), (1, 42, 2, 1, 10)), ((3, 3), (5, 0, 0, 0, 0)), ((3, 30), (6, 0, 5, 0, 0)), ((3, 36), (3, 30, 2, 1, 6)), ((3, 40), (0, 35, 4, 1, 4)), ((3, 44), (0, 47, 2, 0, 4)), ((3, 51), (0, 37, 0, 1, 4)), ((3, 55), (0, 44, 1, 0, 3)), ((3, 59), (0, 48, 1, 0, 3)), ((3, 62), (0, 50, 1, 0, 3)), ((3, 71), (0, 45, 0, 1, 3)), ((3, 74), (0, 46, 3, 1, 3)), ((3, 78), (1, 91, 3, 1, 3)), ((3, 95), (0, 49, 3, 0, 4)), ((3, 98), (0, 51, 3, 0, 4)), ((3, 101), (0, 29, 1, 1, 3)), ((4, 3), (5, 0, 0, 0, 0)), ((4, 40), (0, 17, 1, 1, 4)), ((4, 44), (0, 19, 1, 1, 4)), ((4, 47), (0, 20, 1, 1, 4)), ((4, 50), (0, 21, 1, 1, 4)), ((4, 53), (1, 18, 3, 1, 4)), ((4, 57), (6, 0, 5, 0, 0)), ((4, 63), (0, 37, 0, 1, 4)), ((4, 67), (0, 36, 2, 0, 4)), ((4, 71), (0, 38, 3, 1, 4)), ((4, 75), (1, 42, 2, 1, 10)), ((5, 3), (5, 0, 0, 0, 0)), ((5, 34), (1, 5, 2, 1, 10)), ((5, 48), (6, 0, 5, 0, 0)), ((5, 54), (0, 45, 0, 1, 3)), ((5, 58), (0, 77, 1, 1, 5)), ((5, 62), (0, 79, 5, 0, 5)), ((5, 71), (0, 80, 5, 1, 5)), ((5, 75), (0, 35, 4, 1, 4)), ((5, 79), (0, 47, 2, 0, 4)), ((5, 83), (0, 49, 3, 0, 4)), ((5, 87), (3, 30, 2, 1, 6)), ((5, 91), (0, 81, 3, 1, 5)), ((5, 95), (0, 51, 3, 0, 4)), ((6, 1), (5, 0, 0, 0, 0)), ((6, 9), (4, 1, 0, 0, 1)), ((6, 18), (4, 2, 0, 0, 4)), ((6, 28), (4, 3, 0, 0, 3)), ((6, 38), (2, 4, 1, 0, 2)), ((6, 50), (4, 6, 0, 0, 0)), ((6, 57), (4, 7, 0, 0, 5)), ((6, 78), (0, 8, 1, 1, 1)), ((6, 82), (0, 9, 1, 1, 1)), ((6, 89), (0, 22, 1, 0, 3)), ((6, 93), (1, 15, 3, 1, 6)), ((6, 104), (0, 28, 1, 1, 6)), ((6, 110), (0, 29, 1, 1, 3)), ((6, 123), (0, 32, 1, 1, 6)), ((6, 135), (0, 35, 4, 1, 4)), ((6, 139), (0, 40, 1, 0, 2)), ((6, 143), (0, 43, 2, 0, 3)), ((6, 147), (0, 45, 0, 1, 3)), ((6, 150), (0, 46, 3, 1, 3)), ((6, 154), (1, 54, 1, 1, 6)), ((6, 160), (0, 57, 2, 1, 3)), ((6, 164), (0, 59, 1, 1, 2)), ((6, 168), (0, 41, 1, 0, 3)), ((6, 171), (0, 44, 1, 0, 3)), ((6, 174), (0, 48, 1, 0, 3)), ((6, 177), (0, 62, 1, 1, 3)), ((6, 180), (0, 50, 1, 0, 3)), ((6, 186), (0, 64, 3, 0, 0)), ((6, 196), (0, 69, 2, 1, 6)), ((6, 200), (1, 71, 1, 1, 9)), ((6, 205), (0, 72, 2, 1, 6)), ((6, 208), (0, 74, 3, 1, 5)), ((6, 210), (0, 77, 1, 1, 5)), ((6, 213), (0, 78, 3, 0, 5)), ((6, 222), (6, 0, 5, 0, 0)), ((6, 228), (0, 51, 3, 0, 4)), ((6, 232), (0, 84, 3, 1, 6)), ((6, 236), (1, 85, 2, 2, 6)), ((6, 239), (1, 86, 2, 2, 6)), ((6, 242), (1, 87, 2, 2, 6)), ((6, 246), (0, 90, 3, 0, 3)), ((6, 250), (0, 92, 1, 1, 3)), ((6, 253), (0, 93, 1, 1, 3)), ((6, 259), (0, 97, 1, 1, 3)), ((6, 262), (0, 36, 2, 0, 4)), ((6, 269), (0, 47, 2, 0, 4)), ((6, 273), (1, 88, 2, 2, 10)), ((7, 1), (5, 0, 0, 0, 0)), ((7, 56), (0, 99, 4, 0, 7)), ((7, 60), (0, 100, 4, 0, 7)), ((7, 63), (0, 101, 0, 0, 7)), ((7, 66), (1, 103, 3, 1, 7)), ((7, 77), (0, 107, 0, 1, 7)), ((7, 85), (0, 108, 3, 1, 7)), ((7, 89), (0, 106, 0, 0, 7)), ((7, 101), (0, 105, 0, 1, 7)), ((7, 104), (0, 111, 1, 1, 7)), ((7, 108), (0, 112, 2, 1, 7)), ((7, 112), (0, 114, 1, 1, 7)), ((7, 115), (0, 118, 2, 0, 7)), ((7, 119), (0, 119, 2, 1, 7)), ((7, 122), (0, 117, 3, 1, 7)), ((7, 125), (0, 124, 3, 1, 7)), ((7, 128), (0, 126, 2, 0, 7)), ((7, 131), (0, 122, 2, 0, 7)), ((7, 134), (0, 121, 0, 0, 7)), ((7, 137), (0, 123, 1, 0, 7)), ((7, 141), (0, 125, 1, 0, 7)), ((7, 144), (0, 127, 1, 0, 7)), ((7, 147), (1, 130, 1, 1, 7)), ((7, 156), (0, 137, 2, 1, 7)), ((7, 160), (0, 140, 2, 1, 7)), ((7, 163), (1, 141, 1, 1, 7)), ((7, 167), (0, 146, 1, 1, 7)), ((7, 170), (0, 145, 1, 1, 7)), ((7, 173), (0, 147, 3, 1, 7)), ((8, 9), (2, 0, 0, 0, 6)), ((8, 12), (2, 98, 0, 0, 7)), ((8, 13), (0, 23, 1, 1, 6)), ((8, 17), (0, 102, 1, 1, 7)), ((8, 18), (0, 24, 0, 1, 6)), ((8, 22), (0, 104, 0, 1, 7)), ((8, 23), (0, 25, 0, 1, 6)), ((8, 26), (0, 105, 0, 1, 7)), ((8, 27), (0, 26, 0, 1, 6)), ((8, 30), (0, 109, 0, 1, 7)), ((8, 31), (0, 27, 2, 1, 6)), ((8, 35), (0, 110, 2, 1, 7)), ((8, 36), (0, 31, 2, 1, 6)), ((8, 39), (0, 113, 2, 1, 7)), ((8, 40), (0, 33, 2, 1, 6)), ((8, 43), (0, 115, 2, 1, 7)), ((8, 44), (0, 34, 2, 1, 6)), ((8, 47), (0, 116, 2, 1, 7)), ((8, 48), (0, 39, 1, 1, 6)), ((8, 51), (0, 120, 1, 1, 7)), ((8, 52), (0, 52, 2, 1, 6)), ((8, 55), (0, 128, 2, 1, 7)), ((8, 56), (0, 53, 4, 1, 6)), ((8, 60), (0, 129, 4, 1, 7)), ((8, 61), (0, 55, 3, 1, 6)), ((8, 65), (0, 131, 3, 1, 7)), ((8, 66), (0, 56, 2, 1, 6)), ((8, 69), (0, 132, 2, 1, 7)), ((8, 70), (0, 58, 0, 1, 6)), ((8, 73), (0, 133, 0, 1, 7)), ((8, 74), (0, 60, 3, 1, 6)), ((8, 77), (0, 134, 3, 1, 7)), ((8, 78), (0, 61, 1, 1, 6)), ((8, 81), (0, 135, 1, 1, 7)), ((8, 82), (0, 63, 2, 1, 6)), ((8, 85), (0, 136, 2, 1, 7)), ((8, 86), (0, 68, 0, 1, 6)), ((8, 89), (0, 138, 0, 1, 7)), ((8, 90), (0, 70, 3, 1, 6)), ((8, 93), (0, 139, 3, 1, 7)), ((8, 94), (0, 73, 3, 1, 6)), ((8, 97), (0, 142, 3, 1, 7)), ((8, 98), (0, 75, 0, 1, 6)), ((8, 101), (0, 143, 0, 1, 7)), ((8, 102), (0, 76, 2, 1, 6)), ((8, 105), (0, 144, 2, 1, 7)), ((8, 106), (0, 82, 3, 1, 6)), ((8, 109), (0, 148, 3, 1, 7)), ((8, 110), (0, 83, 5, 1, 6)), ((8, 114), (0, 149, 5, 1, 7)), ((8, 115), (0, 89, 3, 1, 6)), ((8, 118), (0, 150, 3, 1, 7)), ((8, 119), (0, 94, 0, 1, 6)), ((8, 122), (0, 151, 0, 1, 7)), ((8, 123), (0, 95, 0, 1, 6)), ((8, 126), (0, 152, 0, 1, 7)), ((8, 127), (0, 96, 1, 1, 6)), ((8, 130), (0, 153, 1, 1, 7))]
def gnest : List (Nat × Nat × MethodName) := [(6, 9, yX1_init), (6, 18, yX4_init), (6, 28, yX3_init), (2, 21, yX3_init), (6, 50, yX0_init), (6, 57, yX5_init), (1, 49, yX6_within), (3, 36, yX6_hueOf), (5, 87, yX6_hueOf)]
def gnwT : List ((Nat × Nat) × Nat) := [((2, 13), 3), ((6, 7), 1), ((6, 16), 4), ((6, 26), 3), ((6, 36), 2), ((6, 48), 0), ((6, 55), 5), ((8, 7), 6), ((8, 10), 7)]
def gclT : List ((Nat × Nat) × Int64) := [((3, 85), 7919), ((3, 87), 6151), ((3, 89), 331), ((3, 91), 65521), ((3, 93), 8), ((7, 176), 7919), ((7, 178), 6151), ((7, 180), 331), ((7, 182), 65521)]
def gciT : List ((Nat × Nat) × Int32) := [((9, 265), 1431655765), ((9, 266), 858993459), ((9, 267), 252645135)]
def gdef : Nat → List (Option Value) := fun c => match c with
  | 0 => [some .null, some .null, some .null, some .null, none, none]
  | 1 => [some .null, some .null, none, none]
  | 2 => [some .null, none, none]
  | 3 => [some .null, some .null, some .null, none]
  | 4 => [some .null, some .null, some .null, some .null, some .null, some .null, none, none, none]
  | 5 => [some .null, some .null, some .null, some .null, some .null, some .null, none, none]
  | 6 => [some .null, some .null, some .null, some .null, some .null, some .null, some .null, some .null, some .null, some .null]
  | _ => [some .null, none, some .null, some .null, some .null, some .null, some .null, some .null, some .null, some .null, none, none, some .null, none, none, some .null, some .null, none, none, some .null, some .null, some .null, none]
def gfl (o i : Nat) : Option (Nat × Nat × Nat) := gflT.lookup (o, i)
def glk (o i : Nat) : Option (Nat × Nat × Nat × Nat × Nat) := glkT.lookup (o, i)
def gnw (o i : Nat) : Option Nat := gnwT.lookup (o, i)
def gcl (o i : Nat) : Option Int64 := gclT.lookup (o, i)
def gci (o i : Nat) : Option Int32 := gciT.lookup (o, i)
theorem gfl_0_11 : gfl 0 11 = some (0, 0, 3) := by decide +kernel
theorem gfl_0_15 : gfl 0 15 = some (0, 1, 3) := by decide +kernel
theorem gfl_0_18 : gfl 0 18 = some (0, 2, 3) := by decide +kernel
theorem gfl_0_21 : gfl 0 21 = some (0, 3, 3) := by decide +kernel
theorem gfl_0_24 : gfl 0 24 = some (0, 4, 0) := by decide +kernel
theorem gfl_0_28 : gfl 0 28 = some (0, 5, 0) := by decide +kernel
theorem gfl_0_31 : gfl 0 31 = some (4, 7, 0) := by decide +kernel
theorem gfl_0_36 : gfl 0 36 = some (4, 3, 3) := by decide +kernel
theorem gfl_0_39 : gfl 0 39 = some (3, 0, 3) := by decide +kernel
theorem gfl_1_11 : gfl 1 11 = some (1, 0, 3) := by decide +kernel
theorem gfl_1_15 : gfl 1 15 = some (1, 1, 3) := by decide +kernel
theorem gfl_1_18 : gfl 1 18 = some (1, 2, 0) := by decide +kernel
theorem gfl_1_27 : gfl 1 27 = some (1, 3, 0) := by decide +kernel
theorem gfl_2_15 : gfl 2 15 = some (2, 0, 3) := by decide +kernel
theorem gfl_2_22 : gfl 2 22 = some (2, 1, 0) := by decide +kernel
theorem gfl_2_30 : gfl 2 30 = some (2, 2, 0) := by decide +kernel
theorem gfl_3_9 : gfl 3 9 = some (3, 0, 3) := by decide +kernel
theorem gfl_3_15 : gfl 3 15 = some (3, 1, 3) := by decide +kernel
theorem gfl_3_18 : gfl 3 18 = some (3, 2, 3) := by decide +kernel
theorem gfl_3_21 : gfl 3 21 = some (3, 3, 0) := by decide +kernel
theorem gfl_3_25 : gfl 3 25 = some (4, 1, 3) := by decide +kernel
theorem gfl_3_48 : gfl 3 48 = some (4, 3, 3) := by decide +kernel
theorem gfl_3_65 : gfl 3 65 = some (4, 6, 0) := by decide +kernel
theorem gfl_3_68 : gfl 3 68 = some (4, 4, 3) := by decide +kernel
theorem gfl_3_82 : gfl 3 82 = some (4, 7, 0) := by decide +kernel
theorem gfl_4_9 : gfl 4 9 = some (4, 0, 3) := by decide +kernel
theorem gfl_4_15 : gfl 4 15 = some (4, 1, 3) := by decide +kernel
theorem gfl_4_18 : gfl 4 18 = some (4, 2, 3) := by decide +kernel
theorem gfl_4_21 : gfl 4 21 = some (4, 3, 3) := by decide +kernel
theorem gfl_4_24 : gfl 4 24 = some (4, 4, 3) := by decide +kernel
theorem gfl_4_27 : gfl 4 27 = some (4, 5, 3) := by decide +kernel
theorem gfl_4_30 : gfl 4 30 = some (4, 6, 0) := by decide +kernel
theorem gfl_4_34 : gfl 4 34 = some (4, 7, 0) := by decide +kernel
theorem gfl_4_37 : gfl 4 37 = some (4, 8, 0) := by decide +kernel
theorem gfl_5_11 : gfl 5 11 = some (5, 0, 3) := by decide +kernel
theorem gfl_5_15 : gfl 5 15 = some (5, 1, 3) := by decide +kernel
theorem gfl_5_18 : gfl 5 18 = some (5, 2, 3) := by decide +kernel
theorem gfl_5_21 : gfl 5 21 = some (5, 3, 3) := by decide +kernel
theorem gfl_5_24 : gfl 5 24 = some (5, 4, 3) := by decide +kernel
theorem gfl_5_27 : gfl 5 27 = some (5, 5, 3) := by decide +kernel
theorem gfl_5_30 : gfl 5 30 = some (5, 6, 0) := by decide +kernel
theorem gfl_5_40 : gfl 5 40 = some (5, 7, 0) := by decide +kernel
theorem gfl_5_43 : gfl 5 43 = some (3, 0, 3) := by decide +kernel
theorem gfl_5_66 : gfl 5 66 = some (4, 7, 0) := by decide +kernel
theorem gfl_6_10 : gfl 6 10 = some (6, 0, 3) := by decide +kernel
theorem gfl_6_19 : gfl 6 19 = some (6, 1, 2) := by decide +kernel
theorem gfl_6_23 : gfl 6 23 = some (6, 2, 2) := by decide +kernel
theorem gfl_6_29 : gfl 6 29 = some (6, 3, 3) := by decide +kernel
theorem gfl_6_33 : gfl 6 33 = some (6, 4, 3) := by decide +kernel
theorem gfl_6_41 : gfl 6 41 = some (6, 5, 3) := by decide +kernel
theorem gfl_6_45 : gfl 6 45 = some (6, 6, 3) := by decide +kernel
theorem gfl_6_51 : gfl 6 51 = some (6, 7, 3) := by decide +kernel
theorem gfl_6_58 : gfl 6 58 = some (6, 8, 3) := by decide +kernel
theorem gfl_6_62 : gfl 6 62 = some (6, 9, 3) := by decide +kernel
theorem gfl_6_86 : gfl 6 86 = some (1, 2, 0) := by decide +kernel
theorem gfl_6_97 : gfl 6 97 = some (4, 6, 0) := by decide +kernel
theorem gfl_6_100 : gfl 6 100 = some (2, 2, 0) := by decide +kernel
theorem gfl_6_103 : gfl 6 103 = some (5, 6, 0) := by decide +kernel
theorem gfl_6_107 : gfl 6 107 = some (4, 0, 3) := by decide +kernel
theorem gfl_6_114 : gfl 6 114 = some (3, 1, 3) := by decide +kernel
theorem gfl_6_117 : gfl 6 117 = some (3, 2, 3) := by decide +kernel
theorem gfl_6_120 : gfl 6 120 = some (3, 0, 3) := by decide +kernel
theorem gfl_6_126 : gfl 6 126 = some (4, 3, 3) := by decide +kernel
theorem gfl_6_129 : gfl 6 129 = some (4, 2, 3) := by decide +kernel
theorem gfl_6_132 : gfl 6 132 = some (4, 4, 3) := by decide +kernel
theorem gfl_6_157 : gfl 6 157 = some (4, 8, 0) := by decide +kernel
theorem gfl_6_183 : gfl 6 183 = some (4, 7, 0) := by decide +kernel
theorem gfl_6_190 : gfl 6 190 = some (0, 4, 0) := by decide +kernel
theorem gfl_6_193 : gfl 6 193 = some (0, 2, 3) := by decide +kernel
theorem gfl_6_216 : gfl 6 216 = some (5, 7, 0) := by decide +kernel
theorem gfl_6_219 : gfl 6 219 = some (5, 5, 3) := by decide +kernel
theorem gfl_6_256 : gfl 6 256 = some (3, 3, 0) := by decide +kernel
theorem gfl_6_266 : gfl 6 266 = some (4, 5, 3) := by decide +kernel
theorem gfl_7_7 : gfl 7 7 = some (7, 0, 3) := by decide +kernel
theorem gfl_7_13 : gfl 7 13 = some (7, 2, 3) := by decide +kernel
theorem gfl_7_17 : gfl 7 17 = some (7, 3, 3) := by decide +kernel
theorem gfl_7_20 : gfl 7 20 = some (7, 4, 3) := by decide +kernel
theorem gfl_7_23 : gfl 7 23 = some (7, 5, 3) := by decide +kernel
theorem gfl_7_26 : gfl 7 26 = some (7, 6, 3) := by decide +kernel
theorem gfl_7_29 : gfl 7 29 = some (7, 7, 3) := by decide +kernel
theorem gfl_7_32 : gfl 7 32 = some (7, 8, 3) := by decide +kernel
theorem gfl_7_35 : gfl 7 35 = some (7, 9, 3) := by decide +kernel
theorem gfl_7_38 : gfl 7 38 = some (7, 12, 3) := by decide +kernel
theorem gfl_7_41 : gfl 7 41 = some (7, 15, 3) := by decide +kernel
theorem gfl_7_44 : gfl 7 44 = some (7, 16, 3) := by decide +kernel
theorem gfl_7_47 : gfl 7 47 = some (7, 19, 3) := by decide +kernel
theorem gfl_7_50 : gfl 7 50 = some (7, 20, 3) := by decide +kernel
theorem gfl_7_53 : gfl 7 53 = some (7, 21, 3) := by decide +kernel
theorem gfl_7_70 : gfl 7 70 = some (7, 1, 0) := by decide +kernel
theorem gfl_7_74 : gfl 7 74 = some (7, 10, 0) := by decide +kernel
theorem gfl_7_81 : gfl 7 81 = some (7, 11, 1) := by decide +kernel
theorem gfl_7_92 : gfl 7 92 = some (7, 13, 0) := by decide +kernel
theorem gfl_7_95 : gfl 7 95 = some (7, 14, 0) := by decide +kernel
theorem gfl_7_98 : gfl 7 98 = some (7, 22, 0) := by decide +kernel
theorem gfl_7_150 : gfl 7 150 = some (7, 17, 0) := by decide +kernel
theorem gfl_7_153 : gfl 7 153 = some (7, 18, 0) := by decide +kernel
theorem glk_0_5 : glk 0 5 = some (5, 0, 0, 0, 0) := by decide +kernel
theorem glk_0_44 : glk 0 44 = some (6, 0, 5, 0, 0) := by decide +kernel
theorem glk_0_50 : glk 0 50 = some (0, 65, 6, 0, 0) := by decide +kernel
theorem glk_0_54 : glk 0 54 = some (0, 66, 2, 1, 0) := by decide +kernel
theorem glk_0_58 : glk 0 58 = some (0, 67, 4, 1, 0) := by decide +kernel
theorem glk_0_62 : glk 0 62 = some (0, 35, 4, 1, 4) := by decide +kernel
theorem glk_0_66 : glk 0 66 = some (0, 47, 2, 0, 4) := by decide +kernel
theorem glk_1_3 : glk 1 3 = some (5, 0, 0, 0, 0) := by decide +kernel
theorem glk_1_22 : glk 1 22 = some (0, 10, 0, 0, 4) := by decide +kernel
theorem glk_1_30 : glk 1 30 = some (0, 11, 1, 1, 1) := by decide +kernel
theorem glk_1_34 : glk 1 34 = some (0, 12, 0, 1, 1) := by decide +kernel
theorem glk_1_38 : glk 1 38 = some (1, 13, 1, 1, 1) := by decide +kernel
theorem glk_1_42 : glk 1 42 = some (0, 14, 0, 1, 1) := by decide +kernel
theorem glk_1_45 : glk 1 45 = some (0, 16, 2, 1, 4) := by decide +kernel
theorem glk_1_49 : glk 1 49 = some (3, 15, 3, 1, 6) := by decide +kernel
theorem glk_2_1 : glk 2 1 = some (5, 0, 0, 0, 0) := by decide +kernel
theorem glk_2_7 : glk 2 7 = some (1, 5, 2, 1, 10) := by decide +kernel
theorem glk_2_21 : glk 2 21 = some (4, 3, 0, 0, 3) := by decide +kernel
theorem glk_2_26 : glk 2 26 = some (0, 41, 1, 0, 3) := by decide +kernel
theorem glk_2_33 : glk 2 33 = some (1, 42, 2, 1, 10) := by decide +kernel
theorem glk_3_3 : glk 3 3 = some (5, 0, 0, 0, 0) := by decide +kernel
theorem glk_3_30 : glk 3 30 = some (6, 0, 5, 0, 0) := by decide +kernel
theorem glk_3_36 : glk 3 36 = some (3, 30, 2, 1, 6) := by decide +kernel
theorem glk_3_40 : glk 3 40 = some (0, 35, 4, 1, 4) := by decide +kernel
theorem glk_3_44 : glk 3 44 = some (0, 47, 2, 0, 4) := by decide +kernel
theorem glk_3_51 : glk 3 51 = some (0, 37, 0, 1, 4) := by decide +kernel
theorem glk_3_55 : glk 3 55 = some (0, 44, 1, 0, 3) := by decide +kernel
theorem glk_3_59 : glk 3 59 = some (0, 48, 1, 0, 3) := by decide +kernel
theorem glk_3_62 : glk 3 62 = some (0, 50, 1, 0, 3) := by decide +kernel
theorem glk_3_71 : glk 3 71 = some (0, 45, 0, 1, 3) := by decide +kernel
theorem glk_3_74 : glk 3 74 = some (0, 46, 3, 1, 3) := by decide +kernel
theorem glk_3_78 : glk 3 78 = some (1, 91, 3, 1, 3) := by decide +kernel
theorem glk_3_95 : glk 3 95 = some (0, 49, 3, 0, 4) := by decide +kernel
theorem glk_3_98 : glk 3 98 = some (0, 51, 3, 0, 4) := by decide +kernel
theorem glk_3_101 : glk 3 101 = some (0, 29, 1, 1, 3) := by decide +kernel
theorem glk_4_3 : glk 4 3 = some (5, 0, 0, 0, 0) := by decide +kernel
theorem glk_4_40 : glk 4 40 = some (0, 17, 1, 1, 4) := by decide +kernel
theorem glk_4_44 : glk 4 44 = some (0, 19, 1, 1, 4) := by decide +kernel
theorem glk_4_47 : glk 4 47 = some (0, 20, 1, 1, 4) := by decide +kernel
theorem glk_4_50 : glk 4 50 = some (0, 21, 1, 1, 4) := by decide +kernel
theorem glk_4_53 : glk 4 53 = some (1, 18, 3, 1, 4) := by decide +kernel
theorem glk_4_57 : glk 4 57 = some (6, 0, 5, 0, 0) := by decide +kernel
theorem glk_4_63 : glk 4 63 = some (0, 37, 0, 1, 4) := by decide +kernel
theorem glk_4_67 : glk 4 67 = some (0, 36, 2, 0, 4) := by decide +kernel
theorem glk_4_71 : glk 4 71 = some (0, 38, 3, 1, 4) := by decide +kernel
theorem glk_4_75 : glk 4 75 = some (1, 42, 2, 1, 10) := by decide +kernel
theorem glk_5_3 : glk 5 3 = some (5, 0, 0, 0, 0) := by decide +kernel
theorem glk_5_34 : glk 5 34 = some (1, 5, 2, 1, 10) := by decide +kernel
theorem glk_5_48 : glk 5 48 = some (6, 0, 5, 0, 0) := by decide +kernel
theorem glk_5_54 : glk 5 54 = some (0, 45, 0, 1, 3) := by decide +kernel
theorem glk_5_58 : glk 5 58 = some (0, 77, 1, 1, 5) := by decide +kernel
theorem glk_5_62 : glk 5 62 = some (0, 79, 5, 0, 5) := by decide +kernel
theorem glk_5_71 : glk 5 71 = some (0, 80, 5, 1, 5) := by decide +kernel
theorem glk_5_75 : glk 5 75 = some (0, 35, 4, 1, 4) := by decide +kernel
theorem glk_5_79 : glk 5 79 = some (0, 47, 2, 0, 4) := by decide +kernel
theorem glk_5_83 : glk 5 83 = some (0, 49, 3, 0, 4) := by decide +kernel
theorem glk_5_87 : glk 5 87 = some (3, 30, 2, 1, 6) := by decide +kernel
theorem glk_5_91 : glk 5 91 = some (0, 81, 3, 1, 5) := by decide +kernel
theorem glk_5_95 : glk 5 95 = some (0, 51, 3, 0, 4) := by decide +kernel
theorem glk_6_1 : glk 6 1 = some (5, 0, 0, 0, 0) := by decide +kernel
theorem glk_6_9 : glk 6 9 = some (4, 1, 0, 0, 1) := by decide +kernel
theorem glk_6_18 : glk 6 18 = some (4, 2, 0, 0, 4) := by decide +kernel
theorem glk_6_28 : glk 6 28 = some (4, 3, 0, 0, 3) := by decide +kernel
theorem glk_6_38 : glk 6 38 = some (2, 4, 1, 0, 2) := by decide +kernel
theorem glk_6_50 : glk 6 50 = some (4, 6, 0, 0, 0) := by decide +kernel
theorem glk_6_57 : glk 6 57 = some (4, 7, 0, 0, 5) := by decide +kernel
theorem glk_6_78 : glk 6 78 = some (0, 8, 1, 1, 1) := by decide +kernel
theorem glk_6_82 : glk 6 82 = some (0, 9, 1, 1, 1) := by decide +kernel
theorem glk_6_89 : glk 6 89 = some (0, 22, 1, 0, 3) := by decide +kernel
theorem glk_6_93 : glk 6 93 = some (1, 15, 3, 1, 6) := by decide +kernel
theorem glk_6_104 : glk 6 104 = some (0, 28, 1, 1, 6) := by decide +kernel
theorem glk_6_110 : glk 6 110 = some (0, 29, 1, 1, 3) := by decide +kernel
theorem glk_6_123 : glk 6 123 = some (0, 32, 1, 1, 6) := by decide +kernel
theorem glk_6_135 : glk 6 135 = some (0, 35, 4, 1, 4) := by decide +kernel
theorem glk_6_139 : glk 6 139 = some (0, 40, 1, 0, 2) := by decide +kernel
theorem glk_6_143 : glk 6 143 = some (0, 43, 2, 0, 3) := by decide +kernel
theorem glk_6_147 : glk 6 147 = some (0, 45, 0, 1, 3) := by decide +kernel
theorem glk_6_150 : glk 6 150 = some (0, 46, 3, 1, 3) := by decide +kernel
theorem glk_6_154 : glk 6 154 = some (1, 54, 1, 1, 6) := by decide +kernel
theorem glk_6_160 : glk 6 160 = some (0, 57, 2, 1, 3) := by decide +kernel
theorem glk_6_164 : glk 6 164 = some (0, 59, 1, 1, 2) := by decide +kernel
theorem glk_6_168 : glk 6 168 = some (0, 41, 1, 0, 3) := by decide +kernel
theorem glk_6_171 : glk 6 171 = some (0, 44, 1, 0, 3) := by decide +kernel
theorem glk_6_174 : glk 6 174 = some (0, 48, 1, 0, 3) := by decide +kernel
theorem glk_6_177 : glk 6 177 = some (0, 62, 1, 1, 3) := by decide +kernel
theorem glk_6_180 : glk 6 180 = some (0, 50, 1, 0, 3) := by decide +kernel
theorem glk_6_186 : glk 6 186 = some (0, 64, 3, 0, 0) := by decide +kernel
theorem glk_6_196 : glk 6 196 = some (0, 69, 2, 1, 6) := by decide +kernel
theorem glk_6_200 : glk 6 200 = some (1, 71, 1, 1, 9) := by decide +kernel
theorem glk_6_205 : glk 6 205 = some (0, 72, 2, 1, 6) := by decide +kernel
theorem glk_6_208 : glk 6 208 = some (0, 74, 3, 1, 5) := by decide +kernel
theorem glk_6_210 : glk 6 210 = some (0, 77, 1, 1, 5) := by decide +kernel
theorem glk_6_213 : glk 6 213 = some (0, 78, 3, 0, 5) := by decide +kernel
theorem glk_6_222 : glk 6 222 = some (6, 0, 5, 0, 0) := by decide +kernel
theorem glk_6_228 : glk 6 228 = some (0, 51, 3, 0, 4) := by decide +kernel
theorem glk_6_232 : glk 6 232 = some (0, 84, 3, 1, 6) := by decide +kernel
theorem glk_6_236 : glk 6 236 = some (1, 85, 2, 2, 6) := by decide +kernel
theorem glk_6_239 : glk 6 239 = some (1, 86, 2, 2, 6) := by decide +kernel
theorem glk_6_242 : glk 6 242 = some (1, 87, 2, 2, 6) := by decide +kernel
theorem glk_6_246 : glk 6 246 = some (0, 90, 3, 0, 3) := by decide +kernel
theorem glk_6_250 : glk 6 250 = some (0, 92, 1, 1, 3) := by decide +kernel
theorem glk_6_253 : glk 6 253 = some (0, 93, 1, 1, 3) := by decide +kernel
theorem glk_6_259 : glk 6 259 = some (0, 97, 1, 1, 3) := by decide +kernel
theorem glk_6_262 : glk 6 262 = some (0, 36, 2, 0, 4) := by decide +kernel
theorem glk_6_269 : glk 6 269 = some (0, 47, 2, 0, 4) := by decide +kernel
theorem glk_6_273 : glk 6 273 = some (1, 88, 2, 2, 10) := by decide +kernel
theorem glk_7_1 : glk 7 1 = some (5, 0, 0, 0, 0) := by decide +kernel
theorem glk_7_56 : glk 7 56 = some (0, 99, 4, 0, 7) := by decide +kernel
theorem glk_7_60 : glk 7 60 = some (0, 100, 4, 0, 7) := by decide +kernel
theorem glk_7_63 : glk 7 63 = some (0, 101, 0, 0, 7) := by decide +kernel
theorem glk_7_66 : glk 7 66 = some (1, 103, 3, 1, 7) := by decide +kernel
theorem glk_7_77 : glk 7 77 = some (0, 107, 0, 1, 7) := by decide +kernel
theorem glk_7_85 : glk 7 85 = some (0, 108, 3, 1, 7) := by decide +kernel
theorem glk_7_89 : glk 7 89 = some (0, 106, 0, 0, 7) := by decide +kernel
theorem glk_7_101 : glk 7 101 = some (0, 105, 0, 1, 7) := by decide +kernel
theorem glk_7_104 : glk 7 104 = some (0, 111, 1, 1, 7) := by decide +kernel
theorem glk_7_108 : glk 7 108 = some (0, 112, 2, 1, 7) := by decide +kernel
theorem glk_7_112 : glk 7 112 = some (0, 114, 1, 1, 7) := by decide +kernel
theorem glk_7_115 : glk 7 115 = some (0, 118, 2, 0, 7) := by decide +kernel
theorem glk_7_119 : glk 7 119 = some (0, 119, 2, 1, 7) := by decide +kernel
theorem glk_7_122 : glk 7 122 = some (0, 117, 3, 1, 7) := by decide +kernel
theorem glk_7_125 : glk 7 125 = some (0, 124, 3, 1, 7) := by decide +kernel
theorem glk_7_128 : glk 7 128 = some (0, 126, 2, 0, 7) := by decide +kernel
theorem glk_7_131 : glk 7 131 = some (0, 122, 2, 0, 7) := by decide +kernel
theorem glk_7_134 : glk 7 134 = some (0, 121, 0, 0, 7) := by decide +kernel
theorem glk_7_137 : glk 7 137 = some (0, 123, 1, 0, 7) := by decide +kernel
theorem glk_7_141 : glk 7 141 = some (0, 125, 1, 0, 7) := by decide +kernel
theorem glk_7_144 : glk 7 144 = some (0, 127, 1, 0, 7) := by decide +kernel
theorem glk_7_147 : glk 7 147 = some (1, 130, 1, 1, 7) := by decide +kernel
theorem glk_7_156 : glk 7 156 = some (0, 137, 2, 1, 7) := by decide +kernel
theorem glk_7_160 : glk 7 160 = some (0, 140, 2, 1, 7) := by decide +kernel
theorem glk_7_163 : glk 7 163 = some (1, 141, 1, 1, 7) := by decide +kernel
theorem glk_7_167 : glk 7 167 = some (0, 146, 1, 1, 7) := by decide +kernel
theorem glk_7_170 : glk 7 170 = some (0, 145, 1, 1, 7) := by decide +kernel
theorem glk_7_173 : glk 7 173 = some (0, 147, 3, 1, 7) := by decide +kernel
theorem glk_8_9 : glk 8 9 = some (2, 0, 0, 0, 6) := by decide +kernel
theorem glk_8_12 : glk 8 12 = some (2, 98, 0, 0, 7) := by decide +kernel
theorem glk_8_13 : glk 8 13 = some (0, 23, 1, 1, 6) := by decide +kernel
theorem glk_8_17 : glk 8 17 = some (0, 102, 1, 1, 7) := by decide +kernel
theorem glk_8_18 : glk 8 18 = some (0, 24, 0, 1, 6) := by decide +kernel
theorem glk_8_22 : glk 8 22 = some (0, 104, 0, 1, 7) := by decide +kernel
theorem glk_8_23 : glk 8 23 = some (0, 25, 0, 1, 6) := by decide +kernel
theorem glk_8_26 : glk 8 26 = some (0, 105, 0, 1, 7) := by decide +kernel
theorem glk_8_27 : glk 8 27 = some (0, 26, 0, 1, 6) := by decide +kernel
theorem glk_8_30 : glk 8 30 = some (0, 109, 0, 1, 7) := by decide +kernel
theorem glk_8_31 : glk 8 31 = some (0, 27, 2, 1, 6) := by decide +kernel
theorem glk_8_35 : glk 8 35 = some (0, 110, 2, 1, 7) := by decide +kernel
theorem glk_8_36 : glk 8 36 = some (0, 31, 2, 1, 6) := by decide +kernel
theorem glk_8_39 : glk 8 39 = some (0, 113, 2, 1, 7) := by decide +kernel
theorem glk_8_40 : glk 8 40 = some (0, 33, 2, 1, 6) := by decide +kernel
theorem glk_8_43 : glk 8 43 = some (0, 115, 2, 1, 7) := by decide +kernel
theorem glk_8_44 : glk 8 44 = some (0, 34, 2, 1, 6) := by decide +kernel
theorem glk_8_47 : glk 8 47 = some (0, 116, 2, 1, 7) := by decide +kernel
theorem glk_8_48 : glk 8 48 = some (0, 39, 1, 1, 6) := by decide +kernel
theorem glk_8_51 : glk 8 51 = some (0, 120, 1, 1, 7) := by decide +kernel
theorem glk_8_52 : glk 8 52 = some (0, 52, 2, 1, 6) := by decide +kernel
theorem glk_8_55 : glk 8 55 = some (0, 128, 2, 1, 7) := by decide +kernel
theorem glk_8_56 : glk 8 56 = some (0, 53, 4, 1, 6) := by decide +kernel
theorem glk_8_60 : glk 8 60 = some (0, 129, 4, 1, 7) := by decide +kernel
theorem glk_8_61 : glk 8 61 = some (0, 55, 3, 1, 6) := by decide +kernel
theorem glk_8_65 : glk 8 65 = some (0, 131, 3, 1, 7) := by decide +kernel
theorem glk_8_66 : glk 8 66 = some (0, 56, 2, 1, 6) := by decide +kernel
theorem glk_8_69 : glk 8 69 = some (0, 132, 2, 1, 7) := by decide +kernel
theorem glk_8_70 : glk 8 70 = some (0, 58, 0, 1, 6) := by decide +kernel
theorem glk_8_73 : glk 8 73 = some (0, 133, 0, 1, 7) := by decide +kernel
theorem glk_8_74 : glk 8 74 = some (0, 60, 3, 1, 6) := by decide +kernel
theorem glk_8_77 : glk 8 77 = some (0, 134, 3, 1, 7) := by decide +kernel
theorem glk_8_78 : glk 8 78 = some (0, 61, 1, 1, 6) := by decide +kernel
theorem glk_8_81 : glk 8 81 = some (0, 135, 1, 1, 7) := by decide +kernel
theorem glk_8_82 : glk 8 82 = some (0, 63, 2, 1, 6) := by decide +kernel
theorem glk_8_85 : glk 8 85 = some (0, 136, 2, 1, 7) := by decide +kernel
theorem glk_8_86 : glk 8 86 = some (0, 68, 0, 1, 6) := by decide +kernel
theorem glk_8_89 : glk 8 89 = some (0, 138, 0, 1, 7) := by decide +kernel
theorem glk_8_90 : glk 8 90 = some (0, 70, 3, 1, 6) := by decide +kernel
theorem glk_8_93 : glk 8 93 = some (0, 139, 3, 1, 7) := by decide +kernel
theorem glk_8_94 : glk 8 94 = some (0, 73, 3, 1, 6) := by decide +kernel
theorem glk_8_97 : glk 8 97 = some (0, 142, 3, 1, 7) := by decide +kernel
theorem glk_8_98 : glk 8 98 = some (0, 75, 0, 1, 6) := by decide +kernel
theorem glk_8_101 : glk 8 101 = some (0, 143, 0, 1, 7) := by decide +kernel
theorem glk_8_102 : glk 8 102 = some (0, 76, 2, 1, 6) := by decide +kernel
theorem glk_8_105 : glk 8 105 = some (0, 144, 2, 1, 7) := by decide +kernel
theorem glk_8_106 : glk 8 106 = some (0, 82, 3, 1, 6) := by decide +kernel
theorem glk_8_109 : glk 8 109 = some (0, 148, 3, 1, 7) := by decide +kernel
theorem glk_8_110 : glk 8 110 = some (0, 83, 5, 1, 6) := by decide +kernel
theorem glk_8_114 : glk 8 114 = some (0, 149, 5, 1, 7) := by decide +kernel
theorem glk_8_115 : glk 8 115 = some (0, 89, 3, 1, 6) := by decide +kernel
theorem glk_8_118 : glk 8 118 = some (0, 150, 3, 1, 7) := by decide +kernel
theorem glk_8_119 : glk 8 119 = some (0, 94, 0, 1, 6) := by decide +kernel
theorem glk_8_122 : glk 8 122 = some (0, 151, 0, 1, 7) := by decide +kernel
theorem glk_8_123 : glk 8 123 = some (0, 95, 0, 1, 6) := by decide +kernel
theorem glk_8_126 : glk 8 126 = some (0, 152, 0, 1, 7) := by decide +kernel
theorem glk_8_127 : glk 8 127 = some (0, 96, 1, 1, 6) := by decide +kernel
theorem glk_8_130 : glk 8 130 = some (0, 153, 1, 1, 7) := by decide +kernel
theorem gnw_2_13 : gnw 2 13 = some 3 := by decide +kernel
theorem gnw_6_7 : gnw 6 7 = some 1 := by decide +kernel
theorem gnw_6_16 : gnw 6 16 = some 4 := by decide +kernel
theorem gnw_6_26 : gnw 6 26 = some 3 := by decide +kernel
theorem gnw_6_36 : gnw 6 36 = some 2 := by decide +kernel
theorem gnw_6_48 : gnw 6 48 = some 0 := by decide +kernel
theorem gnw_6_55 : gnw 6 55 = some 5 := by decide +kernel
theorem gnw_8_7 : gnw 8 7 = some 6 := by decide +kernel
theorem gnw_8_10 : gnw 8 10 = some 7 := by decide +kernel
theorem gcl_3_85 : gcl 3 85 = some 7919 := by decide +kernel
theorem gcl_3_87 : gcl 3 87 = some 6151 := by decide +kernel
theorem gcl_3_89 : gcl 3 89 = some 331 := by decide +kernel
theorem gcl_3_91 : gcl 3 91 = some 65521 := by decide +kernel
theorem gcl_3_93 : gcl 3 93 = some 8 := by decide +kernel
theorem gcl_7_176 : gcl 7 176 = some 7919 := by decide +kernel
theorem gcl_7_178 : gcl 7 178 = some 6151 := by decide +kernel
theorem gcl_7_180 : gcl 7 180 = some 331 := by decide +kernel
theorem gcl_7_182 : gcl 7 182 = some 65521 := by decide +kernel
theorem gci_9_265 : gci 9 265 = some 1431655765 := by decide +kernel
theorem gci_9_266 : gci 9 266 = some 858993459 := by decide +kernel
theorem gci_9_267 : gci 9 267 = some 252645135 := by decide +kernel
def gwl : List Jvm.Cond := lw_tbl.filter goodWord
theorem gwl_good : ∀ w ∈ gwl, goodWord w = true := fun w h => (List.mem_filter.mp h).2
theorem gwl_in : ∀ w ∈ gwl, w ∈ lw_tbl := fun w h => (List.mem_filter.mp h).1
theorem gwl_of {ws : List Jvm.Cond} (ps : List Nat) (hp : ws = ps.filterMap (fun i => lw_tbl[i]?)) (h : ws.all goodWord = true) : ∀ w ∈ ws, w ∈ gwl := by
  intro w hw
  refine List.mem_filter.mpr ⟨?_, List.all_eq_true.mp h w hw⟩
  rw [hp] at hw
  obtain ⟨i, -, hi⟩ := List.mem_filterMap.mp hw
  exact List.mem_of_getElem? hi
/-- the words of a field link -/
def gflW (e : (Nat × Nat) × (Nat × Nat × Nat)) : List Jvm.Cond := match vwCl[e.2.1]? with
  | some q => [.fieldLink (gown e.1.1) e.1.2 (q.2.1 e.2.2.1).1 (q.2.1 e.2.2.1).2.1 (q.2.1 e.2.2.1).2.2.1]
  | none => []
def gtyB (t : Nat) (x : Option FieldType) : Bool := match x with
  | some .int => t == 0
  | some .boolean => t == 1
  | some (.object _) => t == 2 || t == 3
  | some (.array _) => t == 2 || t == 3
  | _ => false
def gflB (e : (Nat × Nat) × (Nat × Nat × Nat)) : Bool := match vwCl[e.2.1]? with
  | some q => decide (e.2.2.1 < q.2.2) && ((q.2.1 e.2.2.1).2.2.2 == (e.2.2.2 == 3)) && gtyB e.2.2.2 (parseFieldDescriptor (q.2.1 e.2.2.1).2.2.1) && decide ((q.2.1 e.2.2.1).1 = q.1)
  | none => false
theorem gflT_ok : gflT.all gflB = true := by decide +kernel
set_option maxRecDepth 100000 in
theorem gflT_in : ∀ w ∈ gflT.flatMap gflW, w ∈ gwl := gwl_of [192, 193, 194, 196, 197, 199, 113, 101, 145, 73, 74, 76, 77, 175, 176, 177, 144, 148, 150, 152, 97, 102, 111, 105, 115, 94, 96, 98, 100, 104, 107, 109, 112, 117, 219, 220, 221, 222, 223, 224, 226, 228, 146, 114, 357, 358, 359, 360, 361, 362, 363, 364, 365, 366, 75, 110, 178, 227, 95, 149, 151, 147, 103, 99, 106, 118, 116, 198, 195, 229, 225, 153, 108, 733, 735, 736, 737, 738, 739, 740, 741, 742, 745, 748, 749, 752, 753, 754, 734, 743, 744, 746, 747, 755, 750, 751] (by rfl) (by decide +kernel)
def gmtW (e : MethodName × ByteArray × Nat × Option FieldType × Nat) : List Jvm.Cond := [.code e.1 e.2.1 e.2.2.1 e.2.2.2.1]
def gmtB (e : MethodName × ByteArray × Nat × Option FieldType × Nat) : Bool := decide (e.1.cls = gown e.2.2.2.2) && decide (e.1.cls ≠ "java/lang/invoke/MethodHandle") && decide (e.1.cls ≠ "java/lang/invoke/VarHandle") && plainFor e.1 && decide (e.2.2.1 ≤ 21)
theorem gmt_ok : gmt.all gmtB = true := by decide +kernel
set_option maxRecDepth 100000 in
theorem gmt_in : ∀ w ∈ gmt.flatMap gmtW, w ∈ gwl := gwl_of [63, 71, 92, 142, 167, 171, 190, 217, 299, 303, 307, 311, 315, 318, 322, 325, 329, 333, 336, 343, 347, 351, 355, 392, 397, 401, 405, 409, 413, 417, 420, 424, 428, 432, 436, 440, 444, 448, 452, 456, 460, 464, 467, 471, 475, 479, 483, 488, 493, 497, 501, 505, 511, 516, 519, 523, 527, 531, 535, 539, 543, 548, 554, 560, 564, 569, 573, 577, 583, 587, 592, 595, 602, 606, 610, 614, 618, 622, 627, 634, 638, 646, 651, 657, 661, 665, 668, 671, 674, 678, 682, 685, 694, 698, 702, 706, 710, 714, 719, 724, 728, 732, 806, 809, 813, 817, 821, 825, 829, 833, 838, 842, 846, 850, 854, 858, 862, 866, 870, 874, 878, 882, 886, 890, 894, 898, 902, 906, 910, 914, 917, 921, 925, 929, 933, 937, 941, 945, 949, 953, 957, 960, 964, 968, 972, 976, 980, 984, 988, 992, 996, 1004, 1008, 1012] (by rfl) (by decide +kernel)
def gretB (r : Nat) (x : Option FieldType) : Bool := match x with
  | none => r == 0
  | some .int => r == 1
  | some .boolean => r == 1
  | some .long => r == 2
  | _ => false
def glkB (e : (Nat × Nat) × (Nat × Nat × Nat × Nat × Nat)) : Bool :=
  if e.2.1 = 5 then true
  else if e.2.1 = 6 then true
  else match gmt[e.2.2.1]? with
  | some q => decide ((parseMethodDescriptor q.1.desc).map (fun d => d.parameters.length) = some e.2.2.2.1) && gretB e.2.2.2.2.1 q.2.2.2.1 && decide (q.2.2.2.2 = e.2.2.2.2.2) && (
      if e.2.1 = 0 then decide ((vwCl[q.2.2.2.2]?).map (fun z => z.1) = some q.1.cls)
      else if e.2.1 = 1 then true
      else if e.2.1 = 2 then decide (q.1.name = "<init>") && decide (q.2.2.2.1 = none)
      else if e.2.1 = 3 then gnest.any (fun z => decide (z.1 = e.1.1 ∧ z.2.1 = e.1.2 ∧ z.2.2 = q.1))
      else if e.2.1 = 4 then gnest.any (fun z => decide (z.1 = e.1.1 ∧ z.2.1 = e.1.2 ∧ z.2.2 = q.1)) && decide (q.1.name = "<init>") && decide (q.2.2.2.1 = none)
      else false)
  | none => false
def glkW (e : (Nat × Nat) × (Nat × Nat × Nat × Nat × Nat)) : List Jvm.Cond :=
  if e.2.1 = 5 then [.methodLink (gown e.1.1) e.1.2 objectInit, .instanceMethod objectInit, .code objectInit ⟨#[0xb1]⟩ 1 none]
  else if e.2.1 = 6 then [.methodLink (gown e.1.1) e.1.2 arraycopyName, .native arraycopyName, .static arraycopyName, .initialized "java/lang/System"]
  else match gmt[e.2.2.1]? with
  | some q => if e.2.1 = 0 then [.initialized q.1.cls, .methodLink (gown e.1.1) e.1.2 q.1, .instanceMethod q.1, .selects q.1.cls q.1 q.1]
      else if e.2.1 = 1 then [.initialized q.1.cls, .methodLink (gown e.1.1) e.1.2 q.1, .static q.1]
      else if e.2.1 = 2 then [.initialized q.1.cls, .methodLink (gown e.1.1) e.1.2 q.1, .instanceMethod q.1]
      else if e.2.1 = 3 then [.initialized q.1.cls, .static q.1]
      else [.initialized q.1.cls, .instanceMethod q.1]
  | none => []
set_option maxRecDepth 100000 in
theorem glkT_ok : glkT.all glkB = true := by decide +kernel
set_option maxRecDepth 100000 in
theorem glkT_in : ∀ w ∈ glkT.flatMap glkW, w ∈ gwl := gwl_of [191, 65, 66, 565, 339, 338, 56, 50, 566, 568, 10, 50, 570, 572, 11, 50, 574, 576, 12, 46, 578, 438, 439, 46, 579, 486, 487, 72, 65, 66, 46, 304, 305, 306, 45, 308, 310, 0, 45, 312, 314, 1, 45, 316, 317, 45, 319, 321, 2, 46, 326, 327, 328, 44, 324, 168, 65, 66, 49, 169, 170, 47, 141, 47, 461, 462, 463, 49, 465, 466, 143, 65, 66, 356, 339, 338, 56, 44, 419, 46, 484, 438, 439, 46, 485, 486, 487, 46, 489, 446, 447, 47, 472, 473, 474, 47, 490, 491, 492, 47, 498, 499, 500, 47, 476, 477, 478, 47, 480, 481, 482, 47, 683, 684, 46, 494, 495, 496, 46, 502, 503, 504, 47, 555, 415, 416, 93, 65, 66, 46, 330, 332, 3, 46, 340, 342, 4, 46, 344, 346, 5, 46, 348, 350, 6, 46, 334, 335, 337, 339, 338, 56, 46, 445, 446, 447, 46, 441, 442, 443, 46, 449, 451, 9, 49, 506, 466, 218, 65, 66, 49, 623, 170, 628, 339, 338, 56, 47, 629, 477, 478, 51, 630, 620, 621, 51, 631, 633, 15, 51, 635, 637, 16, 46, 639, 438, 439, 46, 640, 486, 487, 46, 641, 495, 496, 44, 419, 51, 643, 645, 17, 46, 647, 503, 504, 64, 65, 66, 45, 70, 46, 91, 47, 141, 48, 165, 166, 50, 189, 51, 216, 45, 296, 297, 298, 45, 300, 301, 302, 47, 352, 353, 354, 44, 393, 324, 44, 410, 412, 7, 47, 414, 415, 416, 44, 425, 427, 8, 46, 437, 438, 439, 48, 457, 458, 459, 47, 468, 469, 470, 47, 507, 477, 478, 47, 512, 481, 482, 44, 517, 518, 47, 528, 529, 530, 48, 536, 537, 538, 47, 544, 462, 463, 47, 549, 473, 474, 47, 550, 491, 492, 47, 551, 552, 553, 47, 556, 499, 500, 50, 561, 562, 563, 44, 584, 586, 13, 58, 593, 594, 44, 599, 601, 14, 51, 607, 608, 609, 51, 619, 620, 621, 51, 624, 625, 626, 652, 339, 338, 56, 46, 653, 503, 504, 44, 658, 660, 18, 44, 663, 664, 44, 666, 667, 44, 669, 670, 47, 679, 680, 681, 47, 691, 692, 693, 47, 695, 696, 697, 47, 711, 712, 713, 46, 588, 442, 443, 46, 662, 486, 487, 49, 672, 673, 720, 65, 66, 57, 721, 723, 19, 57, 725, 727, 20, 57, 729, 731, 21, 57, 807, 808, 57, 822, 824, 23, 57, 826, 828, 24, 57, 818, 820, 22, 57, 834, 815, 816, 57, 839, 841, 25, 57, 843, 845, 26, 57, 851, 853, 27, 57, 867, 869, 29, 57, 871, 873, 30, 57, 863, 865, 28, 57, 891, 893, 34, 57, 899, 901, 36, 57, 883, 885, 32, 57, 879, 881, 31, 57, 887, 889, 33, 57, 895, 897, 35, 57, 903, 905, 37, 57, 915, 916, 57, 942, 944, 38, 57, 954, 956, 39, 57, 958, 959, 57, 977, 979, 41, 57, 973, 975, 40, 57, 981, 983, 42, 44, 61, 62, 57, 717, 718, 44, 389, 390, 391, 57, 803, 804, 805, 44, 394, 395, 396, 57, 810, 811, 812, 44, 398, 399, 400, 57, 814, 815, 816, 44, 402, 403, 404, 57, 830, 831, 832, 44, 406, 407, 408, 57, 835, 836, 837, 44, 421, 422, 423, 57, 847, 848, 849, 44, 429, 430, 431, 57, 855, 856, 857, 44, 433, 434, 435, 57, 859, 860, 861, 44, 453, 454, 455, 57, 875, 876, 877, 44, 508, 509, 510, 57, 907, 908, 909, 44, 513, 514, 515, 57, 911, 912, 913, 44, 520, 521, 522, 57, 918, 919, 920, 44, 524, 525, 526, 57, 922, 923, 924, 44, 532, 533, 534, 57, 926, 927, 928, 44, 540, 541, 542, 57, 930, 931, 932, 44, 545, 546, 547, 57, 934, 935, 936, 44, 557, 558, 559, 57, 938, 939, 940, 44, 580, 581, 582, 57, 946, 947, 948, 44, 589, 590, 591, 57, 950, 951, 952, 44, 603, 604, 605, 57, 961, 962, 963, 44, 611, 612, 613, 57, 965, 966, 967, 44, 615, 616, 617, 57, 969, 970, 971, 44, 648, 649, 650, 57, 985, 986, 987, 44, 654, 655, 656, 57, 989, 990, 991, 44, 675, 676, 677, 57, 993, 994, 995, 44, 699, 700, 701, 57, 1001, 1002, 1003, 44, 703, 704, 705, 57, 1005, 1006, 1007, 44, 707, 708, 709, 57, 1009, 1010, 1011] (by rfl) (by decide +kernel)
def gnwW (e : (Nat × Nat) × Nat) : List Jvm.Cond := match vwCl[e.2]? with
  | some q => [.classLink (gown e.1.1) e.1.2 q.1, .instantiable q.1 q.2.2, .initialized q.1]
  | none => []
theorem gnwT_ok : gnwT.all (fun e => decide (e.2 < 8)) = true := by decide +kernel
set_option maxRecDepth 100000 in
theorem gnwT_in : ∀ w ∈ gnwT.flatMap gnwW, w ∈ gwl := gwl_of [172, 139, 47, 67, 68, 45, 88, 89, 46, 138, 139, 47, 163, 164, 48, 186, 187, 50, 213, 214, 51, 59, 60, 44, 715, 716, 57] (by rfl) (by decide +kernel)
set_option maxRecDepth 100000 in
theorem gclT_in : ∀ w ∈ gclT.map (fun e => Jvm.Cond.constantLong (gown e.1.1) e.1.2 e.2), w ∈ gwl := gwl_of [686, 687, 688, 689, 690, 997, 998, 999, 1000] (by rfl) (by decide +kernel)
set_option maxRecDepth 100000 in
theorem gciT_in : ∀ w ∈ gciT.map (fun e => Jvm.Cond.constant (gown e.1.1) e.1.2 e.2), w ∈ gwl := gwl_of [596, 597, 598] (by rfl) (by decide +kernel)
set_option maxRecDepth 100000 in
theorem garr_in : ∀ w ∈ [Jvm.Cond.arrayClass .int, Jvm.Cond.arrayClass .byte], w ∈ gwl := gwl_of [87, 388] (by rfl) (by decide +kernel)
set_option maxRecDepth 100000 in
theorem gws_in : ∀ w ∈ vwCl.flatMap (fun q => u_ws q.1 q.2.1 q.2.2), w ∈ gwl := gwl_of [200, 202, 204, 206, 208, 210, 78, 80, 82, 84, 179, 181, 183, 154, 156, 158, 160, 119, 121, 123, 125, 127, 129, 131, 133, 135, 230, 232, 234, 236, 238, 240, 242, 244, 367, 369, 371, 373, 375, 377, 379, 381, 383, 385, 756, 758, 760, 762, 764, 766, 768, 770, 772, 774, 776, 778, 780, 782, 784, 786, 788, 790, 792, 794, 796, 798, 800] (by rfl) (by decide +kernel)
set_option maxRecDepth 100000 in
theorem gnest_in : ∀ w ∈ gnest.map (fun q => Jvm.Cond.methodLinkNest (gown q.1) q.2.1 q.2.2 "GreyByFriday"), w ∈ lw_tbl := by
  have h : gnest.map (fun q => Jvm.Cond.methodLinkNest (gown q.1) q.2.1 q.2.2 "GreyByFriday") = ([69, 90, 140, 174, 188, 215, 323, 418, 642] : List Nat).filterMap (fun i => lw_tbl[i]?) := by rfl
  intro w hw
  rw [h] at hw
  obtain ⟨i, -, hi⟩ := List.mem_filterMap.mp hw
  exact List.mem_of_getElem? hi
set_option maxRecDepth 100000 in
theorem gover_in : Jvm.Cond.arrayOver (.object "GreyByFriday$Street") ∈ lw_tbl := List.mem_of_getElem? (i := 173) (by rfl)
