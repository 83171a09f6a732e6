/-! tables of the program: by wip/whole/gen02.py out of the printed names and words -/
def nth {α : Type} : List α → Nat → Option α
  | [], _ => none
  | a :: _, 0 => some a
  | _ :: l, n + 1 => nth l n
theorem nth_mem {α : Type} : ∀ {l : List α} {n : Nat} {a : α}, nth l n = some a → a ∈ l
  | b :: _, 0, a, h => by cases h; exact List.mem_cons_self
  | b :: l, n + 1, a, h => List.mem_cons_of_mem _ (nth_mem (l := l) h)
def fnd {α : Type} : List (Nat × α) → Nat → Option α
  | [], _ => none
  | q :: r, i => cond (Nat.beq q.1 i) (some q.2) (fnd r i)
theorem fnd_mem {α : Type} : ∀ {l : List (Nat × α)} {i : Nat} {a : α}, fnd l i = some a → (i, a) ∈ l
  | q :: r, i, a, h => by
    unfold fnd at h
    cases hb : Nat.beq q.1 i with
    | true => rw [hb] at h; cases h; rw [show i = q.1 from (Nat.eq_of_beq_eq_true hb).symm]; exact List.mem_cons_self
    | false => rw [hb] at h; exact List.mem_cons_of_mem _ (fnd_mem (l := r) h)
def rcl : Nat → String
  | 0 => RX0
  | 1 => RX1
  | 2 => RX2
  | 3 => RX3
  | 4 => RX4
  | 5 => RX5
  | 6 => RX6
  | 7 => RX7
  | 8 => RX8
  | 9 => RX9
  | 10 => RX10
  | 11 => RX11
  | 12 => RX12
  | 13 => RL
  | 14 => RJ6
  | _ => RJ9
def tcl : Nat → u_T
  | 0 => TX0
  | 1 => TX1
  | 2 => TX2
  | 3 => TX3
  | 4 => TX4
  | 5 => TX5
  | 6 => TX6
  | 7 => TX7
  | 8 => TX8
  | 9 => TX9
  | 10 => TX10
  | 11 => TX11
  | _ => TX12
def tyF : Nat → Nat → FieldType
  | 0 => tyX0
  | 1 => tyX1
  | 2 => tyX2
  | 3 => tyX3
  | 4 => tyX4
  | 5 => tyX5
  | 6 => tyX6
  | 7 => tyX7
  | 8 => tyX8
  | 9 => tyX9
  | 10 => tyX10
  | 11 => tyX11
  | _ => tyX12
def ncl : Nat → Nat
  | 0 => 6
  | 1 => 4
  | 2 => 8
  | 3 => 3
  | 4 => 5
  | 5 => 2
  | 6 => 6
  | 7 => 4
  | 8 => 10
  | 9 => 2
  | 10 => 10
  | 11 => 19
  | 12 => 54
  | _ => 0
def finF (c k : Nat) : Bool := (tcl c k).2.2.2
abbrev MR : Type := MethodName × ByteArray × Nat × Option FieldType × Nat × Bool × Bool
def mr_0 : List MR := [(yX0_init, cX0_init, 2, none, 1, true, true),
  (yX0_drawn, cX0_drawn, 1, some .int, 1, true, false),
  (yX0_goOnFrom, cX0_goOnFrom, 2, none, 2, true, false),
  (yX0_weightOf, cX0_weightOf, 3, some .int, 3, true, false),
  (yX0_setWeight, cX0_setWeight, 5, some .int, 4, true, false),
  (yX0_stepOf, cX0_stepOf, 2, some .int, 2, true, false),
  (yX0_setStep, cX0_setStep, 4, some .int, 3, true, false),
  (yX0_draw, cX0_draw, 2, some .int, 2, true, false),
  (yX0_drawWeather, cX0_drawWeather, 5, some .int, 2, true, false),
  (yX0_makeDay, cX0_makeDay, 5, none, 2, true, false),
  (yX0_store, cX0_store, 3, some .boolean, 3, true, false),
  (yX0_restore, cX0_restore, 3, some .boolean, 3, true, false)]
def mr_1 : List MR := [(yX1_init, cX1_init, 1, none, 1, true, true),
  (yX1_size, cX1_size, 1, some .int, 1, true, false),
  (yX1_has, cX1_has, 2, some .boolean, 2, true, false),
  (yX1_add, cX1_add, 4, none, 4, true, false),
  (yX1_shrinkTo, cX1_shrinkTo, 2, none, 2, true, false),
  (yX1_weatherOn, cX1_weatherOn, 2, some .int, 2, true, false),
  (yX1_airOn, cX1_airOn, 2, some .int, 2, true, false),
  (yX1_skyOn, cX1_skyOn, 2, some .int, 2, true, false),
  (yX1_known, cX1_known, 2, some .int, 2, true, false),
  (yX1_comes, cX1_comes, 5, some .boolean, 4, true, false),
  (yX1_fairBehind, cX1_fairBehind, 4, some .int, 3, true, false)]
def mr_2 : List MR := [(yX2_init, cX2_init, 4, none, 4, true, true),
  (yX2_setTapped, cX2_setTapped, 2, none, 2, true, false),
  (yX2_markCount, cX2_markCount, 1, some .int, 1, true, false),
  (yX2_addMark, cX2_addMark, 3, some .boolean, 2, true, false),
  (yX2_trueOn, cX2_trueOn, 3, some .int, 3, true, false),
  (yX2_look, cX2_look, 5, none, 2, true, false),
  (yX2_handOn, cX2_handOn, 2, some .int, 2, true, false),
  (yX2_readingOn, cX2_readingOn, 2, some .int, 2, true, false),
  (yX2_fallOn, cX2_fallOn, 2, some .int, 2, true, false),
  (yX2_wordOn, cX2_wordOn, 6, some .int, 3, true, false)]
def mr_3 : List MR := [(yX3_init, cX3_init, 3, none, 3, true, true),
  (yX3_isLetter, cX3_isLetter, 1, some .boolean, 1, false, false),
  (yX3_strength, cX3_strength, 1, some .int, 1, false, false),
  (yX3_valueOn, cX3_valueOn, 9, some .int, 3, true, false),
  (yX3_thing, cX3_thing, 4, some .int, 4, true, false),
  (yX3_joined, cX3_joined, 3, some .int, 3, false, false)]
def mr_4 : List MR := [(yX4_init, cX4_init, 4, none, 4, true, true),
  (yX4_cost, cX4_cost, 1, some .int, 1, true, false),
  (yX4_gain, cX4_gain, 1, some .int, 1, true, false),
  (yX4_startDay, cX4_startDay, 1, some .int, 1, true, false),
  (yX4_setStart, cX4_setStart, 3, some .int, 2, true, false),
  (yX4_listens, cX4_listens, 1, some .int, 1, true, false),
  (yX4_setListens, cX4_setListens, 3, some .int, 2, true, false),
  (yX4_coins, cX4_coins, 4, some .int, 4, true, false),
  (yX4_shouldAct, cX4_shouldAct, 3, some .boolean, 3, true, false)]
def mr_5 : List MR := [(yX5_init, cX5_init, 1, none, 1, true, true),
  (yX5_clear, cX5_clear, 1, none, 1, true, false),
  (yX5_add, cX5_add, 3, none, 2, true, false),
  (yX5_addFraction, cX5_addFraction, 7, none, 3, true, false),
  (yX5_commonDivisor, cX5_commonDivisor, 11, some .long, 2, false, false),
  (yX5_size, cX5_size, 1, some .int, 1, true, false),
  (yX5_numberAt, cX5_numberAt, 2, some .long, 2, true, false)]
def mr_6 : List MR := [(yX6_init, cX6_init, 1, none, 1, true, true),
  (yX6_clear, cX6_clear, 1, none, 1, true, false),
  (yX6_note, cX6_note, 3, none, 3, true, false),
  (yX6_size, cX6_size, 1, some .int, 1, true, false),
  (yX6_stoodOn, cX6_stoodOn, 2, some .boolean, 2, true, false),
  (yX6_cameOn, cX6_cameOn, 2, some .boolean, 2, true, false),
  (yX6_events, cX6_events, 4, some .int, 2, true, false),
  (yX6_blindActs, cX6_blindActs, 3, some .boolean, 3, true, false),
  (yX6_blindCoins, cX6_blindCoins, 2, some .int, 2, true, false),
  (yX6_blindCoinsBehind, cX6_blindCoinsBehind, 3, some .int, 3, true, false),
  (yX6_setsStood, cX6_setsStood, 1, some .int, 1, true, false),
  (yX6_setOn, cX6_setOn, 3, some .int, 3, true, false),
  (yX6_countSets, cX6_countSets, 5, none, 3, true, false),
  (yX6_coinsBySigns, cX6_coinsBySigns, 7, some .int, 3, true, false),
  (yX6_coinsLearnt, cX6_coinsLearnt, 9, some .int, 4, true, false)]
def mr_7 : List MR := [(yX7_init, cX7_init, 1, none, 1, true, true),
  (yX7_clear, cX7_clear, 1, none, 1, true, false),
  (yX7_take, cX7_take, 3, none, 3, true, false),
  (yX7_both, cX7_both, 1, some .int, 1, true, false),
  (yX7_inVain, cX7_inVain, 1, some .int, 1, true, false),
  (yX7_without, cX7_without, 1, some .int, 1, true, false),
  (yX7_neither, cX7_neither, 1, some .int, 1, true, false),
  (yX7_stands, cX7_stands, 1, some .int, 1, true, false),
  (yX7_events, cX7_events, 1, some .int, 1, true, false),
  (yX7_all, cX7_all, 1, some .int, 1, true, false),
  (yX7_leaning, cX7_leaning, 1, some .int, 1, true, false),
  (yX7_verdict, cX7_verdict, 2, some .int, 1, true, false)]
def mr_8 : List MR := [(yX8_init, cX8_init, 1, none, 1, true, true),
  (yX8_size, cX8_size, 1, some .int, 1, true, false),
  (yX8_append, cX8_append, 3, some .boolean, 2, true, false),
  (yX8_cut, cX8_cut, 2, some .boolean, 2, true, false),
  (yX8_wrongPlace, cX8_wrongPlace, 2, some .int, 1, true, false),
  (yX8_codeRead, cX8_codeRead, 2, some (.array .int), 1, true, false),
  (yX8_takes, cX8_takes, 3, some .boolean, 2, true, false),
  (yX8_takesFirstDigit, cX8_takesFirstDigit, 2, some .boolean, 2, true, false),
  (yX8_takesDigit, cX8_takesDigit, 2, some .boolean, 2, true, false),
  (yX8_takesThing, cX8_takesThing, 2, some .boolean, 2, true, false),
  (yX8_takesClosing, cX8_takesClosing, 1, some .boolean, 1, true, false),
  (yX8_takesLink, cX8_takesLink, 3, some .boolean, 2, true, false),
  (yX8_writeWaiting, cX8_writeWaiting, 2, none, 2, true, false),
  (yX8_await, cX8_await, 2, none, 2, true, false),
  (yX8_write, cX8_write, 2, none, 2, true, false)]
def mr_9 : List MR := [(yX9_init, cX9_init, 2, none, 1, true, true),
  (yX9_many, cX9_many, 1, some .int, 1, true, false),
  (yX9_toldOn, cX9_toldOn, 2, some .int, 2, true, false),
  (yX9_tell, cX9_tell, 3, some .int, 3, true, false),
  (yX9_worstBehind, cX9_worstBehind, 5, some .int, 3, true, false)]
def mr_10 : List MR := [(yX10_init, cX10_init, 1, none, 1, true, true),
  (yX10_begin, cX10_begin, 1, none, 1, true, false),
  (yX10_note, cX10_note, 3, none, 3, true, false),
  (yX10_size, cX10_size, 1, some .int, 1, true, false),
  (yX10_sumNothing, cX10_sumNothing, 1, none, 1, true, false),
  (yX10_sumLatest, cX10_sumLatest, 5, none, 3, true, false),
  (yX10_times, cX10_times, 1, some .int, 1, true, false),
  (yX10_events, cX10_events, 1, some .int, 1, true, false),
  (yX10_followed, cX10_followed, 2, some .int, 2, true, false),
  (yX10_live, cX10_live, 5, none, 5, true, false),
  (yX10_coins, cX10_coins, 1, some .int, 1, true, false),
  (yX10_firstDay, cX10_firstDay, 1, some .int, 1, true, false),
  (yX10_tellIn, cX10_tellIn, 2, none, 2, true, false)]
def mr_11 : List MR := [(yX11_init, cX11_init, 1, none, 1, true, true),
  (yX11_day, cX11_day, 4, some .int, 4, true, false),
  (yX11_sheet, cX11_sheet, 7, some .int, 6, true, false),
  (yX11_run, cX11_run, 3, some .int, 2, true, false),
  (yX11_weight, cX11_weight, 4, some .int, 4, true, false),
  (yX11_step, cX11_step, 3, some .int, 3, true, false),
  (yX11_seed, cX11_seed, 3, some .int, 2, true, false),
  (yX11_of, cX11_of, 3, some .int, 3, true, false),
  (yX11_glass, cX11_glass, 4, some .int, 4, true, false),
  (yX11_tap, cX11_tap, 4, some .boolean, 3, true, false),
  (yX11_mark, cX11_mark, 4, some .int, 3, true, false),
  (yX11_shown, cX11_shown, 5, some .int, 4, true, false),
  (yX11_differ, cX11_differ, 7, some .int, 3, true, false),
  (yX11_right, cX11_right, 9, some .int, 3, true, false),
  (yX11_whose, cX11_whose, 11, some .int, 4, true, false),
  (yX11_sign, cX11_sign, 2, some .int, 2, true, false),
  (yX11_end, cX11_end, 2, some .boolean, 2, true, false),
  (yX11_omen, cX11_omen, 4, some .int, 2, true, false),
  (yX11_value, cX11_value, 4, some .int, 3, true, false),
  (yX11_table, cX11_table, 4, some .int, 4, true, false),
  (yX11_says, cX11_says, 4, some .int, 4, true, false),
  (yX11_lot, cX11_lot, 10, some .int, 4, true, false),
  (yX11_fails, cX11_fails, 6, some .int, 4, true, false),
  (yX11_beast, cX11_beast, 7, some .int, 4, true, false),
  (yX11_holds, cX11_holds, 7, some .int, 4, true, false),
  (yX11_person, cX11_person, 4, some .int, 4, true, false),
  (yX11_line, cX11_line, 3, some .int, 2, true, false),
  (yX11_blind, cX11_blind, 5, some .int, 4, true, false),
  (yX11_saved, cX11_saved, 7, some .int, 5, true, false),
  (yX11_few, cX11_few, 14, some .int, 6, true, false),
  (yX11_truly, cX11_truly, 9, some .int, 5, true, false),
  (yX11_level, cX11_level, 13, some .int, 6, true, false),
  (yX11_remember, cX11_remember, 6, some .int, 5, true, false),
  (yX11_drum, cX11_drum, 10, some .int, 5, true, false),
  (yX11_cry, cX11_cry, 6, some .int, 4, true, false),
  (yX11_mow, cX11_mow, 8, some .int, 3, true, false),
  (yX11_fields, cX11_fields, 4, some .int, 2, true, false),
  (yX11_start, cX11_start, 4, some .int, 3, true, false),
  (yX11_listen, cX11_listen, 4, some .int, 3, true, false),
  (yX11_village, cX11_village, 6, some .int, 5, true, false),
  (yX11_first, cX11_first, 6, some .int, 5, true, false),
  (yX11_valley, cX11_valley, 3, some .int, 3, true, false),
  (yX11_elsewhere, cX11_elsewhere, 8, some .int, 4, true, false),
  (yX11_worlds, cX11_worlds, 14, some .int, 7, true, false),
  (yX11_telling, cX11_telling, 3, some .int, 3, true, false),
  (yX11_judge, cX11_judge, 10, some .int, 3, true, false),
  (yX11_hedge, cX11_hedge, 4, some .int, 3, true, false),
  (yX11_told, cX11_told, 8, some .int, 3, true, false),
  (yX11_see, cX11_see, 3, some .int, 3, true, false),
  (yX11_sticks, cX11_sticks, 5, some .int, 1, true, false),
  (yX11_keep, cX11_keep, 2, some .boolean, 2, true, false),
  (yX11_again, cX11_again, 2, some .boolean, 2, true, false),
  (yX11_count, cX11_count, 2, some .int, 2, true, false),
  (yX11_row, cX11_row, 2, some .long, 2, true, false),
  (yX11_within, cX11_within, 3, some .boolean, 3, false, false),
  (yX11_isWeather, cX11_isWeather, 1, some .boolean, 1, false, false),
  (yX11_isEvent, cX11_isEvent, 2, some .boolean, 2, false, false),
  (yX11_clampAir, cX11_clampAir, 1, some .int, 1, false, false),
  (yX11_sheetEntry, cX11_sheetEntry, 2, some .int, 2, false, false),
  (yX11_glassAt, cX11_glassAt, 2, some (.object "HallGlass$Glass"), 2, true, false),
  (yX11_signAt, cX11_signAt, 2, some (.object "HallGlass$Omen"), 2, true, false),
  (yX11_personAt, cX11_personAt, 2, some (.object "HallGlass$Person"), 2, true, false),
  (yX11_areSigns, cX11_areSigns, 2, some .boolean, 2, true, false),
  (yX11_canTally, cX11_canTally, 4, some .boolean, 4, true, false),
  (yX11_canWatch, cX11_canWatch, 4, some .boolean, 4, true, false),
  (yX11_lookAtGlasses, cX11_lookAtGlasses, 4, none, 2, true, false),
  (yX11_daysAlike, cX11_daysAlike, 6, some .int, 4, true, false),
  (yX11_daysAlone, cX11_daysAlone, 7, some .int, 4, true, false),
  (yX11_lookOver, cX11_lookOver, 7, none, 5, true, false),
  (yX11_standing, cX11_standing, 7, some .int, 4, true, false),
  (yX11_tallySign, cX11_tallySign, 4, none, 4, true, false),
  (yX11_tallyDays, cX11_tallyDays, 4, none, 3, true, false),
  (yX11_tallyWord, cX11_tallyWord, 4, none, 3, true, false),
  (yX11_addTable, cX11_addTable, 1, none, 1, true, false),
  (yX11_choices, cX11_choices, 6, some .long, 2, false, false),
  (yX11_levelOn, cX11_levelOn, 4, some .int, 4, true, false),
  (yX11_coinsByLevel, cX11_coinsByLevel, 9, some .int, 5, true, false),
  (yX11_liveThrough, cX11_liveThrough, 9, none, 6, true, false),
  (yX11_isWorthIt, cX11_isWorthIt, 6, some .boolean, 4, true, false),
  (yX11_makeWorld, cX11_makeWorld, 3, none, 2, true, false),
  (yX11_distance, cX11_distance, 4, some .int, 3, false, false),
  (yX11_allDistances, cX11_allDistances, 4, some .int, 4, false, false),
  (yX11_bestPercent, cX11_bestPercent, 5, some .int, 3, false, false),
  (yX11_fitsSeen, cX11_fitsSeen, 5, some .boolean, 2, true, false)]
def mr_12 : List MR := [(yX12_init, cX12_init, 2, none, 1, true, true),
  (yX12_thrown, cX12_thrown, 1, some .int, 1, true, false),
  (yX12_in, cX12_in, 3, some .boolean, 3, false, false),
  (yX12_lost, cX12_lost, 1, some .int, 1, true, false),
  (yX12_tell, cX12_tell, 3, none, 2, true, false),
  (yX12_common, cX12_common, 10, some .long, 2, false, false),
  (yX12_tellPart, cX12_tellPart, 7, none, 3, true, false),
  (yX12_isDay, cX12_isDay, 2, some .boolean, 2, true, false),
  (yX12_isWeather, cX12_isWeather, 1, some .boolean, 1, false, false),
  (yX12_isGlass, cX12_isGlass, 2, some .boolean, 2, true, false),
  (yX12_isOmen, cX12_isOmen, 2, some .boolean, 2, true, false),
  (yX12_isPerson, cX12_isPerson, 2, some .boolean, 2, true, false),
  (yX12_add, cX12_add, 4, none, 4, true, false),
  (yX12_day, cX12_day, 4, some .int, 4, true, false),
  (yX12_sheet, cX12_sheet, 9, some .int, 6, true, false),
  (yX12_draw, cX12_draw, 2, some .int, 2, true, false),
  (yX12_make, cX12_make, 5, none, 1, true, false),
  (yX12_run, cX12_run, 3, some .int, 2, true, false),
  (yX12_weight, cX12_weight, 5, some .int, 4, true, false),
  (yX12_step, cX12_step, 4, some .int, 3, true, false),
  (yX12_seed, cX12_seed, 3, some .int, 2, true, false),
  (yX12_of, cX12_of, 3, some .int, 3, true, false),
  (yX12_glass, cX12_glass, 4, some .int, 4, true, false),
  (yX12_tap, cX12_tap, 3, some .boolean, 3, true, false),
  (yX12_mark, cX12_mark, 4, some .int, 3, true, false),
  (yX12_trueOf, cX12_trueOf, 3, some .int, 3, true, false),
  (yX12_handOf, cX12_handOf, 5, some .int, 3, true, false),
  (yX12_shownOf, cX12_shownOf, 3, some .int, 3, true, false),
  (yX12_wordOf, cX12_wordOf, 6, some .int, 4, true, false),
  (yX12_showAll, cX12_showAll, 5, none, 1, true, false),
  (yX12_shown, cX12_shown, 4, some .int, 4, true, false),
  (yX12_word, cX12_word, 3, some .int, 3, true, false),
  (yX12_differ, cX12_differ, 5, some .int, 3, true, false),
  (yX12_right, cX12_right, 9, some .int, 3, true, false),
  (yX12_alone, cX12_alone, 6, some .int, 4, true, false),
  (yX12_whose, cX12_whose, 6, some .int, 4, true, false),
  (yX12_sign, cX12_sign, 3, some .int, 2, true, false),
  (yX12_end, cX12_end, 2, some .boolean, 2, true, false),
  (yX12_here, cX12_here, 1, some .int, 1, true, false),
  (yX12_passes, cX12_passes, 2, some .boolean, 2, true, false),
  (yX12_fine, cX12_fine, 1, some .boolean, 1, true, false),
  (yX12_isWrong, cX12_isWrong, 1, none, 1, true, false),
  (yX12_either, cX12_either, 4, some .int, 2, true, false),
  (yX12_both, cX12_both, 4, some .int, 2, true, false),
  (yX12_held, cX12_held, 5, some .int, 2, true, false),
  (yX12_sum, cX12_sum, 5, some .int, 2, true, false),
  (yX12_thing, cX12_thing, 5, some .int, 2, true, false),
  (yX12_fall, cX12_fall, 3, some .int, 3, true, false),
  (yX12_letter, cX12_letter, 3, some .int, 2, true, false),
  (yX12_omen, cX12_omen, 4, some .int, 2, true, false),
  (yX12_valueOn, cX12_valueOn, 3, some .int, 3, true, false),
  (yX12_value, cX12_value, 3, some .int, 3, true, false),
  (yX12_isEvent, cX12_isEvent, 2, some .boolean, 2, false, false),
  (yX12_prepare, cX12_prepare, 6, none, 4, true, false),
  (yX12_stands, cX12_stands, 3, some .boolean, 3, true, false),
  (yX12_table, cX12_table, 5, some .int, 4, true, false),
  (yX12_countDays, cX12_countDays, 5, none, 4, true, false),
  (yX12_compared, cX12_compared, 2, some .int, 1, true, false),
  (yX12_says, cX12_says, 4, some .int, 4, true, false),
  (yX12_choose, cX12_choose, 8, some .long, 2, false, false),
  (yX12_lot, cX12_lot, 7, some .int, 4, true, false),
  (yX12_fails, cX12_fails, 6, some .int, 4, true, false),
  (yX12_beast, cX12_beast, 7, some .int, 4, true, false),
  (yX12_holds, cX12_holds, 6, some .int, 4, true, false),
  (yX12_person, cX12_person, 4, some .int, 4, true, false),
  (yX12_line, cX12_line, 2, some .int, 2, true, false),
  (yX12_coins, cX12_coins, 4, some .int, 4, true, false),
  (yX12_coinsOf, cX12_coinsOf, 7, some .int, 5, true, false),
  (yX12_isBlindActing, cX12_isBlindActing, 4, some .boolean, 4, true, false),
  (yX12_blind, cX12_blind, 5, some .int, 4, true, false),
  (yX12_actsBy, cX12_actsBy, 9, some .boolean, 5, true, false),
  (yX12_bySigns, cX12_bySigns, 7, some .int, 3, true, false),
  (yX12_savedBy, cX12_savedBy, 3, some .int, 3, true, false),
  (yX12_areOmens, cX12_areOmens, 2, some .boolean, 2, true, false),
  (yX12_saved, cX12_saved, 6, some .int, 5, true, false),
  (yX12_few, cX12_few, 11, some .int, 6, true, false),
  (yX12_truly, cX12_truly, 9, some .int, 5, true, false),
  (yX12_shownAt, cX12_shownAt, 4, some .int, 4, true, false),
  (yX12_level, cX12_level, 12, some .int, 6, true, false),
  (yX12_recall, cX12_recall, 7, none, 5, true, false),
  (yX12_actsThen, cX12_actsThen, 7, some .boolean, 6, true, false),
  (yX12_goThrough, cX12_goThrough, 8, some .int, 5, true, false),
  (yX12_canRemember, cX12_canRemember, 5, some .boolean, 5, true, false),
  (yX12_remember, cX12_remember, 5, some .int, 5, true, false),
  (yX12_hoist, cX12_hoist, 6, none, 4, true, false),
  (yX12_drum, cX12_drum, 6, some .int, 5, true, false),
  (yX12_cry, cX12_cry, 5, some .int, 4, true, false),
  (yX12_wetBehind, cX12_wetBehind, 4, some .int, 3, true, false),
  (yX12_mow, cX12_mow, 8, some .int, 3, true, false),
  (yX12_fields, cX12_fields, 4, some .int, 2, true, false),
  (yX12_start, cX12_start, 4, some .int, 3, true, false),
  (yX12_listen, cX12_listen, 4, some .int, 3, true, false),
  (yX12_village, cX12_village, 5, some .int, 5, true, false),
  (yX12_first, cX12_first, 6, some .int, 5, true, false),
  (yX12_countTold, cX12_countTold, 3, some .int, 1, false, false),
  (yX12_valley, cX12_valley, 3, some .int, 3, true, false),
  (yX12_elsewhere, cX12_elsewhere, 9, some .int, 4, true, false),
  (yX12_worlds, cX12_worlds, 15, some .int, 7, true, false),
  (yX12_telling, cX12_telling, 3, some .int, 3, true, false),
  (yX12_measured, cX12_measured, 2, some .long, 2, false, false),
  (yX12_judge, cX12_judge, 13, some .int, 3, true, false),
  (yX12_hedged, cX12_hedged, 3, some .long, 3, false, false),
  (yX12_hedge, cX12_hedge, 5, some .int, 3, true, false),
  (yX12_told, cX12_told, 6, some .int, 3, true, false),
  (yX12_see, cX12_see, 3, some .int, 3, true, false),
  (yX12_fitsStick, cX12_fitsStick, 4, some .boolean, 2, true, false),
  (yX12_sticks, cX12_sticks, 5, some .int, 1, true, false),
  (yX12_keep, cX12_keep, 2, some .boolean, 2, true, false),
  (yX12_again, cX12_again, 2, some .boolean, 2, true, false),
  (yX12_count, cX12_count, 2, some .int, 2, true, false),
  (yX12_row, cX12_row, 2, some .long, 2, true, false)]
def mr_13 : List MR := [(yL_step, cL_step, 5, some .int, 4, false, false),
  (yL_shown, cL_shown, 6, some .int, 5, false, false),
  (yL_value, cL_value, 5, some .int, 4, false, false),
  (yL_truly, cL_truly, 7, some .int, 6, false, false),
  (yL_row, cL_row, 4, some .int, 3, false, false),
  (yL_law, cL_law, 8, some .boolean, 1, false, false)]
def mr_14 : List MR := [(yJ6_bitCount_0f7a4, cJ6_bitCount_0f7a4, 1, some .int, 1, false, false)]
def mr_15 : List MR := [(yJ9_abs_0f7a4, cJ9_abs_0f7a4, 1, some .int, 1, false, false),
  (yJ9_max_7cf53, cJ9_max_7cf53, 2, some .int, 2, false, false),
  (yJ9_min_7cf53, cJ9_min_7cf53, 2, some .int, 2, false, false)]
def mrs : List (List MR) := [mr_0, mr_1, mr_2, mr_3, mr_4, mr_5, mr_6, mr_7, mr_8, mr_9, mr_10, mr_11, mr_12, mr_13, mr_14, mr_15]
def mr0 : MR := (yL_law, code, 8, none, 0, false, false)
def mrO (y : Nat) : Option MR := match nth mrs (y / 128) with
  | some l => nth l (y % 128)
  | none => none
def mi (y : Nat) : MR := match mrO y with
  | some r => r
  | none => mr0
def mnm (y : Nat) : MethodName := (mi y).1
def mby (y : Nat) : ByteArray := (mi y).2.1
def mxl (y : Nat) : Nat := (mi y).2.2.1
def mrt (y : Nat) : Option FieldType := (mi y).2.2.2.1
def nar (y : Nat) : Nat := (mi y).2.2.2.2.1
def isi (y : Nat) : Bool := (mi y).2.2.2.2.2.1
def inS (y : Nat) : Bool := (mi y).2.2.2.2.2.2
def mcl (y : Nat) : Nat := y / 128
abbrev LE : Type := Nat × Nat × Nat × Nat
def lk_0 : List (Nat × LE) := [(3, 4, 0, 0, 0), (11, 0, 0, 0, 0), (15, 0, 0, 1, 0), (18, 0, 0, 2, 0), (22, 0, 0, 3, 0), (26, 0, 0, 4, 0), (29, 0, 0, 5, 0), (32, 1, 1463, 0, 1), (36, 1, 3, 0, 0), (40, 1, 5, 0, 0), (44, 3, 1103515245, 0, 0), (45, 1, 7, 0, 0), (48, 1, 129, 0, 0), (54, 1, 133, 0, 0), (57, 1, 8, 0, 0), (60, 1, 134, 0, 0), (63, 1, 1465, 0, 1), (66, 1, 131, 0, 0), (70, 1, 132, 0, 0)]
def lk_1 : List (Nat × LE) := [(3, 4, 0, 0, 0), (9, 0, 1, 0, 0), (15, 0, 1, 1, 0), (18, 0, 1, 2, 0), (21, 0, 1, 3, 0), (25, 1, 1922, 0, 0), (31, 1, 1921, 0, 0), (34, 1, 133, 0, 0)]
def lk_2 : List (Nat × LE) := [(3, 4, 0, 0, 0), (9, 0, 2, 3, 0), (15, 0, 2, 4, 0), (19, 0, 2, 6, 0), (22, 0, 2, 7, 0), (25, 0, 2, 0, 0), (29, 0, 2, 1, 0), (32, 0, 2, 2, 0), (35, 0, 2, 5, 0), (38, 1, 134, 0, 0), (44, 1, 129, 0, 0), (48, 1, 260, 0, 0), (52, 1, 1920, 0, 0)]
def lk_3 : List (Nat × LE) := [(1, 4, 0, 0, 0), (7, 0, 3, 0, 0), (13, 0, 3, 1, 0), (17, 0, 3, 2, 0), (28, 1, 386, 0, 0), (31, 1, 388, 0, 0), (35, 1, 389, 0, 0), (39, 1, 265, 0, 0), (45, 1, 263, 0, 0), (48, 1, 264, 0, 0), (51, 1, 133, 0, 0), (56, 1, 135, 0, 0)]
def lk_4 : List (Nat × LE) := [(1, 4, 0, 0, 0), (7, 0, 4, 0, 0), (13, 0, 4, 1, 0), (16, 0, 4, 2, 0), (19, 0, 4, 3, 0), (22, 0, 4, 4, 0), (25, 1, 519, 0, 0)]
def lk_5 : List (Nat × LE) := [(1, 4, 0, 0, 0), (9, 0, 5, 0, 0), (13, 0, 5, 1, 0), (17, 1, 644, 0, 0), (21, 1, 642, 0, 0)]
def lk_6 : List (Nat × LE) := [(3, 4, 0, 0, 0), (9, 0, 6, 0, 0), (15, 0, 6, 1, 0), (19, 0, 6, 3, 0), (22, 0, 6, 4, 0), (25, 0, 6, 2, 0), (29, 1, 773, 0, 0), (33, 1, 774, 0, 0), (37, 1, 520, 0, 0), (43, 1, 775, 0, 0), (47, 1, 519, 0, 0), (51, 0, 6, 5, 0), (54, 1, 779, 0, 0), (58, 1, 780, 0, 0)]
def lk_7 : List (Nat × LE) := [(1, 4, 0, 0, 0), (7, 0, 7, 0, 0), (13, 0, 7, 1, 0), (16, 0, 7, 2, 0), (19, 0, 7, 3, 0), (22, 1, 905, 0, 0), (26, 1, 903, 0, 0), (29, 1, 904, 0, 0), (32, 1, 906, 0, 0)]
def lk_8 : List (Nat × LE) := [(3, 4, 0, 0, 0), (11, 0, 8, 0, 0), (15, 0, 8, 2, 0), (18, 0, 8, 4, 0), (21, 0, 8, 6, 0), (25, 0, 8, 1, 0), (29, 0, 8, 3, 0), (32, 0, 8, 5, 0), (35, 0, 8, 7, 0), (38, 0, 8, 8, 0), (41, 0, 8, 9, 0), (45, 1, 1030, 0, 0), (49, 1, 1036, 0, 0), (53, 6, 0, 0, 0), (59, 1, 1031, 0, 0), (62, 1, 1033, 0, 0), (65, 1, 1032, 0, 0), (68, 1, 1034, 0, 0), (72, 1, 1035, 0, 0), (75, 1, 1038, 0, 0), (78, 1, 385, 0, 0), (83, 1, 1037, 0, 0), (86, 1, 1921, 0, 0), (92, 1, 386, 0, 0)]
def lk_9 : List (Nat × LE) := [(3, 4, 0, 0, 0), (9, 0, 9, 0, 0), (15, 0, 9, 1, 0), (19, 1, 1154, 0, 0), (23, 1, 1921, 0, 0)]
def lk_10 : List (Nat × LE) := [(3, 4, 0, 0, 0), (9, 0, 10, 0, 0), (15, 0, 10, 1, 0), (19, 0, 10, 2, 0), (23, 0, 10, 5, 0), (26, 0, 10, 6, 0), (29, 0, 10, 7, 0), (32, 0, 10, 8, 0), (35, 0, 10, 9, 0), (38, 0, 10, 3, 0), (41, 0, 10, 4, 0), (44, 1, 1921, 0, 0), (50, 1, 1284, 0, 0), (53, 1, 1285, 0, 0), (57, 1, 519, 0, 0), (62, 1, 641, 0, 0), (67, 1, 642, 0, 0)]
def lk_11 : List (Nat × LE) := [(1, 4, 0, 0, 0), (7, 2, 0, 0, 0), (9, 1, 0, 0, 0), (10, 0, 11, 0, 0), (16, 2, 1, 0, 0), (18, 1, 128, 0, 1), (19, 0, 11, 1, 0), (23, 0, 11, 2, 0), (26, 2, 2, 0, 0), (28, 0, 11, 3, 0), (32, 2, 8, 0, 0), (34, 1, 1024, 0, 1), (35, 0, 11, 5, 0), (39, 2, 3, 0, 0), (41, 0, 11, 6, 0), (45, 2, 4, 0, 0), (47, 0, 11, 8, 0), (51, 2, 9, 0, 0), (53, 1, 1152, 0, 0), (54, 0, 11, 10, 0), (58, 0, 11, 11, 0), (61, 0, 11, 12, 0), (65, 0, 11, 13, 0), (68, 2, 6, 0, 0), (70, 1, 768, 0, 1), (71, 0, 11, 15, 0), (75, 2, 7, 0, 0), (77, 1, 896, 0, 1), (78, 0, 11, 16, 0), (82, 2, 10, 0, 0), (84, 1, 1280, 0, 1), (85, 0, 11, 17, 0), (89, 2, 5, 0, 0), (91, 1, 640, 0, 1), (92, 0, 11, 18, 0), (96, 1, 1463, 0, 0), (100, 1, 1462, 0, 0), (104, 1, 129, 0, 0), (108, 1, 131, 0, 0), (112, 1, 1466, 0, 0), (116, 1, 1465, 0, 0), (120, 1, 9, 0, 0), (124, 1, 4, 0, 0), (128, 5, 0, 0, 0), (135, 1, 6, 0, 0), (138, 1, 1, 0, 0), (141, 1, 2, 0, 0), (145, 1, 130, 0, 0), (148, 1, 133, 0, 0), (151, 1, 134, 0, 0), (154, 1, 135, 0, 0), (157, 0, 11, 4, 0), (161, 1, 256, 0, 0), (163, 1, 1467, 0, 0), (167, 1, 257, 0, 0), (171, 1, 259, 0, 0), (174, 1, 258, 0, 0), (179, 1, 261, 0, 0), (182, 1, 260, 0, 0), (186, 1, 262, 0, 0), (189, 1, 263, 0, 0), (192, 1, 265, 0, 0), (195, 1, 1473, 0, 0), (198, 1, 641, 0, 0), (201, 1, 642, 0, 0), (204, 1, 1474, 0, 0), (208, 1, 1920, 0, 0), (213, 1, 1475, 0, 0), (217, 1, 1921, 0, 0), (220, 1, 1026, 0, 0), (223, 1, 1025, 0, 0), (224, 1, 1027, 0, 0), (227, 0, 11, 7, 0), (230, 1, 1028, 0, 0), (233, 1, 1029, 0, 0), (237, 1, 384, 0, 0), (240, 1, 1468, 0, 0), (246, 1, 387, 0, 0), (249, 1, 1471, 0, 0), (252, 1, 1478, 0, 0), (255, 1, 1481, 0, 0), (258, 1, 899, 0, 0), (261, 1, 903, 0, 0), (264, 1, 643, 0, 0), (268, 1, 904, 0, 0), (271, 1, 905, 0, 0), (274, 1, 907, 0, 0), (277, 1, 136, 0, 0), (280, 1, 1482, 0, 0), (284, 1, 1476, 0, 0), (288, 1, 771, 0, 0), (289, 1, 772, 0, 0), (292, 1, 773, 0, 0), (295, 1, 1480, 0, 0), (299, 1, 906, 0, 0), (302, 1, 1479, 0, 0), (306, 0, 11, 9, 0), (309, 1, 512, 0, 0), (310, 1, 1469, 0, 0), (314, 1, 514, 0, 0), (317, 1, 513, 0, 0), (320, 1, 1464, 0, 0), (324, 1, 775, 0, 0), (328, 1, 776, 0, 0), (332, 1, 1470, 0, 0), (335, 1, 781, 0, 0), (339, 1, 778, 0, 0), (342, 1, 1792, 0, 0), (349, 1, 777, 0, 0), (352, 1, 782, 0, 0), (356, 1, 774, 0, 0), (358, 1, 519, 0, 0), (362, 1, 1483, 0, 0), (366, 1, 1484, 0, 0), (370, 1, 1472, 0, 0), (373, 1, 1485, 0, 0), (377, 1, 1292, 0, 0), (381, 1, 1290, 0, 0), (383, 1, 1281, 0, 0), (386, 1, 1288, 0, 0), (389, 1, 1282, 0, 0), (393, 1, 1283, 0, 0), (394, 1, 1922, 0, 0), (397, 1, 138, 0, 0), (400, 1, 516, 0, 0), (403, 1, 518, 0, 0), (406, 1, 517, 0, 0), (409, 1, 1291, 0, 0), (412, 1, 1155, 0, 0), (415, 1, 897, 0, 0), (416, 1, 1156, 0, 0), (419, 1, 898, 0, 0), (423, 1, 1487, 0, 0), (426, 1, 1154, 0, 0), (429, 1, 137, 0, 0), (432, 1, 1488, 0, 0), (435, 1, 1490, 0, 0), (438, 1, 1489, 0, 0), (442, 0, 11, 14, 0), (445, 1, 1491, 0, 0), (448, 1, 10, 0, 0), (452, 1, 11, 0, 0), (455, 1, 1153, 0, 0), (458, 1, 645, 0, 0), (461, 1, 646, 0, 0), (465, 1, 769, 0, 0), (466, 1, 1477, 0, 0), (470, 1, 770, 0, 0), (471, 1, 900, 0, 0), (474, 1, 901, 0, 0), (477, 1, 902, 0, 0), (480, 1, 264, 0, 0), (483, 1, 1486, 0, 0), (487, 1, 1289, 0, 0), (491, 1, 1284, 0, 0), (494, 1, 1285, 0, 0), (497, 1, 515, 0, 0), (500, 1, 1287, 0, 0), (501, 1, 1286, 0, 0), (504, 1, 132, 0, 0)]
def lk_12 : List (Nat × LE) := [(1, 4, 0, 0, 0), (9, 0, 12, 1, 0), (13, 0, 12, 2, 0), (16, 0, 12, 3, 0), (19, 0, 12, 4, 0), (22, 0, 12, 5, 0), (25, 0, 12, 6, 0), (29, 0, 12, 8, 0), (32, 0, 12, 9, 0), (35, 0, 12, 10, 0), (38, 0, 12, 11, 0), (42, 0, 12, 12, 0), (45, 0, 12, 13, 0), (48, 0, 12, 15, 0), (52, 0, 12, 16, 0), (55, 0, 12, 17, 0), (58, 0, 12, 19, 0), (61, 0, 12, 20, 0), (64, 0, 12, 21, 0), (67, 0, 12, 22, 0), (70, 0, 12, 23, 0), (73, 0, 12, 24, 0), (76, 0, 12, 25, 0), (79, 0, 12, 27, 0), (82, 0, 12, 28, 0), (85, 0, 12, 29, 0), (88, 0, 12, 30, 0), (91, 0, 12, 31, 0), (94, 0, 12, 32, 0), (97, 0, 12, 34, 0), (101, 0, 12, 37, 0), (104, 0, 12, 44, 0), (107, 0, 12, 45, 0), (110, 0, 12, 47, 0), (113, 0, 12, 52, 0), (116, 0, 12, 53, 0), (119, 0, 12, 36, 0), (122, 0, 12, 35, 0), (125, 1, 1541, 0, 0), (129, 1, 1540, 0, 0), (133, 0, 12, 0, 0), (136, 1, 1538, 0, 0), (140, 0, 12, 7, 0), (143, 0, 12, 14, 0), (146, 0, 12, 18, 0), (149, 1, 1544, 0, 0), (153, 1, 1548, 0, 0), (157, 1, 1922, 0, 0), (163, 1, 1921, 0, 0), (166, 3, 1103515245, 0, 0), (167, 1, 1551, 0, 0), (171, 1, 1552, 0, 0), (174, 1, 1539, 0, 0), (178, 1, 1543, 0, 0), (181, 1, 1545, 0, 0), (184, 1, 1561, 0, 0), (187, 1, 1920, 0, 0), (190, 1, 1562, 0, 0), (193, 1, 1563, 0, 0), (196, 1, 1564, 0, 0), (200, 1, 1565, 0, 0), (203, 1, 1567, 0, 0), (206, 1, 1570, 0, 0), (209, 0, 12, 33, 0), (212, 0, 12, 40, 0), (215, 0, 12, 39, 0), (218, 0, 12, 38, 0), (221, 1, 1574, 0, 0), (224, 0, 12, 41, 0), (227, 1, 1576, 0, 0), (231, 1, 1579, 0, 0), (234, 1, 1575, 0, 0), (238, 1, 1580, 0, 0), (241, 1, 1581, 0, 0), (244, 1, 1582, 0, 0), (247, 1, 1577, 0, 0), (250, 1, 1578, 0, 0), (253, 0, 12, 42, 0), (256, 1, 1584, 0, 0), (260, 0, 12, 43, 0), (263, 1, 1583, 0, 0), (266, 1, 1546, 0, 0), (269, 1, 1586, 0, 0), (272, 0, 12, 46, 0), (275, 1, 1588, 0, 0), (279, 1, 1589, 0, 0), (282, 1, 1590, 0, 0), (285, 1, 1592, 0, 0), (288, 1, 1542, 0, 0), (292, 1, 1593, 0, 0), (295, 1, 1595, 0, 0), (299, 1, 1547, 0, 0), (302, 1, 1602, 0, 0), (306, 1, 1603, 0, 0), (310, 1, 1604, 0, 0), (313, 0, 12, 48, 0), (316, 1, 1606, 0, 0), (320, 1, 1607, 0, 0), (323, 1, 1609, 0, 0), (326, 1, 1608, 0, 0), (329, 1, 1792, 0, 0), (334, 1, 1613, 0, 0), (337, 0, 12, 50, 0), (340, 0, 12, 49, 0), (343, 1, 1615, 0, 0), (347, 1, 1616, 0, 0), (351, 1, 1618, 0, 0), (354, 1, 1617, 0, 0), (358, 0, 12, 51, 0), (361, 1, 1620, 0, 0), (364, 1, 1623, 0, 0), (367, 1, 1630, 0, 0), (371, 1, 1635, 0, 0), (374, 1, 1637, 0, 0), (378, 0, 12, 26, 0), (381, 1, 1641, 0, 0)]
def lk_13 : List (Nat × LE) := [(7, 1, 1413, 0, 0), (8, 2, 11, 0, 0), (13, 5, 0, 0, 0), (15, 1, 1419, 0, 0), (19, 1, 1426, 0, 0), (22, 1, 1438, 0, 0), (26, 1, 1461, 0, 0), (30, 1, 1408, 0, 0), (31, 2, 12, 0, 0), (33, 1, 1536, 0, 0), (34, 1, 1409, 0, 0), (37, 1, 1549, 0, 0), (38, 1, 1410, 0, 0), (42, 1, 1550, 0, 0), (43, 1, 1411, 0, 0), (47, 1, 1553, 0, 0), (48, 1, 1412, 0, 0), (51, 1, 1554, 0, 0), (52, 1, 1664, 0, 0), (57, 1, 1555, 0, 0), (58, 1, 1537, 0, 0), (62, 1, 1414, 0, 0), (65, 1, 1556, 0, 0), (66, 1, 1415, 0, 0), (69, 1, 1557, 0, 0), (70, 1, 1416, 0, 0), (73, 1, 1558, 0, 0), (74, 1, 1417, 0, 0), (78, 1, 1559, 0, 0), (79, 1, 1418, 0, 0), (82, 1, 1560, 0, 0), (83, 1, 1665, 0, 0), (86, 1, 1566, 0, 0), (87, 1, 1420, 0, 0), (90, 1, 1568, 0, 0), (91, 1, 1421, 0, 0), (94, 1, 1569, 0, 0), (95, 1, 1422, 0, 0), (98, 1, 1571, 0, 0), (99, 1, 1423, 0, 0), (102, 1, 1572, 0, 0), (103, 1, 1424, 0, 0), (107, 1, 1573, 0, 0), (108, 1, 1425, 0, 0), (111, 1, 1585, 0, 0), (112, 1, 1666, 0, 0), (114, 1, 1587, 0, 0), (115, 1, 1427, 0, 0), (118, 1, 1591, 0, 0), (119, 1, 1428, 0, 0), (122, 1, 1594, 0, 0), (123, 1, 1429, 0, 0), (126, 1, 1596, 0, 0), (127, 1, 1430, 0, 0), (130, 1, 1597, 0, 0), (131, 1, 1431, 0, 0), (134, 1, 1598, 0, 0), (135, 1, 1432, 0, 0), (138, 1, 1599, 0, 0), (139, 1, 1433, 0, 0), (142, 1, 1600, 0, 0), (143, 1, 1434, 0, 0), (146, 1, 1601, 0, 0), (147, 1, 1435, 0, 0), (150, 1, 1605, 0, 0), (151, 1, 1436, 0, 0), (154, 1, 1610, 0, 0), (155, 1, 1437, 0, 0), (158, 1, 1611, 0, 0), (159, 1, 1667, 0, 0), (162, 1, 1612, 0, 0), (163, 1, 1439, 0, 0), (166, 1, 1614, 0, 0), (167, 1, 1440, 0, 0), (170, 1, 1619, 0, 0), (171, 1, 1441, 0, 0), (174, 1, 1621, 0, 0), (175, 1, 1442, 0, 0), (178, 1, 1622, 0, 0), (179, 1, 1443, 0, 0), (182, 1, 1624, 0, 0), (183, 1, 1444, 0, 0), (186, 1, 1625, 0, 0), (187, 1, 1445, 0, 0), (190, 1, 1626, 0, 0), (191, 1, 1446, 0, 0), (194, 1, 1627, 0, 0), (195, 1, 1447, 0, 0), (198, 1, 1628, 0, 0), (199, 1, 1448, 0, 0), (202, 1, 1629, 0, 0), (203, 1, 1449, 0, 0), (206, 1, 1631, 0, 0), (207, 1, 1450, 0, 0), (210, 1, 1632, 0, 0), (211, 1, 1451, 0, 0), (215, 1, 1633, 0, 0), (216, 1, 1452, 0, 0), (219, 1, 1634, 0, 0), (220, 1, 1453, 0, 0), (223, 1, 1636, 0, 0), (224, 1, 1454, 0, 0), (227, 1, 1638, 0, 0), (228, 1, 1455, 0, 0), (231, 1, 1639, 0, 0), (232, 1, 1456, 0, 0), (235, 1, 1640, 0, 0), (236, 1, 1457, 0, 0), (239, 1, 1642, 0, 0), (240, 1, 1458, 0, 0), (243, 1, 1643, 0, 0), (244, 1, 1459, 0, 0), (247, 1, 1644, 0, 0), (248, 1, 1460, 0, 0), (251, 1, 1645, 0, 0), (252, 1, 1668, 0, 0), (255, 1, 1646, 0, 0)]
def lk_14 : List (Nat × LE) := [(265, 3, 1431655765, 0, 0), (266, 3, 858993459, 0, 0), (267, 3, 252645135, 0, 0)]
def lk_15 : List (Nat × LE) := []
def lks : List (List (Nat × LE)) := [lk_0, lk_1, lk_2, lk_3, lk_4, lk_5, lk_6, lk_7, lk_8, lk_9, lk_10, lk_11, lk_12, lk_13, lk_14, lk_15]
def lk (own idx : Nat) : Option LE := match nth lks own with
  | some l => fnd l idx
  | none => none
def thl : List (Nat × Nat) := [(1413, 18), (1419, 32), (1426, 21), (1438, 29), (1461, 17)]
def thr (y pc : Nat) : Bool := match fnd thl y with
  | some p => Nat.beq p pc
  | none => false
def hal : List (Nat × Nat × Nat × Nat) := [(1664, 5, 15, 4), (1665, 7, 17, 5), (1666, 5, 15, 4), (1667, 9, 19, 6), (1668, 4, 12, 3)]
def han (y pc : Nat) : Option (Nat × Nat) := match fnd hal y with
  | some (p, h, k) => cond (Nat.beq p pc) (some (h, k)) none
  | none => none
/-- the low 16 bits -/
def prz (x : Int32) : Int32 := (x.toUInt32 % 65536).toInt32
def prm (y : Nat) (as : List Value) : Option Value := cond (Nat.beq y 385) (match as with
  | [.int x] => some (.int (if prz x = 119 ∨ prz x = 112 ∨ prz x = 102 ∨ prz x = 116 ∨ prz x = 121 ∨ prz x = 107 ∨ prz x = 100 then 1 else 0))
  | _ => none) none
def ile : Instr → Nat
  | .bipush _ => 2
  | .sipush _ => 3
  | .ldc _ => 2
  | .ldc_w _ => 3
  | .iload _ => 2
  | .lload _ => 2
  | .aload _ => 2
  | .istore _ => 2
  | .lstore _ => 2
  | .astore _ => 2
  | .iinc _ _ => 3
  | .ifCond _ _ => 3
  | .if_icmp _ _ => 3
  | .ifnull _ => 3
  | .ifnonnull _ => 3
  | .goto _ => 3
  | .newarray _ => 2
  | .anewarray _ => 3
  | .getfield _ => 3
  | .putfield _ => 3
  | .new _ => 3
  | .invokevirtual _ => 3
  | .invokespecial _ => 3
  | .invokestatic _ => 3
  | _ => 1
def isSw : Instr → Bool
  | .tableswitch _ _ _ _ => true
  | .lookupswitch _ _ => true
  | _ => false
def okI : Instr → Bool
  | .bipush n => decide ((Int8.ofInt n).toInt32 = Int32.ofInt n)
  | .sipush n => decide ((Int16.ofInt n).toInt32 = Int32.ofInt n)
  | .tableswitch _ lo hi offs => decide (lo ≤ hi) && decide (hi - lo + 1 = offs.size)
  | .lookupswitch _ ps => (ps.toList.zip (ps.toList.drop 1)).all (fun (a, next) => decide (a.1 < next.1))
  | _ => true
/-- what the bytes say at a place is what the tree says there -/
def dec (b : ByteArray) (pc : Nat) (i : Instr) : Bool := match decode b pc with
  | .ok (j, n) => decide (j = i) && (isSw i || Nat.beq n (ile i)) && okI i
  | .error _ => false
def allN : Nat → (Nat → Bool) → Bool
  | 0, _ => true
  | n + 1, f => f n && allN n f
theorem allN_at : ∀ {n : Nat} {f : Nat → Bool}, allN n f = true → ∀ k, k < n → f k = true
  | n + 1, f, h, k, hk => by
    simp only [allN, Bool.and_eq_true] at h
    rcases Nat.lt_succ_iff_lt_or_eq.mp hk with h1 | h1
    · exact allN_at h.2 k h1
    · rw [h1]; exact h.1
def chk (n : Nat) (f : Nat → Option Instr) (b : ByteArray) : Bool := allN n fun pc => match f pc with
  | some i => dec b pc i
  | none => true
def okC (q : (Nat → Option Instr) × ByteArray) : Prop := ∀ pc i, q.1 pc = some i → dec q.2 pc i = true
theorem okC_of {f : Nat → Option Instr} {b : ByteArray} (n : Nat) (h : chk n f b = true) (hn : ∀ pc, Nat.ble n pc = true → f pc = none) : okC (f, b) := by
  intro pc i hi
  by_cases hp : pc < n
  · have h1 := allN_at h pc hp
    rw [show f pc = some i from hi] at h1
    exact h1
  · have h2 := hn pc (Nat.ble_eq.mpr (Nat.not_lt.mp hp))
    rw [show f pc = some i from hi] at h2
    cases h2
def chkR (lo n : Nat) (f : Nat → Option Instr) (b : ByteArray) : Bool := allN n fun k => match f (lo + k) with
  | some i => dec b (lo + k) i
  | none => true
theorem okC_ofR {f : Nat → Option Instr} {b : ByteArray} (w n : Nat) (hw : 0 < w) (h : ∀ j, j < n → chkR (w * j) w f b = true) (hn : ∀ pc, Nat.ble (w * n) pc = true → f pc = none) : okC (f, b) := by
  intro pc i hi
  by_cases hp : pc < w * n
  · have hj : pc / w < n := Nat.div_lt_of_lt_mul hp
    have h1 := allN_at (h _ hj) (pc % w) (Nat.mod_lt _ hw)
    rw [Nat.div_add_mod] at h1
    rw [show f pc = some i from hi] at h1
    exact h1
  · have h2 := hn pc (Nat.ble_eq.mpr (Nat.not_lt.mp hp))
    rw [show f pc = some i from hi] at h2
    cases h2
