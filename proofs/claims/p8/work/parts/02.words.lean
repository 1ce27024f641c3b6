/-- the words that every heap keeps -/
def wT : List Cond := lw_tbl.filter goodWord
theorem tw1 {w : Cond} (h : w ∈ tables_1_1) (hg : goodWord w = true) : w ∈ wT := List.mem_filter.mpr ⟨List.mem_append_right _ (List.mem_append_left _ h), hg⟩
theorem tw2 {w : Cond} (h : w ∈ tables_1_2) (hg : goodWord w = true) : w ∈ wT := List.mem_filter.mpr ⟨List.mem_append_right _ (List.mem_append_right _ (List.mem_append_left _ h)), hg⟩
theorem tw3 {w : Cond} (h : w ∈ tables_1_3) (hg : goodWord w = true) : w ∈ wT := List.mem_filter.mpr ⟨List.mem_append_right _ (List.mem_append_right _ (List.mem_append_right _ (List.mem_append_left _ h))), hg⟩
theorem tw4 {w : Cond} (h : w ∈ tables_1_4) (hg : goodWord w = true) : w ∈ wT := List.mem_filter.mpr ⟨List.mem_append_right _ (List.mem_append_right _ (List.mem_append_right _ (List.mem_append_right _ (List.mem_append_left _ h)))), hg⟩
theorem tw5 {w : Cond} (h : w ∈ tables_1_5) (hg : goodWord w = true) : w ∈ wT := List.mem_filter.mpr ⟨List.mem_append_right _ (List.mem_append_right _ (List.mem_append_right _ (List.mem_append_right _ (List.mem_append_right _ (List.mem_append_left _ h))))), hg⟩
theorem tw6 {w : Cond} (h : w ∈ tables_1_6) (hg : goodWord w = true) : w ∈ wT := List.mem_filter.mpr ⟨List.mem_append_right _ (List.mem_append_right _ (List.mem_append_right _ (List.mem_append_right _ (List.mem_append_right _ (List.mem_append_right _ h))))), hg⟩
theorem mw0 : Cond.selects RX7 yX7_isClock yX7_isClock ∈ wT := List.mem_filter.mpr ⟨List.mem_append_left _ (List.mem_of_getElem? (i := 0) rfl), rfl⟩
theorem mw1 : Cond.selects RX7 yX7_isWindow yX7_isWindow ∈ wT := List.mem_filter.mpr ⟨List.mem_append_left _ (List.mem_of_getElem? (i := 1) rfl), rfl⟩
theorem mw2 : Cond.selects RX5 yX5_rewind yX5_rewind ∈ wT := List.mem_filter.mpr ⟨List.mem_append_left _ (List.mem_of_getElem? (i := 2) rfl), rfl⟩
theorem mw3 : Cond.selects RX5 yX5_next yX5_next ∈ wT := List.mem_filter.mpr ⟨List.mem_append_left _ (List.mem_of_getElem? (i := 3) rfl), rfl⟩
theorem mw4 : Cond.selects RX5 yX5_here yX5_here ∈ wT := List.mem_filter.mpr ⟨List.mem_append_left _ (List.mem_of_getElem? (i := 4) rfl), rfl⟩
theorem mw5 : Cond.selects RX5 yX5_skip yX5_skip ∈ wT := List.mem_filter.mpr ⟨List.mem_append_left _ (List.mem_of_getElem? (i := 5) rfl), rfl⟩
theorem mw6 : Cond.selects RX5 yX5_readClock yX5_readClock ∈ wT := List.mem_filter.mpr ⟨List.mem_append_left _ (List.mem_of_getElem? (i := 6) rfl), rfl⟩
theorem mw7 : Cond.selects RX5 yX5_fails yX5_fails ∈ wT := List.mem_filter.mpr ⟨List.mem_append_left _ (List.mem_of_getElem? (i := 7) rfl), rfl⟩
theorem mw8 : Cond.selects RX5 yX5_number yX5_number ∈ wT := List.mem_filter.mpr ⟨List.mem_append_left _ (List.mem_of_getElem? (i := 8) rfl), rfl⟩
theorem mw9 : Cond.selects RX5 yX5_takes yX5_takes ∈ wT := List.mem_filter.mpr ⟨List.mem_append_left _ (List.mem_of_getElem? (i := 9) rfl), rfl⟩
theorem mw10 : Cond.selects RX5 yX5_readAct yX5_readAct ∈ wT := List.mem_filter.mpr ⟨List.mem_append_left _ (List.mem_of_getElem? (i := 10) rfl), rfl⟩
theorem mw11 : Cond.selects RX5 yX5_readBreath yX5_readBreath ∈ wT := List.mem_filter.mpr ⟨List.mem_append_left _ (List.mem_of_getElem? (i := 11) rfl), rfl⟩
theorem mw12 : Cond.selects RX5 yX5_readByClock yX5_readByClock ∈ wT := List.mem_filter.mpr ⟨List.mem_append_left _ (List.mem_of_getElem? (i := 12) rfl), rfl⟩
theorem mw13 : Cond.selects RX7 yX7_perform yX7_perform ∈ wT := List.mem_filter.mpr ⟨List.mem_append_left _ (List.mem_of_getElem? (i := 13) rfl), rfl⟩
theorem mw14 : Cond.selects RX3 yX3_forgetOldest yX3_forgetOldest ∈ wT := List.mem_filter.mpr ⟨List.mem_append_left _ (List.mem_of_getElem? (i := 14) rfl), rfl⟩
theorem mw15 : Cond.selects RX2 yX2_mayGo yX2_mayGo ∈ wT := List.mem_filter.mpr ⟨List.mem_append_left _ (List.mem_of_getElem? (i := 15) rfl), rfl⟩
theorem mw16 : Cond.selects RX2 yX2_go yX2_go ∈ wT := List.mem_filter.mpr ⟨List.mem_append_left _ (List.mem_of_getElem? (i := 16) rfl), rfl⟩
theorem mw17 : Cond.selects RX2 yX2_run yX2_run ∈ wT := List.mem_filter.mpr ⟨List.mem_append_left _ (List.mem_of_getElem? (i := 17) rfl), rfl⟩
theorem mw18 : Cond.selects RX2 yX2_isAhead yX2_isAhead ∈ wT := List.mem_filter.mpr ⟨List.mem_append_left _ (List.mem_of_getElem? (i := 18) rfl), rfl⟩
theorem mw19 : Cond.selects RX7 yX7_foresee yX7_foresee ∈ wT := List.mem_filter.mpr ⟨List.mem_append_left _ (List.mem_of_getElem? (i := 19) rfl), rfl⟩
theorem mw20 : Cond.selects RX7 yX7_hoursUntilHome yX7_hoursUntilHome ∈ wT := List.mem_filter.mpr ⟨List.mem_append_left _ (List.mem_of_getElem? (i := 20) rfl), rfl⟩
theorem mw21 : Cond.selects RX7 yX7_isAim yX7_isAim ∈ wT := List.mem_filter.mpr ⟨List.mem_append_left _ (List.mem_of_getElem? (i := 21) rfl), rfl⟩
theorem mw22 : Cond.selects RX7 yX7_usefulTurns yX7_usefulTurns ∈ wT := List.mem_filter.mpr ⟨List.mem_append_left _ (List.mem_of_getElem? (i := 22) rfl), rfl⟩
theorem mw23 : Cond.selects RX7 yX7_comesTo yX7_comesTo ∈ wT := List.mem_filter.mpr ⟨List.mem_append_left _ (List.mem_of_getElem? (i := 23) rfl), rfl⟩
theorem mw24 : Cond.selects RX7 yX7_fillGains yX7_fillGains ∈ wT := List.mem_filter.mpr ⟨List.mem_append_left _ (List.mem_of_getElem? (i := 24) rfl), rfl⟩
theorem mw25 : Cond.selects RX7 yX7_isRest yX7_isRest ∈ wT := List.mem_filter.mpr ⟨List.mem_append_left _ (List.mem_of_getElem? (i := 25) rfl), rfl⟩
theorem mw26 : Cond.selects RX7 yX7_isSet yX7_isSet ∈ wT := List.mem_filter.mpr ⟨List.mem_append_left _ (List.mem_of_getElem? (i := 26) rfl), rfl⟩
theorem mw27 : Cond.selects RX0 yX0_wins yX0_wins ∈ wT := List.mem_filter.mpr ⟨List.mem_append_left _ (List.mem_of_getElem? (i := 27) rfl), rfl⟩
theorem mw28 : Cond.selects RX7 yX7_isFilmed yX7_isFilmed ∈ wT := List.mem_filter.mpr ⟨List.mem_append_left _ (List.mem_of_getElem? (i := 28) rfl), rfl⟩
theorem mw29 : Cond.selects RX8 yX8_add yX8_add ∈ wT := List.mem_filter.mpr ⟨List.mem_append_left _ (List.mem_of_getElem? (i := 29) rfl), rfl⟩
theorem mw30 : Cond.selects RX8 yX8_isClock yX8_isClock ∈ wT := List.mem_filter.mpr ⟨List.mem_append_left _ (List.mem_of_getElem? (i := 30) rfl), rfl⟩
theorem mw31 : Cond.selects RX8 yX8_shownBy yX8_shownBy ∈ wT := List.mem_filter.mpr ⟨List.mem_append_left _ (List.mem_of_getElem? (i := 31) rfl), rfl⟩
theorem mw32 : Cond.selects RX8 yX8_truth yX8_truth ∈ wT := List.mem_filter.mpr ⟨List.mem_append_left _ (List.mem_of_getElem? (i := 32) rfl), rfl⟩
theorem mw33 : Cond.selects RX8 yX8_strikes yX8_strikes ∈ wT := List.mem_filter.mpr ⟨List.mem_append_left _ (List.mem_of_getElem? (i := 33) rfl), rfl⟩
theorem mw34 : Cond.selects RX8 yX8_isWindow yX8_isWindow ∈ wT := List.mem_filter.mpr ⟨List.mem_append_left _ (List.mem_of_getElem? (i := 34) rfl), rfl⟩
theorem mw35 : Cond.selects RX8 yX8_readSigns yX8_readSigns ∈ wT := List.mem_filter.mpr ⟨List.mem_append_left _ (List.mem_of_getElem? (i := 35) rfl), rfl⟩
theorem mw36 : Cond.selects RX8 yX8_nextLetter yX8_nextLetter ∈ wT := List.mem_filter.mpr ⟨List.mem_append_left _ (List.mem_of_getElem? (i := 36) rfl), rfl⟩
theorem mw37 : Cond.selects RX8 yX8_end yX8_end ∈ wT := List.mem_filter.mpr ⟨List.mem_append_left _ (List.mem_of_getElem? (i := 37) rfl), rfl⟩
theorem mw38 : Cond.selects RX8 yX8_allBack yX8_allBack ∈ wT := List.mem_filter.mpr ⟨List.mem_append_left _ (List.mem_of_getElem? (i := 38) rfl), rfl⟩
theorem mw39 : Cond.selects RX8 yX8_readStreet yX8_readStreet ∈ wT := List.mem_filter.mpr ⟨List.mem_append_left _ (List.mem_of_getElem? (i := 39) rfl), rfl⟩
theorem mw40 : Cond.selects RX8 yX8_readClock yX8_readClock ∈ wT := List.mem_filter.mpr ⟨List.mem_append_left _ (List.mem_of_getElem? (i := 40) rfl), rfl⟩
theorem mw41 : Cond.selects RX8 yX8_readNumber yX8_readNumber ∈ wT := List.mem_filter.mpr ⟨List.mem_append_left _ (List.mem_of_getElem? (i := 41) rfl), rfl⟩
theorem mw42 : Cond.selects RX8 yX8_takes yX8_takes ∈ wT := List.mem_filter.mpr ⟨List.mem_append_left _ (List.mem_of_getElem? (i := 42) rfl), rfl⟩
theorem mw43 : Cond.selects RX8 yX8_readDay yX8_readDay ∈ wT := List.mem_filter.mpr ⟨List.mem_append_left _ (List.mem_of_getElem? (i := 43) rfl), rfl⟩
theorem mw44 : Cond.selects RX8 yX8_readAct yX8_readAct ∈ wT := List.mem_filter.mpr ⟨List.mem_append_left _ (List.mem_of_getElem? (i := 44) rfl), rfl⟩
theorem mw45 : Cond.selects RX8 yX8_does yX8_does ∈ wT := List.mem_filter.mpr ⟨List.mem_append_left _ (List.mem_of_getElem? (i := 45) rfl), rfl⟩
theorem mw46 : Cond.selects RX8 yX8_note yX8_note ∈ wT := List.mem_filter.mpr ⟨List.mem_append_left _ (List.mem_of_getElem? (i := 46) rfl), rfl⟩
theorem mw47 : Cond.selects RX8 yX8_addSpring yX8_addSpring ∈ wT := List.mem_filter.mpr ⟨List.mem_append_left _ (List.mem_of_getElem? (i := 47) rfl), rfl⟩
theorem mw48 : Cond.selects RX8 yX8_addHands yX8_addHands ∈ wT := List.mem_filter.mpr ⟨List.mem_append_left _ (List.mem_of_getElem? (i := 48) rfl), rfl⟩
theorem mw49 : Cond.selects RX8 yX8_skyNow yX8_skyNow ∈ wT := List.mem_filter.mpr ⟨List.mem_append_left _ (List.mem_of_getElem? (i := 49) rfl), rfl⟩
theorem mw50 : Cond.selects RX8 yX8_goOn yX8_goOn ∈ wT := List.mem_filter.mpr ⟨List.mem_append_left _ (List.mem_of_getElem? (i := 50) rfl), rfl⟩
theorem mw51 : Cond.selects RX8 yX8_isHome yX8_isHome ∈ wT := List.mem_filter.mpr ⟨List.mem_append_left _ (List.mem_of_getElem? (i := 51) rfl), rfl⟩
theorem mw52 : Cond.selects RX8 yX8_goes yX8_goes ∈ wT := List.mem_filter.mpr ⟨List.mem_append_left _ (List.mem_of_getElem? (i := 52) rfl), rfl⟩
theorem mw53 : Cond.selects RX8 yX8_run yX8_run ∈ wT := List.mem_filter.mpr ⟨List.mem_append_left _ (List.mem_of_getElem? (i := 53) rfl), rfl⟩
theorem mw54 : Cond.selects RX8 yX8_placeOf yX8_placeOf ∈ wT := List.mem_filter.mpr ⟨List.mem_append_left _ (List.mem_of_getElem? (i := 54) rfl), rfl⟩
theorem mw55 : Cond.selects RX8 yX8_isAhead yX8_isAhead ∈ wT := List.mem_filter.mpr ⟨List.mem_append_left _ (List.mem_of_getElem? (i := 55) rfl), rfl⟩
theorem mw56 : Cond.selects RX8 yX8_homes yX8_homes ∈ wT := List.mem_filter.mpr ⟨List.mem_append_left _ (List.mem_of_getElem? (i := 56) rfl), rfl⟩
theorem mw57 : Cond.selects RX8 yX8_tied yX8_tied ∈ wT := List.mem_filter.mpr ⟨List.mem_append_left _ (List.mem_of_getElem? (i := 57) rfl), rfl⟩
theorem mw58 : Cond.selects RX8 yX8_keepAside yX8_keepAside ∈ wT := List.mem_filter.mpr ⟨List.mem_append_left _ (List.mem_of_getElem? (i := 58) rfl), rfl⟩
theorem mw59 : Cond.selects RX8 yX8_goHours yX8_goHours ∈ wT := List.mem_filter.mpr ⟨List.mem_append_left _ (List.mem_of_getElem? (i := 59) rfl), rfl⟩
theorem mw60 : Cond.selects RX8 yX8_bringBack yX8_bringBack ∈ wT := List.mem_filter.mpr ⟨List.mem_append_left _ (List.mem_of_getElem? (i := 60) rfl), rfl⟩
theorem mw61 : Cond.selects RX8 yX8_isAsked yX8_isAsked ∈ wT := List.mem_filter.mpr ⟨List.mem_append_left _ (List.mem_of_getElem? (i := 61) rfl), rfl⟩
theorem mw62 : Cond.selects RX8 yX8_placeWith yX8_placeWith ∈ wT := List.mem_filter.mpr ⟨List.mem_append_left _ (List.mem_of_getElem? (i := 62) rfl), rfl⟩
theorem mw63 : Cond.selects RX8 yX8_doesRest yX8_doesRest ∈ wT := List.mem_filter.mpr ⟨List.mem_append_left _ (List.mem_of_getElem? (i := 63) rfl), rfl⟩
theorem mw64 : Cond.selects RX8 yX8_areClocks yX8_areClocks ∈ wT := List.mem_filter.mpr ⟨List.mem_append_left _ (List.mem_of_getElem? (i := 64) rfl), rfl⟩
theorem mw65 : Cond.selects RX8 yX8_carried yX8_carried ∈ wT := List.mem_filter.mpr ⟨List.mem_append_left _ (List.mem_of_getElem? (i := 65) rfl), rfl⟩
theorem mw66 : Cond.selects RX8 yX8_lacksRow yX8_lacksRow ∈ wT := List.mem_filter.mpr ⟨List.mem_append_left _ (List.mem_of_getElem? (i := 66) rfl), rfl⟩
theorem mw67 : Cond.selects RX8 yX8_areSo yX8_areSo ∈ wT := List.mem_filter.mpr ⟨List.mem_append_left _ (List.mem_of_getElem? (i := 67) rfl), rfl⟩
theorem mw69 : Cond.initialized RX7 ∈ wT := tw1 (List.mem_of_getElem? (i := 1) rfl) rfl
theorem mw70 : Cond.initialized RX6 ∈ wT := tw1 (List.mem_of_getElem? (i := 2) rfl) rfl
theorem mw71 : Cond.initialized RX2 ∈ wT := tw1 (List.mem_of_getElem? (i := 3) rfl) rfl
theorem mw72 : Cond.initialized RX0 ∈ wT := tw1 (List.mem_of_getElem? (i := 4) rfl) rfl
theorem mw73 : Cond.initialized RX3 ∈ wT := tw1 (List.mem_of_getElem? (i := 5) rfl) rfl
theorem mw74 : Cond.initialized RX5 ∈ wT := tw1 (List.mem_of_getElem? (i := 6) rfl) rfl
theorem mw75 : Cond.initialized RX1 ∈ wT := tw1 (List.mem_of_getElem? (i := 7) rfl) rfl
theorem mw76 : Cond.initialized RX4 ∈ wT := tw1 (List.mem_of_getElem? (i := 8) rfl) rfl
theorem mw77 : Cond.initialized RX8 ∈ wT := tw1 (List.mem_of_getElem? (i := 9) rfl) rfl
theorem mw78 : Cond.initialized "java/lang/System" ∈ wT := tw1 (List.mem_of_getElem? (i := 10) rfl) rfl
theorem mw79 : Cond.initialized RJ0 ∈ wT := tw1 (List.mem_of_getElem? (i := 11) rfl) rfl
theorem mw80 : Cond.initialized RJ1 ∈ wT := tw1 (List.mem_of_getElem? (i := 12) rfl) rfl
theorem mw81 : Cond.initialized "java/lang/Math" ∈ wT := tw1 (List.mem_of_getElem? (i := 13) rfl) rfl
theorem mw90 : Cond.methodLink RX7 1 objectInit ∈ wT := tw1 (List.mem_of_getElem? (i := 22) rfl) rfl
theorem mw91 : Cond.instanceMethod objectInit ∈ wT := tw1 (List.mem_of_getElem? (i := 23) rfl) rfl
theorem mw92 : Cond.code objectInit ⟨#[0xb1]⟩ 1 none ∈ wT := tw1 (List.mem_of_getElem? (i := 24) rfl) rfl
theorem mw93 : Cond.classLink RX7 7 RX6 ∈ wT := tw1 (List.mem_of_getElem? (i := 25) rfl) rfl
theorem mw94 : Cond.instantiable RX6 4 ∈ wT := tw1 (List.mem_of_getElem? (i := 26) rfl) rfl
theorem mw96 : Cond.instanceMethod yX6_init ∈ wT := tw1 (List.mem_of_getElem? (i := 28) rfl) rfl
theorem mw97 : Cond.code yX6_init cX6_init 1 none ∈ wT := tw1 (List.mem_of_getElem? (i := 29) rfl) rfl
theorem mw98 : Cond.methodLink RX6 1 objectInit ∈ wT := tw1 (List.mem_of_getElem? (i := 30) rfl) rfl
theorem mw99 : Cond.classLink RX6 7 RX2 ∈ wT := tw1 (List.mem_of_getElem? (i := 31) rfl) rfl
theorem mw100 : Cond.instantiable RX2 14 ∈ wT := tw1 (List.mem_of_getElem? (i := 32) rfl) rfl
theorem mw101 : Cond.methodLink RX6 9 yX2_init ∈ wT := tw1 (List.mem_of_getElem? (i := 33) rfl) rfl
theorem mw102 : Cond.instanceMethod yX2_init ∈ wT := tw1 (List.mem_of_getElem? (i := 34) rfl) rfl
theorem mw103 : Cond.code yX2_init cX2_init 2 none ∈ wT := tw1 (List.mem_of_getElem? (i := 35) rfl) rfl
theorem mw104 : Cond.methodLink RX2 3 objectInit ∈ wT := tw1 (List.mem_of_getElem? (i := 36) rfl) rfl
theorem mw105 : Cond.fieldLink RX2 9 "LameClocks$Race" "windows" "I" ∈ wT := tw1 (List.mem_of_getElem? (i := 37) rfl) rfl
theorem mw106 : Cond.fieldLink RX7 153 "LameClocks$Race" "windows" "I" ∈ wT := tw1 (List.mem_of_getElem? (i := 38) rfl) rfl
theorem mw107 : Cond.fieldLink RX2 15 "LameClocks$Race" "dials" "[I" ∈ wT := tw1 (List.mem_of_getElem? (i := 39) rfl) rfl
theorem mw108 : Cond.fieldLink RX3 45 "LameClocks$Race" "dials" "[I" ∈ wT := tw1 (List.mem_of_getElem? (i := 40) rfl) rfl
theorem mw109 : Cond.fieldLink RX7 130 "LameClocks$Race" "dials" "[I" ∈ wT := tw1 (List.mem_of_getElem? (i := 41) rfl) rfl
theorem mw110 : Cond.fieldLink RX2 19 "LameClocks$Race" "clocks" "I" ∈ wT := tw1 (List.mem_of_getElem? (i := 42) rfl) rfl
theorem mw111 : Cond.fieldLink RX7 66 "LameClocks$Race" "clocks" "I" ∈ wT := tw1 (List.mem_of_getElem? (i := 43) rfl) rfl
theorem mw112 : Cond.fieldLink RX2 22 "LameClocks$Race" "kind" "[I" ∈ wT := tw1 (List.mem_of_getElem? (i := 44) rfl) rfl
theorem mw113 : Cond.fieldLink RX7 99 "LameClocks$Race" "kind" "[I" ∈ wT := tw1 (List.mem_of_getElem? (i := 45) rfl) rfl
theorem mw114 : Cond.fieldLink RX2 25 "LameClocks$Race" "hands" "[I" ∈ wT := tw1 (List.mem_of_getElem? (i := 46) rfl) rfl
theorem mw115 : Cond.fieldLink RX7 102 "LameClocks$Race" "hands" "[I" ∈ wT := tw1 (List.mem_of_getElem? (i := 47) rfl) rfl
theorem mw116 : Cond.fieldLink RX3 39 "LameClocks$Race" "hands" "[I" ∈ wT := tw1 (List.mem_of_getElem? (i := 48) rfl) rfl
theorem mw117 : Cond.fieldLink RX2 28 "LameClocks$Race" "rate" "[I" ∈ wT := tw1 (List.mem_of_getElem? (i := 49) rfl) rfl
theorem mw118 : Cond.fieldLink RX7 124 "LameClocks$Race" "rate" "[I" ∈ wT := tw1 (List.mem_of_getElem? (i := 50) rfl) rfl
theorem mw119 : Cond.fieldLink RX3 42 "LameClocks$Race" "rate" "[I" ∈ wT := tw1 (List.mem_of_getElem? (i := 51) rfl) rfl
theorem mw120 : Cond.fieldLink RX2 31 "LameClocks$Race" "spring" "[I" ∈ wT := tw1 (List.mem_of_getElem? (i := 52) rfl) rfl
theorem mw121 : Cond.fieldLink RX7 105 "LameClocks$Race" "spring" "[I" ∈ wT := tw1 (List.mem_of_getElem? (i := 53) rfl) rfl
theorem mw122 : Cond.fieldLink RX3 34 "LameClocks$Race" "spring" "[I" ∈ wT := tw1 (List.mem_of_getElem? (i := 54) rfl) rfl
theorem mw123 : Cond.fieldLink RX2 34 "LameClocks$Race" "window" "[I" ∈ wT := tw1 (List.mem_of_getElem? (i := 55) rfl) rfl
theorem mw124 : Cond.fieldLink RX7 108 "LameClocks$Race" "window" "[I" ∈ wT := tw1 (List.mem_of_getElem? (i := 56) rfl) rfl
theorem mw125 : Cond.fieldLink RX2 37 "LameClocks$Race" "finish" "[I" ∈ wT := tw1 (List.mem_of_getElem? (i := 57) rfl) rfl
theorem mw126 : Cond.fieldLink RX7 114 "LameClocks$Race" "finish" "[I" ∈ wT := tw1 (List.mem_of_getElem? (i := 58) rfl) rfl
theorem mw127 : Cond.fieldLink RX2 40 "LameClocks$Race" "skies" "I" ∈ wT := tw1 (List.mem_of_getElem? (i := 59) rfl) rfl
theorem mw128 : Cond.fieldLink RX7 164 "LameClocks$Race" "skies" "I" ∈ wT := tw1 (List.mem_of_getElem? (i := 60) rfl) rfl
theorem mw129 : Cond.fieldLink RX2 43 "LameClocks$Race" "sky" "[I" ∈ wT := tw1 (List.mem_of_getElem? (i := 61) rfl) rfl
theorem mw130 : Cond.fieldLink RX7 161 "LameClocks$Race" "sky" "[I" ∈ wT := tw1 (List.mem_of_getElem? (i := 62) rfl) rfl
theorem mw131 : Cond.fieldLink RX2 46 "LameClocks$Race" "hour" "I" ∈ wT := tw1 (List.mem_of_getElem? (i := 63) rfl) rfl
theorem mw132 : Cond.fieldLink RX7 193 "LameClocks$Race" "hour" "I" ∈ wT := tw1 (List.mem_of_getElem? (i := 64) rfl) rfl
theorem mw133 : Cond.fieldLink RX2 49 "LameClocks$Race" "heard" "I" ∈ wT := tw1 (List.mem_of_getElem? (i := 65) rfl) rfl
theorem mw134 : Cond.fieldLink RX7 206 "LameClocks$Race" "heard" "I" ∈ wT := tw1 (List.mem_of_getElem? (i := 66) rfl) rfl
theorem mw135 : Cond.fieldLink RX2 52 "LameClocks$Race" "strokes" "I" ∈ wT := tw1 (List.mem_of_getElem? (i := 67) rfl) rfl
theorem mw136 : Cond.fieldLink RX7 200 "LameClocks$Race" "strokes" "I" ∈ wT := tw1 (List.mem_of_getElem? (i := 68) rfl) rfl
theorem mw166 : Cond.arrayClass .int ∈ wT := tw1 (List.mem_of_getElem? (i := 98) rfl) rfl
theorem mw167 : Cond.classLink RX6 16 RX0 ∈ wT := tw1 (List.mem_of_getElem? (i := 99) rfl) rfl
theorem mw168 : Cond.instantiable RX0 3 ∈ wT := tw1 (List.mem_of_getElem? (i := 100) rfl) rfl
theorem mw170 : Cond.instanceMethod yX0_init ∈ wT := tw1 (List.mem_of_getElem? (i := 102) rfl) rfl
theorem mw171 : Cond.code yX0_init cX0_init 1 none ∈ wT := tw1 (List.mem_of_getElem? (i := 103) rfl) rfl
theorem mw172 : Cond.methodLink RX0 3 objectInit ∈ wT := tw1 (List.mem_of_getElem? (i := 104) rfl) rfl
theorem mw173 : Cond.fieldLink RX0 9 "LameClocks$Bets" "size" "I" ∈ wT := tw1 (List.mem_of_getElem? (i := 105) rfl) rfl
theorem mw174 : Cond.fieldLink RX7 174 "LameClocks$Bets" "size" "I" ∈ wT := tw1 (List.mem_of_getElem? (i := 106) rfl) rfl
theorem mw175 : Cond.fieldLink RX0 15 "LameClocks$Bets" "on" "[I" ∈ wT := tw1 (List.mem_of_getElem? (i := 107) rfl) rfl
theorem mw176 : Cond.fieldLink RX0 19 "LameClocks$Bets" "stake" "[I" ∈ wT := tw1 (List.mem_of_getElem? (i := 108) rfl) rfl
theorem mw184 : Cond.classLink RX6 23 RX3 ∈ wT := tw1 (List.mem_of_getElem? (i := 116) rfl) rfl
theorem mw185 : Cond.instantiable RX3 4 ∈ wT := tw1 (List.mem_of_getElem? (i := 117) rfl) rfl
theorem mw187 : Cond.instanceMethod yX3_init ∈ wT := tw1 (List.mem_of_getElem? (i := 119) rfl) rfl
theorem mw188 : Cond.code yX3_init cX3_init 1 none ∈ wT := tw1 (List.mem_of_getElem? (i := 120) rfl) rfl
theorem mw189 : Cond.methodLink RX3 3 objectInit ∈ wT := tw1 (List.mem_of_getElem? (i := 121) rfl) rfl
theorem mw190 : Cond.fieldLink RX3 9 "LameClocks$Repairs" "known" "I" ∈ wT := tw1 (List.mem_of_getElem? (i := 122) rfl) rfl
theorem mw191 : Cond.fieldLink RX7 91 "LameClocks$Repairs" "known" "I" ∈ wT := tw1 (List.mem_of_getElem? (i := 123) rfl) rfl
theorem mw192 : Cond.fieldLink RX3 15 "LameClocks$Repairs" "act" "[I" ∈ wT := tw1 (List.mem_of_getElem? (i := 124) rfl) rfl
theorem mw193 : Cond.fieldLink RX3 19 "LameClocks$Repairs" "whom" "[I" ∈ wT := tw1 (List.mem_of_getElem? (i := 125) rfl) rfl
theorem mw194 : Cond.fieldLink RX3 22 "LameClocks$Repairs" "was" "[I" ∈ wT := tw1 (List.mem_of_getElem? (i := 126) rfl) rfl
theorem mw204 : Cond.fieldLink RX6 10 "LameClocks$Whole" "race" "LLameClocks$Race;" ∈ wT := tw1 (List.mem_of_getElem? (i := 136) rfl) rfl
theorem mw205 : Cond.fieldLink RX7 63 "LameClocks$Whole" "race" "LLameClocks$Race;" ∈ wT := tw1 (List.mem_of_getElem? (i := 137) rfl) rfl
theorem mw206 : Cond.fieldLink RX6 19 "LameClocks$Whole" "bets" "LLameClocks$Bets;" ∈ wT := tw1 (List.mem_of_getElem? (i := 138) rfl) rfl
theorem mw207 : Cond.fieldLink RX7 77 "LameClocks$Whole" "bets" "LLameClocks$Bets;" ∈ wT := tw1 (List.mem_of_getElem? (i := 139) rfl) rfl
theorem mw208 : Cond.fieldLink RX6 26 "LameClocks$Whole" "repairs" "LLameClocks$Repairs;" ∈ wT := tw1 (List.mem_of_getElem? (i := 140) rfl) rfl
theorem mw209 : Cond.fieldLink RX7 87 "LameClocks$Whole" "repairs" "LLameClocks$Repairs;" ∈ wT := tw1 (List.mem_of_getElem? (i := 141) rfl) rfl
theorem mw210 : Cond.fieldLink RX6 30 "LameClocks$Whole" "draw" "I" ∈ wT := tw1 (List.mem_of_getElem? (i := 142) rfl) rfl
theorem mw211 : Cond.fieldLink RX7 291 "LameClocks$Whole" "draw" "I" ∈ wT := tw1 (List.mem_of_getElem? (i := 143) rfl) rfl
theorem mw221 : Cond.classLink RX7 23 RX2 ∈ wT := tw1 (List.mem_of_getElem? (i := 153) rfl) rfl
theorem mw222 : Cond.methodLink RX7 25 yX2_init ∈ wT := tw1 (List.mem_of_getElem? (i := 154) rfl) rfl
theorem mw223 : Cond.classLink RX7 30 RX5 ∈ wT := tw1 (List.mem_of_getElem? (i := 155) rfl) rfl
theorem mw224 : Cond.instantiable RX5 5 ∈ wT := tw1 (List.mem_of_getElem? (i := 156) rfl) rfl
theorem mw226 : Cond.instanceMethod yX5_init ∈ wT := tw1 (List.mem_of_getElem? (i := 158) rfl) rfl
theorem mw227 : Cond.code yX5_init cX5_init 1 none ∈ wT := tw1 (List.mem_of_getElem? (i := 159) rfl) rfl
theorem mw228 : Cond.methodLink RX5 3 objectInit ∈ wT := tw1 (List.mem_of_getElem? (i := 160) rfl) rfl
theorem mw229 : Cond.fieldLink RX5 9 "LameClocks$Tape" "letters" "[C" ∈ wT := tw1 (List.mem_of_getElem? (i := 161) rfl) rfl
theorem mw230 : Cond.fieldLink RX7 139 "LameClocks$Tape" "letters" "[C" ∈ wT := tw1 (List.mem_of_getElem? (i := 162) rfl) rfl
theorem mw231 : Cond.fieldLink RX5 15 "LameClocks$Tape" "size" "I" ∈ wT := tw1 (List.mem_of_getElem? (i := 163) rfl) rfl
theorem mw232 : Cond.fieldLink RX7 136 "LameClocks$Tape" "size" "I" ∈ wT := tw1 (List.mem_of_getElem? (i := 164) rfl) rfl
theorem mw233 : Cond.fieldLink RX5 19 "LameClocks$Tape" "at" "I" ∈ wT := tw1 (List.mem_of_getElem? (i := 165) rfl) rfl
theorem mw234 : Cond.fieldLink RX5 22 "LameClocks$Tape" "passed" "I" ∈ wT := tw1 (List.mem_of_getElem? (i := 166) rfl) rfl
theorem mw235 : Cond.fieldLink RX5 25 "LameClocks$Tape" "fault" "I" ∈ wT := tw1 (List.mem_of_getElem? (i := 167) rfl) rfl
theorem mw247 : Cond.arrayClass .char ∈ wT := tw1 (List.mem_of_getElem? (i := 179) rfl) rfl
theorem mw248 : Cond.classLink RX7 37 RX1 ∈ wT := tw1 (List.mem_of_getElem? (i := 180) rfl) rfl
theorem mw249 : Cond.instantiable RX1 4 ∈ wT := tw1 (List.mem_of_getElem? (i := 181) rfl) rfl
theorem mw251 : Cond.instanceMethod yX1_init ∈ wT := tw1 (List.mem_of_getElem? (i := 183) rfl) rfl
theorem mw252 : Cond.code yX1_init cX1_init 1 none ∈ wT := tw1 (List.mem_of_getElem? (i := 184) rfl) rfl
theorem mw253 : Cond.methodLink RX1 3 objectInit ∈ wT := tw1 (List.mem_of_getElem? (i := 185) rfl) rfl
theorem mw254 : Cond.fieldLink RX1 9 "LameClocks$Day" "size" "I" ∈ wT := tw1 (List.mem_of_getElem? (i := 186) rfl) rfl
theorem mw255 : Cond.fieldLink RX5 71 "LameClocks$Day" "size" "I" ∈ wT := tw1 (List.mem_of_getElem? (i := 187) rfl) rfl
theorem mw256 : Cond.fieldLink RX7 179 "LameClocks$Day" "size" "I" ∈ wT := tw1 (List.mem_of_getElem? (i := 188) rfl) rfl
theorem mw257 : Cond.fieldLink RX1 15 "LameClocks$Day" "act" "[I" ∈ wT := tw1 (List.mem_of_getElem? (i := 189) rfl) rfl
theorem mw258 : Cond.fieldLink RX7 180 "LameClocks$Day" "act" "[I" ∈ wT := tw1 (List.mem_of_getElem? (i := 190) rfl) rfl
theorem mw259 : Cond.fieldLink RX1 19 "LameClocks$Day" "whom" "[I" ∈ wT := tw1 (List.mem_of_getElem? (i := 191) rfl) rfl
theorem mw260 : Cond.fieldLink RX7 183 "LameClocks$Day" "whom" "[I" ∈ wT := tw1 (List.mem_of_getElem? (i := 192) rfl) rfl
theorem mw261 : Cond.fieldLink RX1 22 "LameClocks$Day" "amount" "[I" ∈ wT := tw1 (List.mem_of_getElem? (i := 193) rfl) rfl
theorem mw262 : Cond.fieldLink RX7 186 "LameClocks$Day" "amount" "[I" ∈ wT := tw1 (List.mem_of_getElem? (i := 194) rfl) rfl
theorem mw272 : Cond.classLink RX7 48 RX4 ∈ wT := tw1 (List.mem_of_getElem? (i := 204) rfl) rfl
theorem mw274 : Cond.instantiable RX4 4 ∈ wT := tw1 (List.mem_of_getElem? (i := 206) rfl) rfl
theorem mw276 : Cond.instanceMethod yX4_init ∈ wT := tw1 (List.mem_of_getElem? (i := 208) rfl) rfl
theorem mw277 : Cond.code yX4_init cX4_init 1 none ∈ wT := tw1 (List.mem_of_getElem? (i := 209) rfl) rfl
theorem mw278 : Cond.methodLink RX4 3 objectInit ∈ wT := tw1 (List.mem_of_getElem? (i := 210) rfl) rfl
theorem mw279 : Cond.fieldLink RX4 9 "LameClocks$Sheet" "isThere" "Z" ∈ wT := tw1 (List.mem_of_getElem? (i := 211) rfl) rfl
theorem mw280 : Cond.fieldLink RX7 323 "LameClocks$Sheet" "isThere" "Z" ∈ wT := tw1 (List.mem_of_getElem? (i := 212) rfl) rfl
theorem mw281 : Cond.fieldLink RX4 15 "LameClocks$Sheet" "lane" "I" ∈ wT := tw1 (List.mem_of_getElem? (i := 213) rfl) rfl
theorem mw282 : Cond.fieldLink RX7 327 "LameClocks$Sheet" "lane" "I" ∈ wT := tw1 (List.mem_of_getElem? (i := 214) rfl) rfl
theorem mw283 : Cond.fieldLink RX4 19 "LameClocks$Sheet" "size" "I" ∈ wT := tw1 (List.mem_of_getElem? (i := 215) rfl) rfl
theorem mw284 : Cond.fieldLink RX7 326 "LameClocks$Sheet" "size" "I" ∈ wT := tw1 (List.mem_of_getElem? (i := 216) rfl) rfl
theorem mw285 : Cond.fieldLink RX4 22 "LameClocks$Sheet" "items" "[J" ∈ wT := tw1 (List.mem_of_getElem? (i := 217) rfl) rfl
theorem mw286 : Cond.fieldLink RX7 306 "LameClocks$Sheet" "items" "[J" ∈ wT := tw1 (List.mem_of_getElem? (i := 218) rfl) rfl
theorem mw296 : Cond.arrayClass .long ∈ wT := tw1 (List.mem_of_getElem? (i := 228) rfl) rfl
theorem mw297 : Cond.fieldLink RX7 10 "LameClocks" "now" "LLameClocks$Whole;" ∈ wT := tw1 (List.mem_of_getElem? (i := 229) rfl) rfl
theorem mw298 : Cond.fieldLink RX7 16 "LameClocks" "kept" "LLameClocks$Whole;" ∈ wT := tw1 (List.mem_of_getElem? (i := 230) rfl) rfl
theorem mw299 : Cond.fieldLink RX7 19 "LameClocks" "hasImage" "Z" ∈ wT := tw1 (List.mem_of_getElem? (i := 231) rfl) rfl
theorem mw300 : Cond.fieldLink RX7 26 "LameClocks" "trial" "LLameClocks$Race;" ∈ wT := tw1 (List.mem_of_getElem? (i := 232) rfl) rfl
theorem mw301 : Cond.fieldLink RX7 33 "LameClocks" "tape" "LLameClocks$Tape;" ∈ wT := tw1 (List.mem_of_getElem? (i := 233) rfl) rfl
theorem mw302 : Cond.fieldLink RX7 40 "LameClocks" "plan" "LLameClocks$Day;" ∈ wT := tw1 (List.mem_of_getElem? (i := 234) rfl) rfl
theorem mw303 : Cond.fieldLink RX7 44 "LameClocks" "gains" "[I" ∈ wT := tw1 (List.mem_of_getElem? (i := 235) rfl) rfl
theorem mw304 : Cond.fieldLink RX7 50 "LameClocks" "sheets" "[LLameClocks$Sheet;" ∈ wT := tw1 (List.mem_of_getElem? (i := 236) rfl) rfl
theorem mw326 : Cond.methodLink RX7 55 yX7_isIn ∈ wT := tw2 (List.mem_of_getElem? (i := 18) rfl) rfl
theorem mw327 : Cond.static yX7_isIn ∈ wT := tw2 (List.mem_of_getElem? (i := 19) rfl) rfl
theorem mw328 : Cond.code yX7_isIn cX7_isIn 3 (some .boolean) ∈ wT := tw2 (List.mem_of_getElem? (i := 20) rfl) rfl
theorem mw329 : Cond.methodLink RX7 59 yX7_isRate ∈ wT := tw2 (List.mem_of_getElem? (i := 21) rfl) rfl
theorem mw330 : Cond.static yX7_isRate ∈ wT := tw2 (List.mem_of_getElem? (i := 22) rfl) rfl
theorem mw331 : Cond.code yX7_isRate cX7_isRate 1 (some .boolean) ∈ wT := tw2 (List.mem_of_getElem? (i := 23) rfl) rfl
theorem mw332 : Cond.methodLink RX7 70 yX2_add ∈ wT := tw2 (List.mem_of_getElem? (i := 24) rfl) rfl
theorem mw333 : Cond.instanceMethod yX2_add ∈ wT := tw2 (List.mem_of_getElem? (i := 25) rfl) rfl
theorem mw334 : Cond.selects RX2 yX2_add yX2_add ∈ wT := tw2 (List.mem_of_getElem? (i := 26) rfl) rfl
theorem mw335 : Cond.code yX2_add cX2_add 6 (some .int) ∈ wT := tw2 (List.mem_of_getElem? (i := 27) rfl) rfl
theorem mw340 : Cond.methodLink RX7 74 yX2_removeLast ∈ wT := tw2 (List.mem_of_getElem? (i := 32) rfl) rfl
theorem mw341 : Cond.instanceMethod yX2_removeLast ∈ wT := tw2 (List.mem_of_getElem? (i := 33) rfl) rfl
theorem mw342 : Cond.selects RX2 yX2_removeLast yX2_removeLast ∈ wT := tw2 (List.mem_of_getElem? (i := 34) rfl) rfl
theorem mw343 : Cond.code yX2_removeLast cX2_removeLast 1 none ∈ wT := tw2 (List.mem_of_getElem? (i := 35) rfl) rfl
theorem mw344 : Cond.methodLink RX7 81 yX0_removeOn ∈ wT := tw2 (List.mem_of_getElem? (i := 36) rfl) rfl
theorem mw345 : Cond.instanceMethod yX0_removeOn ∈ wT := tw2 (List.mem_of_getElem? (i := 37) rfl) rfl
theorem mw346 : Cond.selects RX0 yX0_removeOn yX0_removeOn ∈ wT := tw2 (List.mem_of_getElem? (i := 38) rfl) rfl
theorem mw347 : Cond.code yX0_removeOn cX0_removeOn 4 none ∈ wT := tw2 (List.mem_of_getElem? (i := 39) rfl) rfl
theorem mw352 : Cond.methodLink RX7 96 yX7_isClock ∈ wT := tw2 (List.mem_of_getElem? (i := 44) rfl) rfl
theorem mw354 : Cond.instanceMethod yX7_isClock ∈ wT := tw2 (List.mem_of_getElem? (i := 46) rfl) rfl
theorem mw355 : Cond.code yX7_isClock cX7_isClock 2 (some .boolean) ∈ wT := tw2 (List.mem_of_getElem? (i := 47) rfl) rfl
theorem mw356 : Cond.methodLink RX7 111 yX2_isHome ∈ wT := tw2 (List.mem_of_getElem? (i := 48) rfl) rfl
theorem mw357 : Cond.instanceMethod yX2_isHome ∈ wT := tw2 (List.mem_of_getElem? (i := 49) rfl) rfl
theorem mw358 : Cond.selects RX2 yX2_isHome yX2_isHome ∈ wT := tw2 (List.mem_of_getElem? (i := 50) rfl) rfl
theorem mw359 : Cond.code yX2_isHome cX2_isHome 2 (some .boolean) ∈ wT := tw2 (List.mem_of_getElem? (i := 51) rfl) rfl
theorem mw360 : Cond.methodLink RX7 117 yX2_shownBy ∈ wT := tw2 (List.mem_of_getElem? (i := 52) rfl) rfl
theorem mw361 : Cond.instanceMethod yX2_shownBy ∈ wT := tw2 (List.mem_of_getElem? (i := 53) rfl) rfl
theorem mw362 : Cond.selects RX2 yX2_shownBy yX2_shownBy ∈ wT := tw2 (List.mem_of_getElem? (i := 54) rfl) rfl
theorem mw363 : Cond.code yX2_shownBy cX2_shownBy 3 (some .int) ∈ wT := tw2 (List.mem_of_getElem? (i := 55) rfl) rfl
theorem mw364 : Cond.methodLink RX2 61 yX2_trueMinutes ∈ wT := tw2 (List.mem_of_getElem? (i := 56) rfl) rfl
theorem mw365 : Cond.instanceMethod yX2_trueMinutes ∈ wT := tw2 (List.mem_of_getElem? (i := 57) rfl) rfl
theorem mw366 : Cond.selects RX2 yX2_trueMinutes yX2_trueMinutes ∈ wT := tw2 (List.mem_of_getElem? (i := 58) rfl) rfl
theorem mw367 : Cond.code yX2_trueMinutes cX2_trueMinutes 1 (some .int) ∈ wT := tw2 (List.mem_of_getElem? (i := 59) rfl) rfl
theorem mw368 : Cond.methodLink RX7 121 yX2_struckBy ∈ wT := tw2 (List.mem_of_getElem? (i := 60) rfl) rfl
theorem mw369 : Cond.instanceMethod yX2_struckBy ∈ wT := tw2 (List.mem_of_getElem? (i := 61) rfl) rfl
theorem mw370 : Cond.selects RX2 yX2_struckBy yX2_struckBy ∈ wT := tw2 (List.mem_of_getElem? (i := 62) rfl) rfl
theorem mw371 : Cond.code yX2_struckBy cX2_struckBy 2 (some .int) ∈ wT := tw2 (List.mem_of_getElem? (i := 63) rfl) rfl
theorem mw372 : Cond.methodLink RX2 65 yX2_shownBy ∈ wT := tw2 (List.mem_of_getElem? (i := 64) rfl) rfl
theorem mw381 : Cond.methodLink RX7 127 yX7_isWindow ∈ wT := tw2 (List.mem_of_getElem? (i := 73) rfl) rfl
theorem mw383 : Cond.instanceMethod yX7_isWindow ∈ wT := tw2 (List.mem_of_getElem? (i := 75) rfl) rfl
theorem mw384 : Cond.code yX7_isWindow cX7_isWindow 2 (some .boolean) ∈ wT := tw2 (List.mem_of_getElem? (i := 76) rfl) rfl
theorem mw393 : Cond.methodLink RX7 133 yX2_weatherAt ∈ wT := tw2 (List.mem_of_getElem? (i := 85) rfl) rfl
theorem mw394 : Cond.instanceMethod yX2_weatherAt ∈ wT := tw2 (List.mem_of_getElem? (i := 86) rfl) rfl
theorem mw395 : Cond.selects RX2 yX2_weatherAt yX2_weatherAt ∈ wT := tw2 (List.mem_of_getElem? (i := 87) rfl) rfl
theorem mw396 : Cond.code yX2_weatherAt cX2_weatherAt 2 (some .int) ∈ wT := tw2 (List.mem_of_getElem? (i := 88) rfl) rfl
theorem mw405 : Cond.methodLink RX7 143 yX2_become ∈ wT := tw2 (List.mem_of_getElem? (i := 97) rfl) rfl
theorem mw406 : Cond.instanceMethod yX2_become ∈ wT := tw2 (List.mem_of_getElem? (i := 98) rfl) rfl
theorem mw407 : Cond.selects RX2 yX2_become yX2_become ∈ wT := tw2 (List.mem_of_getElem? (i := 99) rfl) rfl
theorem mw408 : Cond.code yX2_become cX2_become 2 none ∈ wT := tw2 (List.mem_of_getElem? (i := 100) rfl) rfl
theorem mw409 : Cond.methodLink RX2 55 arraycopyName ∈ wT := tw2 (List.mem_of_getElem? (i := 101) rfl) rfl
theorem mw410 : Cond.static arraycopyName ∈ wT := tw2 (List.mem_of_getElem? (i := 102) rfl) rfl
theorem mw411 : Cond.native arraycopyName ∈ wT := tw2 (List.mem_of_getElem? (i := 103) rfl) rfl
theorem mw413 : Cond.methodLink RX7 149 yX5_readSigns ∈ wT := tw2 (List.mem_of_getElem? (i := 105) rfl) rfl
theorem mw414 : Cond.instanceMethod yX5_readSigns ∈ wT := tw2 (List.mem_of_getElem? (i := 106) rfl) rfl
theorem mw415 : Cond.selects RX5 yX5_readSigns yX5_readSigns ∈ wT := tw2 (List.mem_of_getElem? (i := 107) rfl) rfl
theorem mw416 : Cond.code yX5_readSigns cX5_readSigns 7 (some .int) ∈ wT := tw2 (List.mem_of_getElem? (i := 108) rfl) rfl
theorem mw417 : Cond.methodLink RX5 28 yX5_rewind ∈ wT := tw2 (List.mem_of_getElem? (i := 109) rfl) rfl
theorem mw419 : Cond.instanceMethod yX5_rewind ∈ wT := tw2 (List.mem_of_getElem? (i := 111) rfl) rfl
theorem mw420 : Cond.code yX5_rewind cX5_rewind 1 none ∈ wT := tw2 (List.mem_of_getElem? (i := 112) rfl) rfl
theorem mw421 : Cond.methodLink RX5 31 yX5_next ∈ wT := tw2 (List.mem_of_getElem? (i := 113) rfl) rfl
theorem mw423 : Cond.instanceMethod yX5_next ∈ wT := tw2 (List.mem_of_getElem? (i := 115) rfl) rfl
theorem mw424 : Cond.code yX5_next cX5_next 1 (some .int) ∈ wT := tw2 (List.mem_of_getElem? (i := 116) rfl) rfl
theorem mw425 : Cond.methodLink RX5 35 yJ0_indexOf_0f7a4 ∈ wT := tw2 (List.mem_of_getElem? (i := 117) rfl) rfl
theorem mw426 : Cond.instanceMethod yJ0_indexOf_0f7a4 ∈ wT := tw2 (List.mem_of_getElem? (i := 118) rfl) rfl
theorem mw427 : Cond.selects RJ0 yJ0_indexOf_0f7a4 yJ0_indexOf_0f7a4 ∈ wT := tw2 (List.mem_of_getElem? (i := 119) rfl) rfl
theorem mw428 : Cond.code yJ0_indexOf_0f7a4 cJ0_indexOf_0f7a4 2 (some .int) ∈ wT := tw2 (List.mem_of_getElem? (i := 120) rfl) rfl
theorem mw429 : Cond.methodLink RJ0 633 yJ0_indexOf_7cf53 ∈ wT := tw2 (List.mem_of_getElem? (i := 121) rfl) rfl
theorem mw430 : Cond.instanceMethod yJ0_indexOf_7cf53 ∈ wT := tw2 (List.mem_of_getElem? (i := 122) rfl) rfl
theorem mw431 : Cond.selects RJ0 yJ0_indexOf_7cf53 yJ0_indexOf_7cf53 ∈ wT := tw2 (List.mem_of_getElem? (i := 123) rfl) rfl
theorem mw432 : Cond.code yJ0_indexOf_7cf53 cJ0_indexOf_7cf53 3 (some .int) ∈ wT := tw2 (List.mem_of_getElem? (i := 124) rfl) rfl
theorem mw433 : Cond.methodLink RJ0 492 yJ0_isLatin1_aae02 ∈ wT := tw2 (List.mem_of_getElem? (i := 125) rfl) rfl
theorem mw434 : Cond.instanceMethod yJ0_isLatin1_aae02 ∈ wT := tw2 (List.mem_of_getElem? (i := 126) rfl) rfl
theorem mw435 : Cond.selects RJ0 yJ0_isLatin1_aae02 yJ0_isLatin1_aae02 ∈ wT := tw2 (List.mem_of_getElem? (i := 127) rfl) rfl
theorem mw436 : Cond.code yJ0_isLatin1_aae02 cJ0_isLatin1_aae02 1 (some .boolean) ∈ wT := tw2 (List.mem_of_getElem? (i := 128) rfl) rfl
theorem mw437 : Cond.fieldLink RJ0 38 "java/lang/String" "COMPACT_STRINGS" "Z" ∈ wT := tw2 (List.mem_of_getElem? (i := 129) rfl) rfl
theorem mw439 : Cond.methodLink RJ0 505 yJ0_length_8abf5 ∈ wT := tw2 (List.mem_of_getElem? (i := 131) rfl) rfl
theorem mw440 : Cond.instanceMethod yJ0_length_8abf5 ∈ wT := tw2 (List.mem_of_getElem? (i := 132) rfl) rfl
theorem mw441 : Cond.selects RJ0 yJ0_length_8abf5 yJ0_length_8abf5 ∈ wT := tw2 (List.mem_of_getElem? (i := 133) rfl) rfl
theorem mw442 : Cond.code yJ0_length_8abf5 cJ0_length_8abf5 1 (some .int) ∈ wT := tw2 (List.mem_of_getElem? (i := 134) rfl) rfl
theorem mw443 : Cond.methodLink RJ0 335 yJ0_coder_7d493 ∈ wT := tw2 (List.mem_of_getElem? (i := 135) rfl) rfl
theorem mw444 : Cond.instanceMethod yJ0_coder_7d493 ∈ wT := tw2 (List.mem_of_getElem? (i := 136) rfl) rfl
theorem mw445 : Cond.selects RJ0 yJ0_coder_7d493 yJ0_coder_7d493 ∈ wT := tw2 (List.mem_of_getElem? (i := 137) rfl) rfl
theorem mw446 : Cond.code yJ0_coder_7d493 cJ0_coder_7d493 1 (some .byte) ∈ wT := tw2 (List.mem_of_getElem? (i := 138) rfl) rfl
theorem mw447 : Cond.methodLink RJ0 637 yJ1_indexOf_4cfef ∈ wT := tw2 (List.mem_of_getElem? (i := 139) rfl) rfl
theorem mw448 : Cond.static yJ1_indexOf_4cfef ∈ wT := tw2 (List.mem_of_getElem? (i := 140) rfl) rfl
theorem mw449 : Cond.code yJ1_indexOf_4cfef cJ1_indexOf_4cfef 4 (some .int) ∈ wT := tw2 (List.mem_of_getElem? (i := 141) rfl) rfl
theorem mw450 : Cond.methodLink RJ1 88 yJ1_canEncode_9a6ad ∈ wT := tw2 (List.mem_of_getElem? (i := 142) rfl) rfl
theorem mw451 : Cond.static yJ1_canEncode_9a6ad ∈ wT := tw2 (List.mem_of_getElem? (i := 143) rfl) rfl
theorem mw452 : Cond.code yJ1_canEncode_9a6ad cJ1_canEncode_9a6ad 1 (some .boolean) ∈ wT := tw2 (List.mem_of_getElem? (i := 144) rfl) rfl
theorem mw453 : Cond.methodLink RJ1 92 Lib.Math.max.name ∈ wT := tw2 (List.mem_of_getElem? (i := 145) rfl) rfl
theorem mw454 : Cond.static Lib.Math.max.name ∈ wT := tw2 (List.mem_of_getElem? (i := 146) rfl) rfl
theorem mw455 : Cond.code Lib.Math.max.name Lib.Math.max.code 2 (some .int) ∈ wT := tw2 (List.mem_of_getElem? (i := 147) rfl) rfl
theorem mw456 : Cond.methodLink RJ1 38 Lib.Math.min.name ∈ wT := tw2 (List.mem_of_getElem? (i := 148) rfl) rfl
theorem mw457 : Cond.static Lib.Math.min.name ∈ wT := tw2 (List.mem_of_getElem? (i := 149) rfl) rfl
theorem mw458 : Cond.code Lib.Math.min.name Lib.Math.min.code 2 (some .int) ∈ wT := tw2 (List.mem_of_getElem? (i := 150) rfl) rfl
theorem mw459 : Cond.methodLink RJ1 95 yJ1_indexOfChar_4cfef ∈ wT := tw2 (List.mem_of_getElem? (i := 151) rfl) rfl
theorem mw460 : Cond.static yJ1_indexOfChar_4cfef ∈ wT := tw2 (List.mem_of_getElem? (i := 152) rfl) rfl
theorem mw461 : Cond.code yJ1_indexOfChar_4cfef cJ1_indexOfChar_4cfef 6 (some .int) ∈ wT := tw2 (List.mem_of_getElem? (i := 153) rfl) rfl
theorem mw511 : Cond.methodLink RX5 41 yX5_here ∈ wT := tw2 (List.mem_of_getElem? (i := 203) rfl) rfl
theorem mw513 : Cond.instanceMethod yX5_here ∈ wT := tw2 (List.mem_of_getElem? (i := 205) rfl) rfl
theorem mw514 : Cond.code yX5_here cX5_here 1 (some .int) ∈ wT := tw2 (List.mem_of_getElem? (i := 206) rfl) rfl
theorem mw515 : Cond.methodLink RX5 44 yX5_skip ∈ wT := tw2 (List.mem_of_getElem? (i := 207) rfl) rfl
theorem mw517 : Cond.instanceMethod yX5_skip ∈ wT := tw2 (List.mem_of_getElem? (i := 209) rfl) rfl
theorem mw518 : Cond.code yX5_skip cX5_skip 1 none ∈ wT := tw2 (List.mem_of_getElem? (i := 210) rfl) rfl
theorem mw519 : Cond.methodLink RX7 156 yX2_toStart ∈ wT := tw2 (List.mem_of_getElem? (i := 211) rfl) rfl
theorem mw520 : Cond.instanceMethod yX2_toStart ∈ wT := tw2 (List.mem_of_getElem? (i := 212) rfl) rfl
theorem mw521 : Cond.selects RX2 yX2_toStart yX2_toStart ∈ wT := tw2 (List.mem_of_getElem? (i := 213) rfl) rfl
theorem mw522 : Cond.code yX2_toStart cX2_toStart 2 none ∈ wT := tw2 (List.mem_of_getElem? (i := 214) rfl) rfl
theorem mw533 : Cond.methodLink RX7 167 yX2_hush ∈ wT := tw2 (List.mem_of_getElem? (i := 225) rfl) rfl
theorem mw534 : Cond.instanceMethod yX2_hush ∈ wT := tw2 (List.mem_of_getElem? (i := 226) rfl) rfl
theorem mw535 : Cond.selects RX2 yX2_hush yX2_hush ∈ wT := tw2 (List.mem_of_getElem? (i := 227) rfl) rfl
theorem mw536 : Cond.code yX2_hush cX2_hush 1 none ∈ wT := tw2 (List.mem_of_getElem? (i := 228) rfl) rfl
theorem mw537 : Cond.methodLink RX7 170 yX5_readStreet ∈ wT := tw2 (List.mem_of_getElem? (i := 229) rfl) rfl
theorem mw538 : Cond.instanceMethod yX5_readStreet ∈ wT := tw2 (List.mem_of_getElem? (i := 230) rfl) rfl
theorem mw539 : Cond.selects RX5 yX5_readStreet yX5_readStreet ∈ wT := tw2 (List.mem_of_getElem? (i := 231) rfl) rfl
theorem mw540 : Cond.code yX5_readStreet cX5_readStreet 3 (some .int) ∈ wT := tw2 (List.mem_of_getElem? (i := 232) rfl) rfl
theorem mw541 : Cond.methodLink RX5 47 yX5_readClock ∈ wT := tw2 (List.mem_of_getElem? (i := 233) rfl) rfl
theorem mw543 : Cond.instanceMethod yX5_readClock ∈ wT := tw2 (List.mem_of_getElem? (i := 235) rfl) rfl
theorem mw544 : Cond.code yX5_readClock cX5_readClock 6 (some .boolean) ∈ wT := tw2 (List.mem_of_getElem? (i := 236) rfl) rfl
theorem mw546 : Cond.methodLink RX5 57 yX5_fails ∈ wT := tw2 (List.mem_of_getElem? (i := 238) rfl) rfl
theorem mw548 : Cond.instanceMethod yX5_fails ∈ wT := tw3 (List.mem_of_getElem? (i := 0) rfl) rfl
theorem mw549 : Cond.code yX5_fails cX5_fails 2 (some .boolean) ∈ wT := tw3 (List.mem_of_getElem? (i := 1) rfl) rfl
theorem mw550 : Cond.methodLink RX5 61 yX5_number ∈ wT := tw3 (List.mem_of_getElem? (i := 2) rfl) rfl
theorem mw552 : Cond.instanceMethod yX5_number ∈ wT := tw3 (List.mem_of_getElem? (i := 4) rfl) rfl
theorem mw553 : Cond.code yX5_number cX5_number 5 (some .int) ∈ wT := tw3 (List.mem_of_getElem? (i := 5) rfl) rfl
theorem mw554 : Cond.methodLink RX5 89 yX5_isDigit ∈ wT := tw3 (List.mem_of_getElem? (i := 6) rfl) rfl
theorem mw555 : Cond.static yX5_isDigit ∈ wT := tw3 (List.mem_of_getElem? (i := 7) rfl) rfl
theorem mw556 : Cond.code yX5_isDigit cX5_isDigit 1 (some .boolean) ∈ wT := tw3 (List.mem_of_getElem? (i := 8) rfl) rfl
theorem mw557 : Cond.constant RX5 88 (100000) ∈ wT := tw3 (List.mem_of_getElem? (i := 9) rfl) rfl
theorem mw558 : Cond.methodLink RX5 92 Lib.Math.min.name ∈ wT := tw3 (List.mem_of_getElem? (i := 10) rfl) rfl
theorem mw559 : Cond.methodLink RX5 65 yX2_add ∈ wT := tw3 (List.mem_of_getElem? (i := 11) rfl) rfl
theorem mw560 : Cond.methodLink RX5 51 yX5_takes ∈ wT := tw3 (List.mem_of_getElem? (i := 12) rfl) rfl
theorem mw562 : Cond.instanceMethod yX5_takes ∈ wT := tw3 (List.mem_of_getElem? (i := 14) rfl) rfl
theorem mw563 : Cond.code yX5_takes cX5_takes 2 (some .boolean) ∈ wT := tw3 (List.mem_of_getElem? (i := 15) rfl) rfl
theorem mw568 : Cond.methodLink RX7 175 yX5_readDay ∈ wT := tw3 (List.mem_of_getElem? (i := 20) rfl) rfl
theorem mw569 : Cond.instanceMethod yX5_readDay ∈ wT := tw3 (List.mem_of_getElem? (i := 21) rfl) rfl
theorem mw570 : Cond.selects RX5 yX5_readDay yX5_readDay ∈ wT := tw3 (List.mem_of_getElem? (i := 22) rfl) rfl
theorem mw571 : Cond.code yX5_readDay cX5_readDay 3 (some .int) ∈ wT := tw3 (List.mem_of_getElem? (i := 23) rfl) rfl
theorem mw572 : Cond.methodLink RX5 74 yX5_readAct ∈ wT := tw3 (List.mem_of_getElem? (i := 24) rfl) rfl
theorem mw574 : Cond.instanceMethod yX5_readAct ∈ wT := tw3 (List.mem_of_getElem? (i := 26) rfl) rfl
theorem mw575 : Cond.code yX5_readAct cX5_readAct 3 (some .boolean) ∈ wT := tw3 (List.mem_of_getElem? (i := 27) rfl) rfl
theorem mw576 : Cond.methodLink RX5 78 yX1_add ∈ wT := tw3 (List.mem_of_getElem? (i := 28) rfl) rfl
theorem mw577 : Cond.instanceMethod yX1_add ∈ wT := tw3 (List.mem_of_getElem? (i := 29) rfl) rfl
theorem mw578 : Cond.selects RX1 yX1_add yX1_add ∈ wT := tw3 (List.mem_of_getElem? (i := 30) rfl) rfl
theorem mw579 : Cond.code yX1_add cX1_add 4 none ∈ wT := tw3 (List.mem_of_getElem? (i := 31) rfl) rfl
theorem mw580 : Cond.methodLink RX5 81 yX5_readBreath ∈ wT := tw3 (List.mem_of_getElem? (i := 32) rfl) rfl
theorem mw582 : Cond.instanceMethod yX5_readBreath ∈ wT := tw3 (List.mem_of_getElem? (i := 34) rfl) rfl
theorem mw583 : Cond.code yX5_readBreath cX5_readBreath 3 (some .boolean) ∈ wT := tw3 (List.mem_of_getElem? (i := 35) rfl) rfl
theorem mw584 : Cond.methodLink RX5 84 yX5_readByClock ∈ wT := tw3 (List.mem_of_getElem? (i := 36) rfl) rfl
theorem mw586 : Cond.instanceMethod yX5_readByClock ∈ wT := tw3 (List.mem_of_getElem? (i := 38) rfl) rfl
theorem mw587 : Cond.code yX5_readByClock cX5_readByClock 6 (some .boolean) ∈ wT := tw3 (List.mem_of_getElem? (i := 39) rfl) rfl
theorem mw588 : Cond.methodLink RX7 189 yX7_perform ∈ wT := tw3 (List.mem_of_getElem? (i := 40) rfl) rfl
theorem mw590 : Cond.instanceMethod yX7_perform ∈ wT := tw3 (List.mem_of_getElem? (i := 42) rfl) rfl
theorem mw591 : Cond.code yX7_perform cX7_perform 4 (some .int) ∈ wT := tw3 (List.mem_of_getElem? (i := 43) rfl) rfl
theorem mw592 : Cond.methodLink RX7 339 yX7_wind ∈ wT := tw3 (List.mem_of_getElem? (i := 44) rfl) rfl
theorem mw593 : Cond.instanceMethod yX7_wind ∈ wT := tw3 (List.mem_of_getElem? (i := 45) rfl) rfl
theorem mw594 : Cond.selects RX7 yX7_wind yX7_wind ∈ wT := tw3 (List.mem_of_getElem? (i := 46) rfl) rfl
theorem mw595 : Cond.code yX7_wind cX7_wind 3 (some .int) ∈ wT := tw3 (List.mem_of_getElem? (i := 47) rfl) rfl
theorem mw596 : Cond.methodLink RX7 215 yX3_note ∈ wT := tw3 (List.mem_of_getElem? (i := 48) rfl) rfl
theorem mw597 : Cond.instanceMethod yX3_note ∈ wT := tw3 (List.mem_of_getElem? (i := 49) rfl) rfl
theorem mw598 : Cond.selects RX3 yX3_note yX3_note ∈ wT := tw3 (List.mem_of_getElem? (i := 50) rfl) rfl
theorem mw599 : Cond.code yX3_note cX3_note 4 none ∈ wT := tw3 (List.mem_of_getElem? (i := 51) rfl) rfl
theorem mw600 : Cond.methodLink RX3 31 yX3_forgetOldest ∈ wT := tw3 (List.mem_of_getElem? (i := 52) rfl) rfl
theorem mw602 : Cond.instanceMethod yX3_forgetOldest ∈ wT := tw3 (List.mem_of_getElem? (i := 54) rfl) rfl
theorem mw603 : Cond.code yX3_forgetOldest cX3_forgetOldest 1 none ∈ wT := tw3 (List.mem_of_getElem? (i := 55) rfl) rfl
theorem mw604 : Cond.methodLink RX3 25 arraycopyName ∈ wT := tw3 (List.mem_of_getElem? (i := 56) rfl) rfl
theorem mw605 : Cond.methodLink RX7 219 yX2_windOn ∈ wT := tw3 (List.mem_of_getElem? (i := 57) rfl) rfl
theorem mw606 : Cond.instanceMethod yX2_windOn ∈ wT := tw3 (List.mem_of_getElem? (i := 58) rfl) rfl
theorem mw607 : Cond.selects RX2 yX2_windOn yX2_windOn ∈ wT := tw3 (List.mem_of_getElem? (i := 59) rfl) rfl
theorem mw608 : Cond.code yX2_windOn cX2_windOn 3 none ∈ wT := tw3 (List.mem_of_getElem? (i := 60) rfl) rfl
theorem mw609 : Cond.methodLink RX2 82 Lib.Math.min.name ∈ wT := tw3 (List.mem_of_getElem? (i := 61) rfl) rfl
theorem mw610 : Cond.methodLink RX7 342 yX7_turn ∈ wT := tw3 (List.mem_of_getElem? (i := 62) rfl) rfl
theorem mw611 : Cond.instanceMethod yX7_turn ∈ wT := tw3 (List.mem_of_getElem? (i := 63) rfl) rfl
theorem mw612 : Cond.selects RX7 yX7_turn yX7_turn ∈ wT := tw3 (List.mem_of_getElem? (i := 64) rfl) rfl
theorem mw613 : Cond.code yX7_turn cX7_turn 3 (some .int) ∈ wT := tw3 (List.mem_of_getElem? (i := 65) rfl) rfl
theorem mw614 : Cond.methodLink RX7 223 yX2_turnOn ∈ wT := tw3 (List.mem_of_getElem? (i := 66) rfl) rfl
theorem mw615 : Cond.instanceMethod yX2_turnOn ∈ wT := tw3 (List.mem_of_getElem? (i := 67) rfl) rfl
theorem mw616 : Cond.selects RX2 yX2_turnOn yX2_turnOn ∈ wT := tw3 (List.mem_of_getElem? (i := 68) rfl) rfl
theorem mw617 : Cond.code yX2_turnOn cX2_turnOn 3 none ∈ wT := tw3 (List.mem_of_getElem? (i := 69) rfl) rfl
theorem mw618 : Cond.methodLink RX7 345 yX7_breathe ∈ wT := tw3 (List.mem_of_getElem? (i := 70) rfl) rfl
theorem mw619 : Cond.instanceMethod yX7_breathe ∈ wT := tw3 (List.mem_of_getElem? (i := 71) rfl) rfl
theorem mw620 : Cond.selects RX7 yX7_breathe yX7_breathe ∈ wT := tw3 (List.mem_of_getElem? (i := 72) rfl) rfl
theorem mw621 : Cond.code yX7_breathe cX7_breathe 3 (some .int) ∈ wT := tw3 (List.mem_of_getElem? (i := 73) rfl) rfl
theorem mw622 : Cond.methodLink RX7 348 yX7_hour ∈ wT := tw3 (List.mem_of_getElem? (i := 74) rfl) rfl
theorem mw623 : Cond.instanceMethod yX7_hour ∈ wT := tw3 (List.mem_of_getElem? (i := 75) rfl) rfl
theorem mw624 : Cond.selects RX7 yX7_hour yX7_hour ∈ wT := tw3 (List.mem_of_getElem? (i := 76) rfl) rfl
theorem mw625 : Cond.code yX7_hour cX7_hour 1 (some .int) ∈ wT := tw3 (List.mem_of_getElem? (i := 77) rfl) rfl
theorem mw626 : Cond.methodLink RX7 212 yX2_pass ∈ wT := tw3 (List.mem_of_getElem? (i := 78) rfl) rfl
theorem mw627 : Cond.instanceMethod yX2_pass ∈ wT := tw3 (List.mem_of_getElem? (i := 79) rfl) rfl
theorem mw628 : Cond.selects RX2 yX2_pass yX2_pass ∈ wT := tw3 (List.mem_of_getElem? (i := 80) rfl) rfl
theorem mw629 : Cond.code yX2_pass cX2_pass 6 (some .int) ∈ wT := tw3 (List.mem_of_getElem? (i := 81) rfl) rfl
theorem mw630 : Cond.methodLink RX2 88 yX2_weatherAt ∈ wT := tw3 (List.mem_of_getElem? (i := 82) rfl) rfl
theorem mw631 : Cond.methodLink RX2 91 yX2_hush ∈ wT := tw3 (List.mem_of_getElem? (i := 83) rfl) rfl
theorem mw632 : Cond.methodLink RX2 75 yX2_isHome ∈ wT := tw3 (List.mem_of_getElem? (i := 84) rfl) rfl
theorem mw633 : Cond.methodLink RX2 69 yX2_struckBy ∈ wT := tw3 (List.mem_of_getElem? (i := 85) rfl) rfl
theorem mw634 : Cond.methodLink RX2 94 yX2_mayGo ∈ wT := tw3 (List.mem_of_getElem? (i := 86) rfl) rfl
theorem mw636 : Cond.instanceMethod yX2_mayGo ∈ wT := tw3 (List.mem_of_getElem? (i := 88) rfl) rfl
theorem mw637 : Cond.code yX2_mayGo cX2_mayGo 5 (some .boolean) ∈ wT := tw3 (List.mem_of_getElem? (i := 89) rfl) rfl
theorem mw638 : Cond.methodLink RX2 98 yX2_go ∈ wT := tw3 (List.mem_of_getElem? (i := 90) rfl) rfl
theorem mw640 : Cond.instanceMethod yX2_go ∈ wT := tw3 (List.mem_of_getElem? (i := 92) rfl) rfl
theorem mw641 : Cond.code yX2_go cX2_go 5 none ∈ wT := tw3 (List.mem_of_getElem? (i := 93) rfl) rfl
theorem mw642 : Cond.methodLink RX2 72 yX2_strokesFor ∈ wT := tw3 (List.mem_of_getElem? (i := 94) rfl) rfl
theorem mw643 : Cond.static yX2_strokesFor ∈ wT := tw3 (List.mem_of_getElem? (i := 95) rfl) rfl
theorem mw644 : Cond.code yX2_strokesFor cX2_strokesFor 1 (some .int) ∈ wT := tw3 (List.mem_of_getElem? (i := 96) rfl) rfl
theorem mw645 : Cond.methodLink RX2 102 yX2_run ∈ wT := tw3 (List.mem_of_getElem? (i := 97) rfl) rfl
theorem mw647 : Cond.instanceMethod yX2_run ∈ wT := tw3 (List.mem_of_getElem? (i := 99) rfl) rfl
theorem mw648 : Cond.code yX2_run cX2_run 2 none ∈ wT := tw3 (List.mem_of_getElem? (i := 100) rfl) rfl
theorem mw649 : Cond.methodLink RX2 113 yX2_turnOn ∈ wT := tw3 (List.mem_of_getElem? (i := 101) rfl) rfl
theorem mw654 : Cond.methodLink RX7 196 yX2_homeCount ∈ wT := tw3 (List.mem_of_getElem? (i := 106) rfl) rfl
theorem mw655 : Cond.instanceMethod yX2_homeCount ∈ wT := tw3 (List.mem_of_getElem? (i := 107) rfl) rfl
theorem mw656 : Cond.selects RX2 yX2_homeCount yX2_homeCount ∈ wT := tw3 (List.mem_of_getElem? (i := 108) rfl) rfl
theorem mw657 : Cond.code yX2_homeCount cX2_homeCount 3 (some .int) ∈ wT := tw3 (List.mem_of_getElem? (i := 109) rfl) rfl
theorem mw658 : Cond.methodLink RX7 203 yX2_tiedPairs ∈ wT := tw3 (List.mem_of_getElem? (i := 110) rfl) rfl
theorem mw659 : Cond.instanceMethod yX2_tiedPairs ∈ wT := tw3 (List.mem_of_getElem? (i := 111) rfl) rfl
theorem mw660 : Cond.selects RX2 yX2_tiedPairs yX2_tiedPairs ∈ wT := tw3 (List.mem_of_getElem? (i := 112) rfl) rfl
theorem mw661 : Cond.code yX2_tiedPairs cX2_tiedPairs 4 (some .int) ∈ wT := tw3 (List.mem_of_getElem? (i := 113) rfl) rfl
theorem mw662 : Cond.methodLink RX2 117 yX2_isAhead ∈ wT := tw3 (List.mem_of_getElem? (i := 114) rfl) rfl
theorem mw664 : Cond.instanceMethod yX2_isAhead ∈ wT := tw3 (List.mem_of_getElem? (i := 116) rfl) rfl
theorem mw665 : Cond.code yX2_isAhead cX2_isAhead 3 (some .boolean) ∈ wT := tw3 (List.mem_of_getElem? (i := 117) rfl) rfl
theorem mw674 : Cond.methodLink RX7 209 yX2_placeOf ∈ wT := tw3 (List.mem_of_getElem? (i := 126) rfl) rfl
theorem mw675 : Cond.instanceMethod yX2_placeOf ∈ wT := tw3 (List.mem_of_getElem? (i := 127) rfl) rfl
theorem mw676 : Cond.selects RX2 yX2_placeOf yX2_placeOf ∈ wT := tw3 (List.mem_of_getElem? (i := 128) rfl) rfl
theorem mw677 : Cond.code yX2_placeOf cX2_placeOf 4 (some .int) ∈ wT := tw3 (List.mem_of_getElem? (i := 129) rfl) rfl
theorem mw690 : Cond.methodLink RX7 226 yX3_takeBack ∈ wT := tw3 (List.mem_of_getElem? (i := 142) rfl) rfl
theorem mw691 : Cond.instanceMethod yX3_takeBack ∈ wT := tw3 (List.mem_of_getElem? (i := 143) rfl) rfl
theorem mw692 : Cond.selects RX3 yX3_takeBack yX3_takeBack ∈ wT := tw3 (List.mem_of_getElem? (i := 144) rfl) rfl
theorem mw693 : Cond.code yX3_takeBack cX3_takeBack 3 none ∈ wT := tw3 (List.mem_of_getElem? (i := 145) rfl) rfl
theorem mw702 : Cond.methodLink RX7 229 yX7_isSpan ∈ wT := tw3 (List.mem_of_getElem? (i := 154) rfl) rfl
theorem mw703 : Cond.static yX7_isSpan ∈ wT := tw3 (List.mem_of_getElem? (i := 155) rfl) rfl
theorem mw704 : Cond.code yX7_isSpan cX7_isSpan 1 (some .boolean) ∈ wT := tw3 (List.mem_of_getElem? (i := 156) rfl) rfl
theorem mw705 : Cond.methodLink RX7 232 yX7_foresee ∈ wT := tw3 (List.mem_of_getElem? (i := 157) rfl) rfl
theorem mw707 : Cond.instanceMethod yX7_foresee ∈ wT := tw3 (List.mem_of_getElem? (i := 159) rfl) rfl
theorem mw708 : Cond.code yX7_foresee cX7_foresee 3 none ∈ wT := tw3 (List.mem_of_getElem? (i := 160) rfl) rfl
theorem mw709 : Cond.methodLink RX7 271 yX2_passMany ∈ wT := tw3 (List.mem_of_getElem? (i := 161) rfl) rfl
theorem mw710 : Cond.instanceMethod yX2_passMany ∈ wT := tw3 (List.mem_of_getElem? (i := 162) rfl) rfl
theorem mw711 : Cond.selects RX2 yX2_passMany yX2_passMany ∈ wT := tw3 (List.mem_of_getElem? (i := 163) rfl) rfl
theorem mw712 : Cond.code yX2_passMany cX2_passMany 4 none ∈ wT := tw3 (List.mem_of_getElem? (i := 164) rfl) rfl
theorem mw713 : Cond.methodLink RX2 106 yX2_allHome ∈ wT := tw3 (List.mem_of_getElem? (i := 165) rfl) rfl
theorem mw714 : Cond.instanceMethod yX2_allHome ∈ wT := tw3 (List.mem_of_getElem? (i := 166) rfl) rfl
theorem mw715 : Cond.selects RX2 yX2_allHome yX2_allHome ∈ wT := tw3 (List.mem_of_getElem? (i := 167) rfl) rfl
theorem mw716 : Cond.code yX2_allHome cX2_allHome 1 (some .boolean) ∈ wT := tw3 (List.mem_of_getElem? (i := 168) rfl) rfl
theorem mw717 : Cond.methodLink RX2 79 yX2_homeCount ∈ wT := tw3 (List.mem_of_getElem? (i := 169) rfl) rfl
theorem mw718 : Cond.methodLink RX2 110 yX2_pass ∈ wT := tw3 (List.mem_of_getElem? (i := 170) rfl) rfl
theorem mw723 : Cond.methodLink RX7 235 yX2_leaders ∈ wT := tw3 (List.mem_of_getElem? (i := 175) rfl) rfl
theorem mw724 : Cond.instanceMethod yX2_leaders ∈ wT := tw3 (List.mem_of_getElem? (i := 176) rfl) rfl
theorem mw725 : Cond.selects RX2 yX2_leaders yX2_leaders ∈ wT := tw3 (List.mem_of_getElem? (i := 177) rfl) rfl
theorem mw726 : Cond.code yX2_leaders cX2_leaders 3 (some .int) ∈ wT := tw3 (List.mem_of_getElem? (i := 178) rfl) rfl
theorem mw727 : Cond.methodLink RX2 121 yX2_placeOf ∈ wT := tw3 (List.mem_of_getElem? (i := 179) rfl) rfl
theorem mw732 : Cond.methodLink RX7 238 yX7_hoursUntilHome ∈ wT := tw3 (List.mem_of_getElem? (i := 184) rfl) rfl
theorem mw734 : Cond.instanceMethod yX7_hoursUntilHome ∈ wT := tw3 (List.mem_of_getElem? (i := 186) rfl) rfl
theorem mw735 : Cond.code yX7_hoursUntilHome cX7_hoursUntilHome 4 (some .int) ∈ wT := tw3 (List.mem_of_getElem? (i := 187) rfl) rfl
theorem mw740 : Cond.methodLink RX7 242 yX2_allHome ∈ wT := tw3 (List.mem_of_getElem? (i := 192) rfl) rfl
theorem mw745 : Cond.methodLink RX7 246 yX7_isAim ∈ wT := tw3 (List.mem_of_getElem? (i := 197) rfl) rfl
theorem mw747 : Cond.instanceMethod yX7_isAim ∈ wT := tw3 (List.mem_of_getElem? (i := 199) rfl) rfl
theorem mw748 : Cond.code yX7_isAim cX7_isAim 4 (some .boolean) ∈ wT := tw3 (List.mem_of_getElem? (i := 200) rfl) rfl
theorem mw749 : Cond.methodLink RX7 249 yX7_usefulTurns ∈ wT := tw3 (List.mem_of_getElem? (i := 201) rfl) rfl
theorem mw751 : Cond.instanceMethod yX7_usefulTurns ∈ wT := tw3 (List.mem_of_getElem? (i := 203) rfl) rfl
theorem mw752 : Cond.code yX7_usefulTurns cX7_usefulTurns 4 (some .int) ∈ wT := tw3 (List.mem_of_getElem? (i := 204) rfl) rfl
theorem mw753 : Cond.methodLink RX7 256 Lib.Math.min.name ∈ wT := tw3 (List.mem_of_getElem? (i := 205) rfl) rfl
theorem mw754 : Cond.methodLink RX7 261 Lib.Math.max.name ∈ wT := tw3 (List.mem_of_getElem? (i := 206) rfl) rfl
theorem mw755 : Cond.methodLink RX7 252 yX7_comesTo ∈ wT := tw3 (List.mem_of_getElem? (i := 207) rfl) rfl
theorem mw757 : Cond.instanceMethod yX7_comesTo ∈ wT := tw3 (List.mem_of_getElem? (i := 209) rfl) rfl
theorem mw758 : Cond.code yX7_comesTo cX7_comesTo 6 (some .boolean) ∈ wT := tw3 (List.mem_of_getElem? (i := 210) rfl) rfl
theorem mw771 : Cond.methodLink RX7 264 yX7_fillGains ∈ wT := tw3 (List.mem_of_getElem? (i := 223) rfl) rfl
theorem mw773 : Cond.instanceMethod yX7_fillGains ∈ wT := tw3 (List.mem_of_getElem? (i := 225) rfl) rfl
theorem mw774 : Cond.code yX7_fillGains cX7_fillGains 6 none ∈ wT := tw3 (List.mem_of_getElem? (i := 226) rfl) rfl
theorem mw775 : Cond.methodLink RX7 267 yX7_isRest ∈ wT := tw3 (List.mem_of_getElem? (i := 227) rfl) rfl
theorem mw777 : Cond.instanceMethod yX7_isRest ∈ wT := tw3 (List.mem_of_getElem? (i := 229) rfl) rfl
theorem mw778 : Cond.code yX7_isRest cX7_isRest 5 (some .boolean) ∈ wT := tw3 (List.mem_of_getElem? (i := 230) rfl) rfl
theorem mw787 : Cond.methodLink RX7 274 yX2_trueMinutes ∈ wT := tw3 (List.mem_of_getElem? (i := 239) rfl) rfl
theorem mw800 : Cond.methodLink RX7 277 yX7_isSet ∈ wT := tw4 (List.mem_of_getElem? (i := 12) rfl) rfl
theorem mw802 : Cond.instanceMethod yX7_isSet ∈ wT := tw4 (List.mem_of_getElem? (i := 14) rfl) rfl
theorem mw803 : Cond.code yX7_isSet cX7_isSet 2 (some .boolean) ∈ wT := tw4 (List.mem_of_getElem? (i := 15) rfl) rfl
theorem mw804 : Cond.methodLink RX7 280 yX2_strokesOfSet ∈ wT := tw4 (List.mem_of_getElem? (i := 16) rfl) rfl
theorem mw805 : Cond.instanceMethod yX2_strokesOfSet ∈ wT := tw4 (List.mem_of_getElem? (i := 17) rfl) rfl
theorem mw806 : Cond.selects RX2 yX2_strokesOfSet yX2_strokesOfSet ∈ wT := tw4 (List.mem_of_getElem? (i := 18) rfl) rfl
theorem mw807 : Cond.code yX2_strokesOfSet cX2_strokesOfSet 4 (some .int) ∈ wT := tw4 (List.mem_of_getElem? (i := 19) rfl) rfl
theorem mw812 : Cond.methodLink RX7 283 yX0_add ∈ wT := tw4 (List.mem_of_getElem? (i := 24) rfl) rfl
theorem mw813 : Cond.instanceMethod yX0_add ∈ wT := tw4 (List.mem_of_getElem? (i := 25) rfl) rfl
theorem mw814 : Cond.selects RX0 yX0_add yX0_add ∈ wT := tw4 (List.mem_of_getElem? (i := 26) rfl) rfl
theorem mw815 : Cond.code yX0_add cX0_add 4 (some .int) ∈ wT := tw4 (List.mem_of_getElem? (i := 27) rfl) rfl
theorem mw820 : Cond.methodLink RX7 285 yX0_share ∈ wT := tw4 (List.mem_of_getElem? (i := 32) rfl) rfl
theorem mw821 : Cond.instanceMethod yX0_share ∈ wT := tw4 (List.mem_of_getElem? (i := 33) rfl) rfl
theorem mw822 : Cond.selects RX0 yX0_share yX0_share ∈ wT := tw4 (List.mem_of_getElem? (i := 34) rfl) rfl
theorem mw823 : Cond.code yX0_share cX0_share 6 (some .int) ∈ wT := tw4 (List.mem_of_getElem? (i := 35) rfl) rfl
theorem mw824 : Cond.methodLink RX0 28 yX0_wins ∈ wT := tw4 (List.mem_of_getElem? (i := 36) rfl) rfl
theorem mw826 : Cond.instanceMethod yX0_wins ∈ wT := tw4 (List.mem_of_getElem? (i := 38) rfl) rfl
theorem mw827 : Cond.code yX0_wins cX0_wins 3 (some .boolean) ∈ wT := tw4 (List.mem_of_getElem? (i := 39) rfl) rfl
theorem mw836 : Cond.methodLink RX7 288 yX6_drawWeather ∈ wT := tw4 (List.mem_of_getElem? (i := 48) rfl) rfl
theorem mw837 : Cond.instanceMethod yX6_drawWeather ∈ wT := tw4 (List.mem_of_getElem? (i := 49) rfl) rfl
theorem mw838 : Cond.selects RX6 yX6_drawWeather yX6_drawWeather ∈ wT := tw4 (List.mem_of_getElem? (i := 50) rfl) rfl
theorem mw839 : Cond.code yX6_drawWeather cX6_drawWeather 1 (some .int) ∈ wT := tw4 (List.mem_of_getElem? (i := 51) rfl) rfl
theorem mw840 : Cond.constant RX6 44 (1103515245) ∈ wT := tw4 (List.mem_of_getElem? (i := 52) rfl) rfl
theorem mw841 : Cond.constant RX6 45 (2147483647) ∈ wT := tw4 (List.mem_of_getElem? (i := 53) rfl) rfl
theorem mw842 : Cond.constant RX6 46 (65536) ∈ wT := tw4 (List.mem_of_getElem? (i := 54) rfl) rfl
theorem mw851 : Cond.methodLink RX7 294 yX6_become ∈ wT := tw4 (List.mem_of_getElem? (i := 63) rfl) rfl
theorem mw852 : Cond.instanceMethod yX6_become ∈ wT := tw4 (List.mem_of_getElem? (i := 64) rfl) rfl
theorem mw853 : Cond.selects RX6 yX6_become yX6_become ∈ wT := tw4 (List.mem_of_getElem? (i := 65) rfl) rfl
theorem mw854 : Cond.code yX6_become cX6_become 2 none ∈ wT := tw4 (List.mem_of_getElem? (i := 66) rfl) rfl
theorem mw855 : Cond.methodLink RX6 34 yX2_become ∈ wT := tw4 (List.mem_of_getElem? (i := 67) rfl) rfl
theorem mw856 : Cond.methodLink RX6 38 yX0_become ∈ wT := tw4 (List.mem_of_getElem? (i := 68) rfl) rfl
theorem mw857 : Cond.instanceMethod yX0_become ∈ wT := tw4 (List.mem_of_getElem? (i := 69) rfl) rfl
theorem mw858 : Cond.selects RX0 yX0_become yX0_become ∈ wT := tw4 (List.mem_of_getElem? (i := 70) rfl) rfl
theorem mw859 : Cond.code yX0_become cX0_become 2 none ∈ wT := tw4 (List.mem_of_getElem? (i := 71) rfl) rfl
theorem mw860 : Cond.methodLink RX0 22 arraycopyName ∈ wT := tw4 (List.mem_of_getElem? (i := 72) rfl) rfl
theorem mw861 : Cond.methodLink RX6 41 yX3_become ∈ wT := tw4 (List.mem_of_getElem? (i := 73) rfl) rfl
theorem mw862 : Cond.instanceMethod yX3_become ∈ wT := tw4 (List.mem_of_getElem? (i := 74) rfl) rfl
theorem mw863 : Cond.selects RX3 yX3_become yX3_become ∈ wT := tw4 (List.mem_of_getElem? (i := 75) rfl) rfl
theorem mw864 : Cond.code yX3_become cX3_become 2 none ∈ wT := tw4 (List.mem_of_getElem? (i := 76) rfl) rfl
theorem mw873 : Cond.methodLink RX7 297 yX7_isSheet ∈ wT := tw4 (List.mem_of_getElem? (i := 85) rfl) rfl
theorem mw874 : Cond.static yX7_isSheet ∈ wT := tw4 (List.mem_of_getElem? (i := 86) rfl) rfl
theorem mw875 : Cond.code yX7_isSheet cX7_isSheet 1 (some .boolean) ∈ wT := tw4 (List.mem_of_getElem? (i := 87) rfl) rfl
theorem mw876 : Cond.methodLink RX7 300 yX7_isLane ∈ wT := tw4 (List.mem_of_getElem? (i := 88) rfl) rfl
theorem mw877 : Cond.static yX7_isLane ∈ wT := tw4 (List.mem_of_getElem? (i := 89) rfl) rfl
theorem mw878 : Cond.code yX7_isLane cX7_isLane 1 (some .boolean) ∈ wT := tw4 (List.mem_of_getElem? (i := 90) rfl) rfl
theorem mw879 : Cond.methodLink RX7 303 yX4_refusal ∈ wT := tw4 (List.mem_of_getElem? (i := 91) rfl) rfl
theorem mw880 : Cond.instanceMethod yX4_refusal ∈ wT := tw4 (List.mem_of_getElem? (i := 92) rfl) rfl
theorem mw881 : Cond.selects RX4 yX4_refusal yX4_refusal ∈ wT := tw4 (List.mem_of_getElem? (i := 93) rfl) rfl
theorem mw882 : Cond.code yX4_refusal cX4_refusal 4 (some .int) ∈ wT := tw4 (List.mem_of_getElem? (i := 94) rfl) rfl
theorem mw883 : Cond.methodLink RX4 26 yX4_holds ∈ wT := tw4 (List.mem_of_getElem? (i := 95) rfl) rfl
theorem mw884 : Cond.instanceMethod yX4_holds ∈ wT := tw4 (List.mem_of_getElem? (i := 96) rfl) rfl
theorem mw885 : Cond.selects RX4 yX4_holds yX4_holds ∈ wT := tw4 (List.mem_of_getElem? (i := 97) rfl) rfl
theorem mw886 : Cond.code yX4_holds cX4_holds 3 (some .boolean) ∈ wT := tw4 (List.mem_of_getElem? (i := 98) rfl) rfl
theorem mw887 : Cond.constantLong RX7 310 (12) ∈ wT := tw4 (List.mem_of_getElem? (i := 99) rfl) rfl
theorem mw892 : Cond.methodLink RX7 312 yX4_put ∈ wT := tw4 (List.mem_of_getElem? (i := 104) rfl) rfl
theorem mw893 : Cond.instanceMethod yX4_put ∈ wT := tw4 (List.mem_of_getElem? (i := 105) rfl) rfl
theorem mw894 : Cond.selects RX4 yX4_put yX4_put ∈ wT := tw4 (List.mem_of_getElem? (i := 106) rfl) rfl
theorem mw895 : Cond.code yX4_put cX4_put 4 none ∈ wT := tw4 (List.mem_of_getElem? (i := 107) rfl) rfl
theorem mw900 : Cond.methodLink RX7 316 yX7_isFilmed ∈ wT := tw4 (List.mem_of_getElem? (i := 112) rfl) rfl
theorem mw902 : Cond.instanceMethod yX7_isFilmed ∈ wT := tw4 (List.mem_of_getElem? (i := 114) rfl) rfl
theorem mw903 : Cond.code yX7_isFilmed cX7_isFilmed 4 (some .boolean) ∈ wT := tw4 (List.mem_of_getElem? (i := 115) rfl) rfl
theorem mw908 : Cond.methodLink RX7 320 yX4_renew ∈ wT := tw4 (List.mem_of_getElem? (i := 120) rfl) rfl
theorem mw909 : Cond.instanceMethod yX4_renew ∈ wT := tw4 (List.mem_of_getElem? (i := 121) rfl) rfl
theorem mw910 : Cond.selects RX4 yX4_renew yX4_renew ∈ wT := tw4 (List.mem_of_getElem? (i := 122) rfl) rfl
theorem mw911 : Cond.code yX4_renew cX4_renew 4 none ∈ wT := tw4 (List.mem_of_getElem? (i := 123) rfl) rfl
theorem mw924 : Cond.methodLink RX7 330 yX4_holds ∈ wT := tw4 (List.mem_of_getElem? (i := 136) rfl) rfl
theorem mw925 : Cond.methodLink RX7 333 arraycopyName ∈ wT := tw4 (List.mem_of_getElem? (i := 137) rfl) rfl
theorem mw931 : Cond.methodLink RX8 1 objectInit ∈ wT := tw4 (List.mem_of_getElem? (i := 143) rfl) rfl
theorem mw932 : Cond.fieldLink RX8 7 "LameClocksModel" "st" "[I" ∈ wT := tw4 (List.mem_of_getElem? (i := 144) rfl) rfl
theorem mw933 : Cond.fieldLink RX8 13 "LameClocksModel" "kinds" "[I" ∈ wT := tw4 (List.mem_of_getElem? (i := 145) rfl) rfl
theorem mw934 : Cond.fieldLink RX8 16 "LameClocksModel" "rates" "[I" ∈ wT := tw4 (List.mem_of_getElem? (i := 146) rfl) rfl
theorem mw935 : Cond.fieldLink RX8 72 "LameClocksModel" "clocks" "I" ∈ wT := tw4 (List.mem_of_getElem? (i := 147) rfl) rfl
theorem mw936 : Cond.fieldLink RX8 19 "LameClocksModel" "windows" "I" ∈ wT := tw4 (List.mem_of_getElem? (i := 148) rfl) rfl
theorem mw937 : Cond.fieldLink RX8 23 "LameClocksModel" "skyRow" "[I" ∈ wT := tw4 (List.mem_of_getElem? (i := 149) rfl) rfl
theorem mw938 : Cond.fieldLink RX8 26 "LameClocksModel" "skyMany" "I" ∈ wT := tw4 (List.mem_of_getElem? (i := 150) rfl) rfl
theorem mw939 : Cond.fieldLink RX8 29 "LameClocksModel" "sky" "I" ∈ wT := tw4 (List.mem_of_getElem? (i := 151) rfl) rfl
theorem mw940 : Cond.fieldLink RX8 32 "LameClocksModel" "betOn" "[I" ∈ wT := tw4 (List.mem_of_getElem? (i := 152) rfl) rfl
theorem mw941 : Cond.fieldLink RX8 35 "LameClocksModel" "stakes" "[I" ∈ wT := tw4 (List.mem_of_getElem? (i := 153) rfl) rfl
theorem mw942 : Cond.fieldLink RX8 93 "LameClocksModel" "bets" "I" ∈ wT := tw4 (List.mem_of_getElem? (i := 154) rfl) rfl
theorem mw943 : Cond.fieldLink RX8 38 "LameClocksModel" "undos" "[I" ∈ wT := tw4 (List.mem_of_getElem? (i := 155) rfl) rfl
theorem mw944 : Cond.fieldLink RX8 96 "LameClocksModel" "undoMany" "I" ∈ wT := tw4 (List.mem_of_getElem? (i := 156) rfl) rfl
theorem mw945 : Cond.fieldLink RX8 41 "LameClocksModel" "drawn" "I" ∈ wT := tw4 (List.mem_of_getElem? (i := 157) rfl) rfl
theorem mw946 : Cond.fieldLink RX8 44 "LameClocksModel" "tape" "[I" ∈ wT := tw4 (List.mem_of_getElem? (i := 158) rfl) rfl
theorem mw947 : Cond.fieldLink RX8 125 "LameClocksModel" "taped" "I" ∈ wT := tw4 (List.mem_of_getElem? (i := 159) rfl) rfl
theorem mw948 : Cond.fieldLink RX8 128 "LameClocksModel" "place" "I" ∈ wT := tw4 (List.mem_of_getElem? (i := 160) rfl) rfl
theorem mw949 : Cond.fieldLink RX8 139 "LameClocksModel" "reads" "I" ∈ wT := tw4 (List.mem_of_getElem? (i := 161) rfl) rfl
theorem mw950 : Cond.fieldLink RX8 47 "LameClocksModel" "read" "[I" ∈ wT := tw4 (List.mem_of_getElem? (i := 162) rfl) rfl
theorem mw951 : Cond.fieldLink RX8 50 "LameClocksModel" "aside" "[I" ∈ wT := tw4 (List.mem_of_getElem? (i := 163) rfl) rfl
theorem mw952 : Cond.fieldLink RX8 53 "LameClocksModel" "duels" "[I" ∈ wT := tw4 (List.mem_of_getElem? (i := 164) rfl) rfl
theorem mw953 : Cond.fieldLink RX8 296 "LameClocksModel" "isKept" "Z" ∈ wT := tw4 (List.mem_of_getElem? (i := 165) rfl) rfl
theorem mw954 : Cond.fieldLink RX8 56 "LameClocksModel" "kept" "[I" ∈ wT := tw4 (List.mem_of_getElem? (i := 166) rfl) rfl
theorem mw955 : Cond.fieldLink RX8 59 "LameClocksModel" "lanes" "[I" ∈ wT := tw4 (List.mem_of_getElem? (i := 167) rfl) rfl
theorem mw956 : Cond.fieldLink RX8 62 "LameClocksModel" "rowSizes" "[I" ∈ wT := tw4 (List.mem_of_getElem? (i := 168) rfl) rfl
theorem mw957 : Cond.fieldLink RX8 65 "LameClocksModel" "items" "[J" ∈ wT := tw4 (List.mem_of_getElem? (i := 169) rfl) rfl
theorem mw958 : Cond.fieldLink RX8 69 "LameClocksModel" "moved" "[J" ∈ wT := tw4 (List.mem_of_getElem? (i := 170) rfl) rfl
theorem mw1018 : Cond.constantLong RX8 79 (5) ∈ wT := tw4 (List.mem_of_getElem? (i := 230) rfl) rfl
theorem mw1019 : Cond.methodLink RX8 75 yX8_in ∈ wT := tw4 (List.mem_of_getElem? (i := 231) rfl) rfl
theorem mw1020 : Cond.static yX8_in ∈ wT := tw4 (List.mem_of_getElem? (i := 232) rfl) rfl
theorem mw1021 : Cond.code yX8_in cX8_in 6 (some .boolean) ∈ wT := tw4 (List.mem_of_getElem? (i := 233) rfl) rfl
theorem mw1022 : Cond.constantLong RX8 81 (719) ∈ wT := tw4 (List.mem_of_getElem? (i := 234) rfl) rfl
theorem mw1023 : Cond.constantLong RX8 83 (-30) ∈ wT := tw4 (List.mem_of_getElem? (i := 235) rfl) rfl
theorem mw1024 : Cond.constantLong RX8 85 (30) ∈ wT := tw4 (List.mem_of_getElem? (i := 236) rfl) rfl
theorem mw1025 : Cond.constantLong RX8 87 (99) ∈ wT := tw4 (List.mem_of_getElem? (i := 237) rfl) rfl
theorem mw1026 : Cond.methodLink RX8 89 yX8_add ∈ wT := tw4 (List.mem_of_getElem? (i := 238) rfl) rfl
theorem mw1028 : Cond.instanceMethod yX8_add ∈ wT := tw5 (List.mem_of_getElem? (i := 0) rfl) rfl
theorem mw1029 : Cond.code yX8_add cX8_add 5 none ∈ wT := tw5 (List.mem_of_getElem? (i := 1) rfl) rfl
theorem mw1038 : Cond.methodLink RX8 107 yX8_isClock ∈ wT := tw5 (List.mem_of_getElem? (i := 10) rfl) rfl
theorem mw1040 : Cond.instanceMethod yX8_isClock ∈ wT := tw5 (List.mem_of_getElem? (i := 12) rfl) rfl
theorem mw1041 : Cond.code yX8_isClock cX8_isClock 2 (some .boolean) ∈ wT := tw5 (List.mem_of_getElem? (i := 13) rfl) rfl
theorem mw1042 : Cond.methodLink RX8 103 yX8_shownBy ∈ wT := tw5 (List.mem_of_getElem? (i := 14) rfl) rfl
theorem mw1044 : Cond.instanceMethod yX8_shownBy ∈ wT := tw5 (List.mem_of_getElem? (i := 16) rfl) rfl
theorem mw1045 : Cond.code yX8_shownBy cX8_shownBy 3 (some .int) ∈ wT := tw5 (List.mem_of_getElem? (i := 17) rfl) rfl
theorem mw1046 : Cond.methodLink RX8 99 yX8_truth ∈ wT := tw5 (List.mem_of_getElem? (i := 18) rfl) rfl
theorem mw1048 : Cond.instanceMethod yX8_truth ∈ wT := tw5 (List.mem_of_getElem? (i := 20) rfl) rfl
theorem mw1049 : Cond.code yX8_truth cX8_truth 1 (some .int) ∈ wT := tw5 (List.mem_of_getElem? (i := 21) rfl) rfl
theorem mw1050 : Cond.methodLink RX8 111 yX8_strikes ∈ wT := tw5 (List.mem_of_getElem? (i := 22) rfl) rfl
theorem mw1052 : Cond.instanceMethod yX8_strikes ∈ wT := tw5 (List.mem_of_getElem? (i := 24) rfl) rfl
theorem mw1053 : Cond.code yX8_strikes cX8_strikes 2 (some .int) ∈ wT := tw5 (List.mem_of_getElem? (i := 25) rfl) rfl
theorem mw1062 : Cond.methodLink RX8 114 yX8_isWindow ∈ wT := tw5 (List.mem_of_getElem? (i := 34) rfl) rfl
theorem mw1064 : Cond.instanceMethod yX8_isWindow ∈ wT := tw5 (List.mem_of_getElem? (i := 36) rfl) rfl
theorem mw1065 : Cond.code yX8_isWindow cX8_isWindow 2 (some .boolean) ∈ wT := tw5 (List.mem_of_getElem? (i := 37) rfl) rfl
theorem mw1070 : Cond.constantLong RX8 117 (12) ∈ wT := tw5 (List.mem_of_getElem? (i := 42) rfl) rfl
theorem mw1075 : Cond.constantLong RX8 119 (9999) ∈ wT := tw5 (List.mem_of_getElem? (i := 47) rfl) rfl
theorem mw1080 : Cond.constantLong RX8 121 (32) ∈ wT := tw5 (List.mem_of_getElem? (i := 52) rfl) rfl
theorem mw1081 : Cond.constantLong RX8 123 (126) ∈ wT := tw5 (List.mem_of_getElem? (i := 53) rfl) rfl
theorem mw1086 : Cond.methodLink RX8 148 yX8_readSigns ∈ wT := tw5 (List.mem_of_getElem? (i := 58) rfl) rfl
theorem mw1088 : Cond.instanceMethod yX8_readSigns ∈ wT := tw5 (List.mem_of_getElem? (i := 60) rfl) rfl
theorem mw1089 : Cond.code yX8_readSigns cX8_readSigns 5 (some .boolean) ∈ wT := tw5 (List.mem_of_getElem? (i := 61) rfl) rfl
theorem mw1090 : Cond.methodLink RX8 131 yX8_nextLetter ∈ wT := tw5 (List.mem_of_getElem? (i := 62) rfl) rfl
theorem mw1092 : Cond.instanceMethod yX8_nextLetter ∈ wT := tw5 (List.mem_of_getElem? (i := 64) rfl) rfl
theorem mw1093 : Cond.code yX8_nextLetter cX8_nextLetter 1 (some .int) ∈ wT := tw5 (List.mem_of_getElem? (i := 65) rfl) rfl
theorem mw1094 : Cond.methodLink RX8 142 yX8_dialOf ∈ wT := tw5 (List.mem_of_getElem? (i := 66) rfl) rfl
theorem mw1095 : Cond.static yX8_dialOf ∈ wT := tw5 (List.mem_of_getElem? (i := 67) rfl) rfl
theorem mw1096 : Cond.code yX8_dialOf cX8_dialOf 1 (some .int) ∈ wT := tw5 (List.mem_of_getElem? (i := 68) rfl) rfl
theorem mw1097 : Cond.constantLong RX8 134 (48) ∈ wT := tw5 (List.mem_of_getElem? (i := 69) rfl) rfl
theorem mw1098 : Cond.constantLong RX8 136 (57) ∈ wT := tw5 (List.mem_of_getElem? (i := 70) rfl) rfl
theorem mw1099 : Cond.methodLink RX8 145 yX8_skyOf ∈ wT := tw5 (List.mem_of_getElem? (i := 71) rfl) rfl
theorem mw1100 : Cond.static yX8_skyOf ∈ wT := tw5 (List.mem_of_getElem? (i := 72) rfl) rfl
theorem mw1101 : Cond.code yX8_skyOf cX8_skyOf 1 (some .int) ∈ wT := tw5 (List.mem_of_getElem? (i := 73) rfl) rfl
theorem mw1102 : Cond.methodLink RX8 152 yX8_end ∈ wT := tw5 (List.mem_of_getElem? (i := 74) rfl) rfl
theorem mw1104 : Cond.instanceMethod yX8_end ∈ wT := tw5 (List.mem_of_getElem? (i := 76) rfl) rfl
theorem mw1105 : Cond.code yX8_end cX8_end 2 (some .int) ∈ wT := tw5 (List.mem_of_getElem? (i := 77) rfl) rfl
theorem mw1106 : Cond.methodLink RX8 156 yX8_allBack ∈ wT := tw5 (List.mem_of_getElem? (i := 78) rfl) rfl
theorem mw1108 : Cond.instanceMethod yX8_allBack ∈ wT := tw5 (List.mem_of_getElem? (i := 80) rfl) rfl
theorem mw1109 : Cond.code yX8_allBack cX8_allBack 2 none ∈ wT := tw5 (List.mem_of_getElem? (i := 81) rfl) rfl
theorem mw1118 : Cond.methodLink RX8 172 yX8_readStreet ∈ wT := tw5 (List.mem_of_getElem? (i := 90) rfl) rfl
theorem mw1120 : Cond.instanceMethod yX8_readStreet ∈ wT := tw5 (List.mem_of_getElem? (i := 92) rfl) rfl
theorem mw1121 : Cond.code yX8_readStreet cX8_readStreet 3 (some .boolean) ∈ wT := tw5 (List.mem_of_getElem? (i := 93) rfl) rfl
theorem mw1122 : Cond.methodLink RX8 169 yX8_readClock ∈ wT := tw5 (List.mem_of_getElem? (i := 94) rfl) rfl
theorem mw1124 : Cond.instanceMethod yX8_readClock ∈ wT := tw5 (List.mem_of_getElem? (i := 96) rfl) rfl
theorem mw1125 : Cond.code yX8_readClock cX8_readClock 4 (some .boolean) ∈ wT := tw5 (List.mem_of_getElem? (i := 97) rfl) rfl
theorem mw1126 : Cond.methodLink RX8 159 yX8_kindOf ∈ wT := tw5 (List.mem_of_getElem? (i := 98) rfl) rfl
theorem mw1127 : Cond.static yX8_kindOf ∈ wT := tw5 (List.mem_of_getElem? (i := 99) rfl) rfl
theorem mw1128 : Cond.code yX8_kindOf cX8_kindOf 1 (some .int) ∈ wT := tw5 (List.mem_of_getElem? (i := 100) rfl) rfl
theorem mw1129 : Cond.methodLink RX8 162 yX8_readNumber ∈ wT := tw5 (List.mem_of_getElem? (i := 101) rfl) rfl
theorem mw1131 : Cond.instanceMethod yX8_readNumber ∈ wT := tw5 (List.mem_of_getElem? (i := 103) rfl) rfl
theorem mw1132 : Cond.code yX8_readNumber cX8_readNumber 5 (some .int) ∈ wT := tw5 (List.mem_of_getElem? (i := 104) rfl) rfl
theorem mw1133 : Cond.constant RX8 138 (99999) ∈ wT := tw5 (List.mem_of_getElem? (i := 105) rfl) rfl
theorem mw1134 : Cond.methodLink RX8 166 yX8_takes ∈ wT := tw5 (List.mem_of_getElem? (i := 106) rfl) rfl
theorem mw1136 : Cond.instanceMethod yX8_takes ∈ wT := tw5 (List.mem_of_getElem? (i := 108) rfl) rfl
theorem mw1137 : Cond.code yX8_takes cX8_takes 3 (some .boolean) ∈ wT := tw5 (List.mem_of_getElem? (i := 109) rfl) rfl
theorem mw1142 : Cond.methodLink RX8 191 yX8_readDay ∈ wT := tw5 (List.mem_of_getElem? (i := 114) rfl) rfl
theorem mw1144 : Cond.instanceMethod yX8_readDay ∈ wT := tw5 (List.mem_of_getElem? (i := 116) rfl) rfl
theorem mw1145 : Cond.code yX8_readDay cX8_readDay 2 (some .boolean) ∈ wT := tw5 (List.mem_of_getElem? (i := 117) rfl) rfl
theorem mw1146 : Cond.methodLink RX8 176 yX8_readAct ∈ wT := tw5 (List.mem_of_getElem? (i := 118) rfl) rfl
theorem mw1148 : Cond.instanceMethod yX8_readAct ∈ wT := tw5 (List.mem_of_getElem? (i := 120) rfl) rfl
theorem mw1149 : Cond.code yX8_readAct cX8_readAct 3 (some .boolean) ∈ wT := tw5 (List.mem_of_getElem? (i := 121) rfl) rfl
theorem mw1150 : Cond.methodLink RX8 194 yX8_does ∈ wT := tw5 (List.mem_of_getElem? (i := 122) rfl) rfl
theorem mw1152 : Cond.instanceMethod yX8_does ∈ wT := tw5 (List.mem_of_getElem? (i := 124) rfl) rfl
theorem mw1153 : Cond.code yX8_does cX8_does 4 (some .boolean) ∈ wT := tw5 (List.mem_of_getElem? (i := 125) rfl) rfl
theorem mw1154 : Cond.methodLink RX8 179 yX8_wind ∈ wT := tw5 (List.mem_of_getElem? (i := 126) rfl) rfl
theorem mw1155 : Cond.instanceMethod yX8_wind ∈ wT := tw5 (List.mem_of_getElem? (i := 127) rfl) rfl
theorem mw1156 : Cond.selects RX8 yX8_wind yX8_wind ∈ wT := tw5 (List.mem_of_getElem? (i := 128) rfl) rfl
theorem mw1157 : Cond.code yX8_wind cX8_wind 3 (some .int) ∈ wT := tw5 (List.mem_of_getElem? (i := 129) rfl) rfl
theorem mw1158 : Cond.methodLink RX8 229 yX8_note ∈ wT := tw5 (List.mem_of_getElem? (i := 130) rfl) rfl
theorem mw1160 : Cond.instanceMethod yX8_note ∈ wT := tw5 (List.mem_of_getElem? (i := 132) rfl) rfl
theorem mw1161 : Cond.code yX8_note cX8_note 5 none ∈ wT := tw5 (List.mem_of_getElem? (i := 133) rfl) rfl
theorem mw1162 : Cond.methodLink RX8 233 yX8_addSpring ∈ wT := tw5 (List.mem_of_getElem? (i := 134) rfl) rfl
theorem mw1164 : Cond.instanceMethod yX8_addSpring ∈ wT := tw5 (List.mem_of_getElem? (i := 136) rfl) rfl
theorem mw1165 : Cond.code yX8_addSpring cX8_addSpring 3 none ∈ wT := tw5 (List.mem_of_getElem? (i := 137) rfl) rfl
theorem mw1166 : Cond.methodLink RX8 182 yX8_turn ∈ wT := tw5 (List.mem_of_getElem? (i := 138) rfl) rfl
theorem mw1167 : Cond.instanceMethod yX8_turn ∈ wT := tw5 (List.mem_of_getElem? (i := 139) rfl) rfl
theorem mw1168 : Cond.selects RX8 yX8_turn yX8_turn ∈ wT := tw5 (List.mem_of_getElem? (i := 140) rfl) rfl
theorem mw1169 : Cond.code yX8_turn cX8_turn 3 (some .int) ∈ wT := tw5 (List.mem_of_getElem? (i := 141) rfl) rfl
theorem mw1170 : Cond.methodLink RX8 237 yX8_addHands ∈ wT := tw5 (List.mem_of_getElem? (i := 142) rfl) rfl
theorem mw1172 : Cond.instanceMethod yX8_addHands ∈ wT := tw5 (List.mem_of_getElem? (i := 144) rfl) rfl
theorem mw1173 : Cond.code yX8_addHands cX8_addHands 3 none ∈ wT := tw5 (List.mem_of_getElem? (i := 145) rfl) rfl
theorem mw1174 : Cond.methodLink RX8 185 yX8_breathe ∈ wT := tw5 (List.mem_of_getElem? (i := 146) rfl) rfl
theorem mw1175 : Cond.instanceMethod yX8_breathe ∈ wT := tw5 (List.mem_of_getElem? (i := 147) rfl) rfl
theorem mw1176 : Cond.selects RX8 yX8_breathe yX8_breathe ∈ wT := tw5 (List.mem_of_getElem? (i := 148) rfl) rfl
theorem mw1177 : Cond.code yX8_breathe cX8_breathe 3 (some .int) ∈ wT := tw5 (List.mem_of_getElem? (i := 149) rfl) rfl
theorem mw1178 : Cond.methodLink RX8 188 yX8_hour ∈ wT := tw5 (List.mem_of_getElem? (i := 150) rfl) rfl
theorem mw1179 : Cond.instanceMethod yX8_hour ∈ wT := tw5 (List.mem_of_getElem? (i := 151) rfl) rfl
theorem mw1180 : Cond.selects RX8 yX8_hour yX8_hour ∈ wT := tw5 (List.mem_of_getElem? (i := 152) rfl) rfl
theorem mw1181 : Cond.code yX8_hour cX8_hour 1 (some .int) ∈ wT := tw5 (List.mem_of_getElem? (i := 153) rfl) rfl
theorem mw1182 : Cond.methodLink RX8 223 yX8_skyNow ∈ wT := tw5 (List.mem_of_getElem? (i := 154) rfl) rfl
theorem mw1184 : Cond.instanceMethod yX8_skyNow ∈ wT := tw5 (List.mem_of_getElem? (i := 156) rfl) rfl
theorem mw1185 : Cond.code yX8_skyNow cX8_skyNow 1 (some .int) ∈ wT := tw5 (List.mem_of_getElem? (i := 157) rfl) rfl
theorem mw1186 : Cond.methodLink RX8 226 yX8_goOn ∈ wT := tw5 (List.mem_of_getElem? (i := 158) rfl) rfl
theorem mw1188 : Cond.instanceMethod yX8_goOn ∈ wT := tw5 (List.mem_of_getElem? (i := 160) rfl) rfl
theorem mw1189 : Cond.code yX8_goOn cX8_goOn 7 (some .int) ∈ wT := tw5 (List.mem_of_getElem? (i := 161) rfl) rfl
theorem mw1190 : Cond.methodLink RX8 197 yX8_isHome ∈ wT := tw5 (List.mem_of_getElem? (i := 162) rfl) rfl
theorem mw1192 : Cond.instanceMethod yX8_isHome ∈ wT := tw5 (List.mem_of_getElem? (i := 164) rfl) rfl
theorem mw1193 : Cond.code yX8_isHome cX8_isHome 2 (some .boolean) ∈ wT := tw5 (List.mem_of_getElem? (i := 165) rfl) rfl
theorem mw1194 : Cond.methodLink RX8 213 yX8_goes ∈ wT := tw5 (List.mem_of_getElem? (i := 166) rfl) rfl
theorem mw1196 : Cond.instanceMethod yX8_goes ∈ wT := tw5 (List.mem_of_getElem? (i := 168) rfl) rfl
theorem mw1197 : Cond.code yX8_goes cX8_goes 4 (some .boolean) ∈ wT := tw5 (List.mem_of_getElem? (i := 169) rfl) rfl
theorem mw1198 : Cond.methodLink RX8 216 yX8_strokesOf ∈ wT := tw5 (List.mem_of_getElem? (i := 170) rfl) rfl
theorem mw1199 : Cond.static yX8_strokesOf ∈ wT := tw5 (List.mem_of_getElem? (i := 171) rfl) rfl
theorem mw1200 : Cond.code yX8_strokesOf cX8_strokesOf 1 (some .int) ∈ wT := tw5 (List.mem_of_getElem? (i := 172) rfl) rfl
theorem mw1201 : Cond.methodLink RX8 219 yX8_run ∈ wT := tw5 (List.mem_of_getElem? (i := 173) rfl) rfl
theorem mw1203 : Cond.instanceMethod yX8_run ∈ wT := tw5 (List.mem_of_getElem? (i := 175) rfl) rfl
theorem mw1204 : Cond.code yX8_run cX8_run 2 none ∈ wT := tw5 (List.mem_of_getElem? (i := 176) rfl) rfl
theorem mw1209 : Cond.methodLink RX8 204 yX8_placeOf ∈ wT := tw5 (List.mem_of_getElem? (i := 181) rfl) rfl
theorem mw1211 : Cond.instanceMethod yX8_placeOf ∈ wT := tw5 (List.mem_of_getElem? (i := 183) rfl) rfl
theorem mw1212 : Cond.code yX8_placeOf cX8_placeOf 4 (some .int) ∈ wT := tw5 (List.mem_of_getElem? (i := 184) rfl) rfl
theorem mw1213 : Cond.methodLink RX8 200 yX8_isAhead ∈ wT := tw5 (List.mem_of_getElem? (i := 185) rfl) rfl
theorem mw1215 : Cond.instanceMethod yX8_isAhead ∈ wT := tw5 (List.mem_of_getElem? (i := 187) rfl) rfl
theorem mw1216 : Cond.code yX8_isAhead cX8_isAhead 3 (some .boolean) ∈ wT := tw5 (List.mem_of_getElem? (i := 188) rfl) rfl
theorem mw1221 : Cond.methodLink RX8 207 yX8_homes ∈ wT := tw5 (List.mem_of_getElem? (i := 193) rfl) rfl
theorem mw1223 : Cond.instanceMethod yX8_homes ∈ wT := tw5 (List.mem_of_getElem? (i := 195) rfl) rfl
theorem mw1224 : Cond.code yX8_homes cX8_homes 3 (some .int) ∈ wT := tw5 (List.mem_of_getElem? (i := 196) rfl) rfl
theorem mw1225 : Cond.methodLink RX8 210 yX8_tied ∈ wT := tw5 (List.mem_of_getElem? (i := 197) rfl) rfl
theorem mw1227 : Cond.instanceMethod yX8_tied ∈ wT := tw5 (List.mem_of_getElem? (i := 199) rfl) rfl
theorem mw1228 : Cond.code yX8_tied cX8_tied 4 (some .int) ∈ wT := tw5 (List.mem_of_getElem? (i := 200) rfl) rfl
theorem mw1250 : Cond.instanceMethod yX8_behind ∈ wT := tw5 (List.mem_of_getElem? (i := 222) rfl) rfl
theorem mw1251 : Cond.selects RX8 yX8_behind yX8_behind ∈ wT := tw5 (List.mem_of_getElem? (i := 223) rfl) rfl
theorem mw1252 : Cond.code yX8_behind cX8_behind 5 (some .int) ∈ wT := tw5 (List.mem_of_getElem? (i := 224) rfl) rfl
theorem mw1253 : Cond.methodLink RX8 242 yX8_isLong ∈ wT := tw5 (List.mem_of_getElem? (i := 225) rfl) rfl
theorem mw1254 : Cond.static yX8_isLong ∈ wT := tw5 (List.mem_of_getElem? (i := 226) rfl) rfl
theorem mw1255 : Cond.code yX8_isLong cX8_isLong 1 (some .boolean) ∈ wT := tw5 (List.mem_of_getElem? (i := 227) rfl) rfl
theorem mw1256 : Cond.constantLong RX8 240 (200) ∈ wT := tw5 (List.mem_of_getElem? (i := 228) rfl) rfl
theorem mw1257 : Cond.methodLink RX8 245 yX8_keepAside ∈ wT := tw5 (List.mem_of_getElem? (i := 229) rfl) rfl
theorem mw1259 : Cond.instanceMethod yX8_keepAside ∈ wT := tw5 (List.mem_of_getElem? (i := 231) rfl) rfl
theorem mw1260 : Cond.code yX8_keepAside cX8_keepAside 2 none ∈ wT := tw5 (List.mem_of_getElem? (i := 232) rfl) rfl
theorem mw1261 : Cond.methodLink RX8 248 yX8_goHours ∈ wT := tw5 (List.mem_of_getElem? (i := 233) rfl) rfl
theorem mw1263 : Cond.instanceMethod yX8_goHours ∈ wT := tw5 (List.mem_of_getElem? (i := 235) rfl) rfl
theorem mw1264 : Cond.code yX8_goHours cX8_goHours 3 none ∈ wT := tw5 (List.mem_of_getElem? (i := 236) rfl) rfl
theorem mw1265 : Cond.methodLink RX8 251 yX8_bringBack ∈ wT := tw5 (List.mem_of_getElem? (i := 237) rfl) rfl
theorem mw1267 : Cond.instanceMethod yX8_bringBack ∈ wT := tw5 (List.mem_of_getElem? (i := 239) rfl) rfl
theorem mw1268 : Cond.code yX8_bringBack cX8_bringBack 2 none ∈ wT := tw6 (List.mem_of_getElem? (i := 0) rfl) rfl
theorem mw1285 : Cond.methodLink RX8 256 yX8_isAsked ∈ wT := tw6 (List.mem_of_getElem? (i := 17) rfl) rfl
theorem mw1287 : Cond.instanceMethod yX8_isAsked ∈ wT := tw6 (List.mem_of_getElem? (i := 19) rfl) rfl
theorem mw1288 : Cond.code yX8_isAsked cX8_isAsked 4 (some .boolean) ∈ wT := tw6 (List.mem_of_getElem? (i := 20) rfl) rfl
theorem mw1289 : Cond.constantLong RX8 254 (9) ∈ wT := tw6 (List.mem_of_getElem? (i := 21) rfl) rfl
theorem mw1290 : Cond.methodLink RX8 260 yX8_placeWith ∈ wT := tw6 (List.mem_of_getElem? (i := 22) rfl) rfl
theorem mw1292 : Cond.instanceMethod yX8_placeWith ∈ wT := tw6 (List.mem_of_getElem? (i := 24) rfl) rfl
theorem mw1293 : Cond.code yX8_placeWith cX8_placeWith 6 (some .int) ∈ wT := tw6 (List.mem_of_getElem? (i := 25) rfl) rfl
theorem mw1306 : Cond.methodLink RX8 264 yX8_doesRest ∈ wT := tw6 (List.mem_of_getElem? (i := 38) rfl) rfl
theorem mw1308 : Cond.instanceMethod yX8_doesRest ∈ wT := tw6 (List.mem_of_getElem? (i := 40) rfl) rfl
theorem mw1309 : Cond.code yX8_doesRest cX8_doesRest 4 (some .boolean) ∈ wT := tw6 (List.mem_of_getElem? (i := 41) rfl) rfl
theorem mw1314 : Cond.methodLink RX8 267 yX8_behind ∈ wT := tw6 (List.mem_of_getElem? (i := 46) rfl) rfl
theorem mw1331 : Cond.methodLink RX8 271 yX8_areClocks ∈ wT := tw6 (List.mem_of_getElem? (i := 63) rfl) rfl
theorem mw1333 : Cond.instanceMethod yX8_areClocks ∈ wT := tw6 (List.mem_of_getElem? (i := 65) rfl) rfl
theorem mw1334 : Cond.code yX8_areClocks cX8_areClocks 2 (some .boolean) ∈ wT := tw6 (List.mem_of_getElem? (i := 66) rfl) rfl
theorem mw1335 : Cond.constantLong RX8 274 (108) ∈ wT := tw6 (List.mem_of_getElem? (i := 67) rfl) rfl
theorem mw1336 : Cond.constantLong RX8 276 (2) ∈ wT := tw6 (List.mem_of_getElem? (i := 68) rfl) rfl
theorem mw1337 : Cond.methodLink RX8 278 yX8_has ∈ wT := tw6 (List.mem_of_getElem? (i := 69) rfl) rfl
theorem mw1338 : Cond.static yX8_has ∈ wT := tw6 (List.mem_of_getElem? (i := 70) rfl) rfl
theorem mw1339 : Cond.code yX8_has cX8_has 2 (some .boolean) ∈ wT := tw6 (List.mem_of_getElem? (i := 71) rfl) rfl
theorem mw1344 : Cond.constantLong RX8 281 (999) ∈ wT := tw6 (List.mem_of_getElem? (i := 76) rfl) rfl
theorem mw1357 : Cond.constantLong RX8 283 (60) ∈ wT := tw6 (List.mem_of_getElem? (i := 89) rfl) rfl
theorem mw1358 : Cond.constantLong RX8 285 (1103515245) ∈ wT := tw6 (List.mem_of_getElem? (i := 90) rfl) rfl
theorem mw1359 : Cond.constantLong RX8 287 (12345) ∈ wT := tw6 (List.mem_of_getElem? (i := 91) rfl) rfl
theorem mw1360 : Cond.constantLong RX8 289 (2147483647) ∈ wT := tw6 (List.mem_of_getElem? (i := 92) rfl) rfl
theorem mw1361 : Cond.constant RX8 291 (65536) ∈ wT := tw6 (List.mem_of_getElem? (i := 93) rfl) rfl
theorem mw1370 : Cond.methodLink RX8 292 yX8_carried ∈ wT := tw6 (List.mem_of_getElem? (i := 102) rfl) rfl
theorem mw1372 : Cond.instanceMethod yX8_carried ∈ wT := tw6 (List.mem_of_getElem? (i := 104) rfl) rfl
theorem mw1373 : Cond.code yX8_carried cX8_carried 5 (some .int) ∈ wT := tw6 (List.mem_of_getElem? (i := 105) rfl) rfl
theorem mw1382 : Cond.methodLink RX8 302 yX8_isSheet ∈ wT := tw6 (List.mem_of_getElem? (i := 114) rfl) rfl
theorem mw1383 : Cond.static yX8_isSheet ∈ wT := tw6 (List.mem_of_getElem? (i := 115) rfl) rfl
theorem mw1384 : Cond.code yX8_isSheet cX8_isSheet 2 (some .boolean) ∈ wT := tw6 (List.mem_of_getElem? (i := 116) rfl) rfl
theorem mw1385 : Cond.constantLong RX8 300 (3) ∈ wT := tw6 (List.mem_of_getElem? (i := 117) rfl) rfl
theorem mw1394 : Cond.methodLink RX8 305 yX8_lacksRow ∈ wT := tw6 (List.mem_of_getElem? (i := 126) rfl) rfl
theorem mw1396 : Cond.instanceMethod yX8_lacksRow ∈ wT := tw6 (List.mem_of_getElem? (i := 128) rfl) rfl
theorem mw1397 : Cond.code yX8_lacksRow cX8_lacksRow 5 (some .int) ∈ wT := tw6 (List.mem_of_getElem? (i := 129) rfl) rfl
theorem mw1398 : Cond.methodLink RX8 308 yX8_asLane ∈ wT := tw6 (List.mem_of_getElem? (i := 130) rfl) rfl
theorem mw1399 : Cond.static yX8_asLane ∈ wT := tw6 (List.mem_of_getElem? (i := 131) rfl) rfl
theorem mw1400 : Cond.code yX8_asLane cX8_asLane 3 (some .long) ∈ wT := tw6 (List.mem_of_getElem? (i := 132) rfl) rfl
theorem mw1413 : Cond.methodLink RX8 312 yX8_areSo ∈ wT := tw6 (List.mem_of_getElem? (i := 145) rfl) rfl
theorem mw1415 : Cond.instanceMethod yX8_areSo ∈ wT := tw6 (List.mem_of_getElem? (i := 147) rfl) rfl
theorem mw1416 : Cond.code yX8_areSo cX8_areSo 4 (some .boolean) ∈ wT := tw6 (List.mem_of_getElem? (i := 148) rfl) rfl
theorem mw1422 : Cond.fieldLink RJ0 15 "java/lang/String" "coder" "B" ∈ wT := tw6 (List.mem_of_getElem? (i := 154) rfl) rfl
theorem mw1423 : Cond.fieldLink RJ0 9 "java/lang/String" "value" "[B" ∈ wT := tw6 (List.mem_of_getElem? (i := 155) rfl) rfl
theorem inX0 : ∀ w ∈ wsX00, w ∈ wT := by decide +kernel
theorem inX1 : ∀ w ∈ wsX10, w ∈ wT := by decide +kernel
theorem inX2 : ∀ w ∈ wsX20, w ∈ wT := by decide +kernel
theorem inX3 : ∀ w ∈ wsX30, w ∈ wT := by decide +kernel
theorem inX4 : ∀ w ∈ wsX40, w ∈ wT := by decide +kernel
theorem inX5 : ∀ w ∈ wsX50, w ∈ wT := by decide +kernel
theorem inX6 : ∀ w ∈ wsX60, w ∈ wT := by decide +kernel
theorem inX7 : ∀ w ∈ wsX70, w ∈ wT := by decide +kernel
theorem inX8 : ∀ w ∈ wsX80, w ∈ wT := by decide +kernel
theorem hd_J0_coder_7d493 : yJ0_coder_7d493.cls ≠ "java/lang/invoke/MethodHandle" ∧ yJ0_coder_7d493.cls ≠ "java/lang/invoke/VarHandle" ∧ (parseMethodDescriptor yJ0_coder_7d493.desc).map (fun d => d.parameters.length) = some 0 := by decide +kernel
theorem hd_J0_indexOf_0f7a4 : yJ0_indexOf_0f7a4.cls ≠ "java/lang/invoke/MethodHandle" ∧ yJ0_indexOf_0f7a4.cls ≠ "java/lang/invoke/VarHandle" ∧ (parseMethodDescriptor yJ0_indexOf_0f7a4.desc).map (fun d => d.parameters.length) = some 1 := by decide +kernel
theorem hd_J0_indexOf_7cf53 : yJ0_indexOf_7cf53.cls ≠ "java/lang/invoke/MethodHandle" ∧ yJ0_indexOf_7cf53.cls ≠ "java/lang/invoke/VarHandle" ∧ (parseMethodDescriptor yJ0_indexOf_7cf53.desc).map (fun d => d.parameters.length) = some 2 := by decide +kernel
theorem hd_J0_isLatin1_aae02 : yJ0_isLatin1_aae02.cls ≠ "java/lang/invoke/MethodHandle" ∧ yJ0_isLatin1_aae02.cls ≠ "java/lang/invoke/VarHandle" ∧ (parseMethodDescriptor yJ0_isLatin1_aae02.desc).map (fun d => d.parameters.length) = some 0 := by decide +kernel
theorem hd_J0_length_8abf5 : yJ0_length_8abf5.cls ≠ "java/lang/invoke/MethodHandle" ∧ yJ0_length_8abf5.cls ≠ "java/lang/invoke/VarHandle" ∧ (parseMethodDescriptor yJ0_length_8abf5.desc).map (fun d => d.parameters.length) = some 0 := by decide +kernel
theorem hd_J1_canEncode_9a6ad : yJ1_canEncode_9a6ad.cls ≠ "java/lang/invoke/MethodHandle" ∧ yJ1_canEncode_9a6ad.cls ≠ "java/lang/invoke/VarHandle" ∧ (parseMethodDescriptor yJ1_canEncode_9a6ad.desc).map (fun d => d.parameters.length) = some 1 := by decide +kernel
theorem hd_J1_indexOfChar_4cfef : yJ1_indexOfChar_4cfef.cls ≠ "java/lang/invoke/MethodHandle" ∧ yJ1_indexOfChar_4cfef.cls ≠ "java/lang/invoke/VarHandle" ∧ (parseMethodDescriptor yJ1_indexOfChar_4cfef.desc).map (fun d => d.parameters.length) = some 4 := by decide +kernel
theorem hd_J1_indexOf_4cfef : yJ1_indexOf_4cfef.cls ≠ "java/lang/invoke/MethodHandle" ∧ yJ1_indexOf_4cfef.cls ≠ "java/lang/invoke/VarHandle" ∧ (parseMethodDescriptor yJ1_indexOf_4cfef.desc).map (fun d => d.parameters.length) = some 4 := by decide +kernel
theorem hd_X0_add : yX0_add.cls ≠ "java/lang/invoke/MethodHandle" ∧ yX0_add.cls ≠ "java/lang/invoke/VarHandle" ∧ (parseMethodDescriptor yX0_add.desc).map (fun d => d.parameters.length) = some 2 := by decide +kernel
theorem hd_X0_become : yX0_become.cls ≠ "java/lang/invoke/MethodHandle" ∧ yX0_become.cls ≠ "java/lang/invoke/VarHandle" ∧ (parseMethodDescriptor yX0_become.desc).map (fun d => d.parameters.length) = some 1 := by decide +kernel
theorem hd_X0_init : yX0_init.cls ≠ "java/lang/invoke/MethodHandle" ∧ yX0_init.cls ≠ "java/lang/invoke/VarHandle" ∧ (parseMethodDescriptor yX0_init.desc).map (fun d => d.parameters.length) = some 0 := by decide +kernel
theorem hd_X0_removeOn : yX0_removeOn.cls ≠ "java/lang/invoke/MethodHandle" ∧ yX0_removeOn.cls ≠ "java/lang/invoke/VarHandle" ∧ (parseMethodDescriptor yX0_removeOn.desc).map (fun d => d.parameters.length) = some 1 := by decide +kernel
theorem hd_X0_share : yX0_share.cls ≠ "java/lang/invoke/MethodHandle" ∧ yX0_share.cls ≠ "java/lang/invoke/VarHandle" ∧ (parseMethodDescriptor yX0_share.desc).map (fun d => d.parameters.length) = some 2 := by decide +kernel
theorem hd_X0_wins : yX0_wins.cls ≠ "java/lang/invoke/MethodHandle" ∧ yX0_wins.cls ≠ "java/lang/invoke/VarHandle" ∧ (parseMethodDescriptor yX0_wins.desc).map (fun d => d.parameters.length) = some 2 := by decide +kernel
theorem hd_X1_add : yX1_add.cls ≠ "java/lang/invoke/MethodHandle" ∧ yX1_add.cls ≠ "java/lang/invoke/VarHandle" ∧ (parseMethodDescriptor yX1_add.desc).map (fun d => d.parameters.length) = some 3 := by decide +kernel
theorem hd_X1_init : yX1_init.cls ≠ "java/lang/invoke/MethodHandle" ∧ yX1_init.cls ≠ "java/lang/invoke/VarHandle" ∧ (parseMethodDescriptor yX1_init.desc).map (fun d => d.parameters.length) = some 0 := by decide +kernel
theorem hd_X2_add : yX2_add.cls ≠ "java/lang/invoke/MethodHandle" ∧ yX2_add.cls ≠ "java/lang/invoke/VarHandle" ∧ (parseMethodDescriptor yX2_add.desc).map (fun d => d.parameters.length) = some 4 := by decide +kernel
theorem hd_X2_allHome : yX2_allHome.cls ≠ "java/lang/invoke/MethodHandle" ∧ yX2_allHome.cls ≠ "java/lang/invoke/VarHandle" ∧ (parseMethodDescriptor yX2_allHome.desc).map (fun d => d.parameters.length) = some 0 := by decide +kernel
theorem hd_X2_become : yX2_become.cls ≠ "java/lang/invoke/MethodHandle" ∧ yX2_become.cls ≠ "java/lang/invoke/VarHandle" ∧ (parseMethodDescriptor yX2_become.desc).map (fun d => d.parameters.length) = some 1 := by decide +kernel
theorem hd_X2_go : yX2_go.cls ≠ "java/lang/invoke/MethodHandle" ∧ yX2_go.cls ≠ "java/lang/invoke/VarHandle" ∧ (parseMethodDescriptor yX2_go.desc).map (fun d => d.parameters.length) = some 3 := by decide +kernel
theorem hd_X2_homeCount : yX2_homeCount.cls ≠ "java/lang/invoke/MethodHandle" ∧ yX2_homeCount.cls ≠ "java/lang/invoke/VarHandle" ∧ (parseMethodDescriptor yX2_homeCount.desc).map (fun d => d.parameters.length) = some 0 := by decide +kernel
theorem hd_X2_hush : yX2_hush.cls ≠ "java/lang/invoke/MethodHandle" ∧ yX2_hush.cls ≠ "java/lang/invoke/VarHandle" ∧ (parseMethodDescriptor yX2_hush.desc).map (fun d => d.parameters.length) = some 0 := by decide +kernel
theorem hd_X2_init : yX2_init.cls ≠ "java/lang/invoke/MethodHandle" ∧ yX2_init.cls ≠ "java/lang/invoke/VarHandle" ∧ (parseMethodDescriptor yX2_init.desc).map (fun d => d.parameters.length) = some 0 := by decide +kernel
theorem hd_X2_isAhead : yX2_isAhead.cls ≠ "java/lang/invoke/MethodHandle" ∧ yX2_isAhead.cls ≠ "java/lang/invoke/VarHandle" ∧ (parseMethodDescriptor yX2_isAhead.desc).map (fun d => d.parameters.length) = some 2 := by decide +kernel
theorem hd_X2_isHome : yX2_isHome.cls ≠ "java/lang/invoke/MethodHandle" ∧ yX2_isHome.cls ≠ "java/lang/invoke/VarHandle" ∧ (parseMethodDescriptor yX2_isHome.desc).map (fun d => d.parameters.length) = some 1 := by decide +kernel
theorem hd_X2_leaders : yX2_leaders.cls ≠ "java/lang/invoke/MethodHandle" ∧ yX2_leaders.cls ≠ "java/lang/invoke/VarHandle" ∧ (parseMethodDescriptor yX2_leaders.desc).map (fun d => d.parameters.length) = some 0 := by decide +kernel
theorem hd_X2_mayGo : yX2_mayGo.cls ≠ "java/lang/invoke/MethodHandle" ∧ yX2_mayGo.cls ≠ "java/lang/invoke/VarHandle" ∧ (parseMethodDescriptor yX2_mayGo.desc).map (fun d => d.parameters.length) = some 3 := by decide +kernel
theorem hd_X2_pass : yX2_pass.cls ≠ "java/lang/invoke/MethodHandle" ∧ yX2_pass.cls ≠ "java/lang/invoke/VarHandle" ∧ (parseMethodDescriptor yX2_pass.desc).map (fun d => d.parameters.length) = some 1 := by decide +kernel
theorem hd_X2_passMany : yX2_passMany.cls ≠ "java/lang/invoke/MethodHandle" ∧ yX2_passMany.cls ≠ "java/lang/invoke/VarHandle" ∧ (parseMethodDescriptor yX2_passMany.desc).map (fun d => d.parameters.length) = some 2 := by decide +kernel
theorem hd_X2_placeOf : yX2_placeOf.cls ≠ "java/lang/invoke/MethodHandle" ∧ yX2_placeOf.cls ≠ "java/lang/invoke/VarHandle" ∧ (parseMethodDescriptor yX2_placeOf.desc).map (fun d => d.parameters.length) = some 1 := by decide +kernel
theorem hd_X2_removeLast : yX2_removeLast.cls ≠ "java/lang/invoke/MethodHandle" ∧ yX2_removeLast.cls ≠ "java/lang/invoke/VarHandle" ∧ (parseMethodDescriptor yX2_removeLast.desc).map (fun d => d.parameters.length) = some 0 := by decide +kernel
theorem hd_X2_run : yX2_run.cls ≠ "java/lang/invoke/MethodHandle" ∧ yX2_run.cls ≠ "java/lang/invoke/VarHandle" ∧ (parseMethodDescriptor yX2_run.desc).map (fun d => d.parameters.length) = some 1 := by decide +kernel
theorem hd_X2_shownBy : yX2_shownBy.cls ≠ "java/lang/invoke/MethodHandle" ∧ yX2_shownBy.cls ≠ "java/lang/invoke/VarHandle" ∧ (parseMethodDescriptor yX2_shownBy.desc).map (fun d => d.parameters.length) = some 1 := by decide +kernel
theorem hd_X2_strokesFor : yX2_strokesFor.cls ≠ "java/lang/invoke/MethodHandle" ∧ yX2_strokesFor.cls ≠ "java/lang/invoke/VarHandle" ∧ (parseMethodDescriptor yX2_strokesFor.desc).map (fun d => d.parameters.length) = some 1 := by decide +kernel
theorem hd_X2_strokesOfSet : yX2_strokesOfSet.cls ≠ "java/lang/invoke/MethodHandle" ∧ yX2_strokesOfSet.cls ≠ "java/lang/invoke/VarHandle" ∧ (parseMethodDescriptor yX2_strokesOfSet.desc).map (fun d => d.parameters.length) = some 1 := by decide +kernel
theorem hd_X2_struckBy : yX2_struckBy.cls ≠ "java/lang/invoke/MethodHandle" ∧ yX2_struckBy.cls ≠ "java/lang/invoke/VarHandle" ∧ (parseMethodDescriptor yX2_struckBy.desc).map (fun d => d.parameters.length) = some 1 := by decide +kernel
theorem hd_X2_tiedPairs : yX2_tiedPairs.cls ≠ "java/lang/invoke/MethodHandle" ∧ yX2_tiedPairs.cls ≠ "java/lang/invoke/VarHandle" ∧ (parseMethodDescriptor yX2_tiedPairs.desc).map (fun d => d.parameters.length) = some 0 := by decide +kernel
theorem hd_X2_toStart : yX2_toStart.cls ≠ "java/lang/invoke/MethodHandle" ∧ yX2_toStart.cls ≠ "java/lang/invoke/VarHandle" ∧ (parseMethodDescriptor yX2_toStart.desc).map (fun d => d.parameters.length) = some 0 := by decide +kernel
theorem hd_X2_trueMinutes : yX2_trueMinutes.cls ≠ "java/lang/invoke/MethodHandle" ∧ yX2_trueMinutes.cls ≠ "java/lang/invoke/VarHandle" ∧ (parseMethodDescriptor yX2_trueMinutes.desc).map (fun d => d.parameters.length) = some 0 := by decide +kernel
theorem hd_X2_turnOn : yX2_turnOn.cls ≠ "java/lang/invoke/MethodHandle" ∧ yX2_turnOn.cls ≠ "java/lang/invoke/VarHandle" ∧ (parseMethodDescriptor yX2_turnOn.desc).map (fun d => d.parameters.length) = some 2 := by decide +kernel
theorem hd_X2_weatherAt : yX2_weatherAt.cls ≠ "java/lang/invoke/MethodHandle" ∧ yX2_weatherAt.cls ≠ "java/lang/invoke/VarHandle" ∧ (parseMethodDescriptor yX2_weatherAt.desc).map (fun d => d.parameters.length) = some 1 := by decide +kernel
theorem hd_X2_windOn : yX2_windOn.cls ≠ "java/lang/invoke/MethodHandle" ∧ yX2_windOn.cls ≠ "java/lang/invoke/VarHandle" ∧ (parseMethodDescriptor yX2_windOn.desc).map (fun d => d.parameters.length) = some 2 := by decide +kernel
theorem hd_X3_become : yX3_become.cls ≠ "java/lang/invoke/MethodHandle" ∧ yX3_become.cls ≠ "java/lang/invoke/VarHandle" ∧ (parseMethodDescriptor yX3_become.desc).map (fun d => d.parameters.length) = some 1 := by decide +kernel
theorem hd_X3_forgetOldest : yX3_forgetOldest.cls ≠ "java/lang/invoke/MethodHandle" ∧ yX3_forgetOldest.cls ≠ "java/lang/invoke/VarHandle" ∧ (parseMethodDescriptor yX3_forgetOldest.desc).map (fun d => d.parameters.length) = some 0 := by decide +kernel
theorem hd_X3_init : yX3_init.cls ≠ "java/lang/invoke/MethodHandle" ∧ yX3_init.cls ≠ "java/lang/invoke/VarHandle" ∧ (parseMethodDescriptor yX3_init.desc).map (fun d => d.parameters.length) = some 0 := by decide +kernel
theorem hd_X3_note : yX3_note.cls ≠ "java/lang/invoke/MethodHandle" ∧ yX3_note.cls ≠ "java/lang/invoke/VarHandle" ∧ (parseMethodDescriptor yX3_note.desc).map (fun d => d.parameters.length) = some 3 := by decide +kernel
theorem hd_X3_takeBack : yX3_takeBack.cls ≠ "java/lang/invoke/MethodHandle" ∧ yX3_takeBack.cls ≠ "java/lang/invoke/VarHandle" ∧ (parseMethodDescriptor yX3_takeBack.desc).map (fun d => d.parameters.length) = some 1 := by decide +kernel
theorem hd_X4_holds : yX4_holds.cls ≠ "java/lang/invoke/MethodHandle" ∧ yX4_holds.cls ≠ "java/lang/invoke/VarHandle" ∧ (parseMethodDescriptor yX4_holds.desc).map (fun d => d.parameters.length) = some 2 := by decide +kernel
theorem hd_X4_init : yX4_init.cls ≠ "java/lang/invoke/MethodHandle" ∧ yX4_init.cls ≠ "java/lang/invoke/VarHandle" ∧ (parseMethodDescriptor yX4_init.desc).map (fun d => d.parameters.length) = some 0 := by decide +kernel
theorem hd_X4_put : yX4_put.cls ≠ "java/lang/invoke/MethodHandle" ∧ yX4_put.cls ≠ "java/lang/invoke/VarHandle" ∧ (parseMethodDescriptor yX4_put.desc).map (fun d => d.parameters.length) = some 2 := by decide +kernel
theorem hd_X4_refusal : yX4_refusal.cls ≠ "java/lang/invoke/MethodHandle" ∧ yX4_refusal.cls ≠ "java/lang/invoke/VarHandle" ∧ (parseMethodDescriptor yX4_refusal.desc).map (fun d => d.parameters.length) = some 3 := by decide +kernel
theorem hd_X4_renew : yX4_renew.cls ≠ "java/lang/invoke/MethodHandle" ∧ yX4_renew.cls ≠ "java/lang/invoke/VarHandle" ∧ (parseMethodDescriptor yX4_renew.desc).map (fun d => d.parameters.length) = some 2 := by decide +kernel
theorem hd_X5_fails : yX5_fails.cls ≠ "java/lang/invoke/MethodHandle" ∧ yX5_fails.cls ≠ "java/lang/invoke/VarHandle" ∧ (parseMethodDescriptor yX5_fails.desc).map (fun d => d.parameters.length) = some 1 := by decide +kernel
theorem hd_X5_here : yX5_here.cls ≠ "java/lang/invoke/MethodHandle" ∧ yX5_here.cls ≠ "java/lang/invoke/VarHandle" ∧ (parseMethodDescriptor yX5_here.desc).map (fun d => d.parameters.length) = some 0 := by decide +kernel
theorem hd_X5_init : yX5_init.cls ≠ "java/lang/invoke/MethodHandle" ∧ yX5_init.cls ≠ "java/lang/invoke/VarHandle" ∧ (parseMethodDescriptor yX5_init.desc).map (fun d => d.parameters.length) = some 0 := by decide +kernel
theorem hd_X5_isDigit : yX5_isDigit.cls ≠ "java/lang/invoke/MethodHandle" ∧ yX5_isDigit.cls ≠ "java/lang/invoke/VarHandle" ∧ (parseMethodDescriptor yX5_isDigit.desc).map (fun d => d.parameters.length) = some 1 := by decide +kernel
theorem hd_X5_next : yX5_next.cls ≠ "java/lang/invoke/MethodHandle" ∧ yX5_next.cls ≠ "java/lang/invoke/VarHandle" ∧ (parseMethodDescriptor yX5_next.desc).map (fun d => d.parameters.length) = some 0 := by decide +kernel
theorem hd_X5_number : yX5_number.cls ≠ "java/lang/invoke/MethodHandle" ∧ yX5_number.cls ≠ "java/lang/invoke/VarHandle" ∧ (parseMethodDescriptor yX5_number.desc).map (fun d => d.parameters.length) = some 2 := by decide +kernel
theorem hd_X5_readAct : yX5_readAct.cls ≠ "java/lang/invoke/MethodHandle" ∧ yX5_readAct.cls ≠ "java/lang/invoke/VarHandle" ∧ (parseMethodDescriptor yX5_readAct.desc).map (fun d => d.parameters.length) = some 1 := by decide +kernel
theorem hd_X5_readBreath : yX5_readBreath.cls ≠ "java/lang/invoke/MethodHandle" ∧ yX5_readBreath.cls ≠ "java/lang/invoke/VarHandle" ∧ (parseMethodDescriptor yX5_readBreath.desc).map (fun d => d.parameters.length) = some 1 := by decide +kernel
theorem hd_X5_readByClock : yX5_readByClock.cls ≠ "java/lang/invoke/MethodHandle" ∧ yX5_readByClock.cls ≠ "java/lang/invoke/VarHandle" ∧ (parseMethodDescriptor yX5_readByClock.desc).map (fun d => d.parameters.length) = some 3 := by decide +kernel
theorem hd_X5_readClock : yX5_readClock.cls ≠ "java/lang/invoke/MethodHandle" ∧ yX5_readClock.cls ≠ "java/lang/invoke/VarHandle" ∧ (parseMethodDescriptor yX5_readClock.desc).map (fun d => d.parameters.length) = some 1 := by decide +kernel
theorem hd_X5_readDay : yX5_readDay.cls ≠ "java/lang/invoke/MethodHandle" ∧ yX5_readDay.cls ≠ "java/lang/invoke/VarHandle" ∧ (parseMethodDescriptor yX5_readDay.desc).map (fun d => d.parameters.length) = some 1 := by decide +kernel
theorem hd_X5_readSigns : yX5_readSigns.cls ≠ "java/lang/invoke/MethodHandle" ∧ yX5_readSigns.cls ≠ "java/lang/invoke/VarHandle" ∧ (parseMethodDescriptor yX5_readSigns.desc).map (fun d => d.parameters.length) = some 4 := by decide +kernel
theorem hd_X5_readStreet : yX5_readStreet.cls ≠ "java/lang/invoke/MethodHandle" ∧ yX5_readStreet.cls ≠ "java/lang/invoke/VarHandle" ∧ (parseMethodDescriptor yX5_readStreet.desc).map (fun d => d.parameters.length) = some 1 := by decide +kernel
theorem hd_X5_rewind : yX5_rewind.cls ≠ "java/lang/invoke/MethodHandle" ∧ yX5_rewind.cls ≠ "java/lang/invoke/VarHandle" ∧ (parseMethodDescriptor yX5_rewind.desc).map (fun d => d.parameters.length) = some 0 := by decide +kernel
theorem hd_X5_skip : yX5_skip.cls ≠ "java/lang/invoke/MethodHandle" ∧ yX5_skip.cls ≠ "java/lang/invoke/VarHandle" ∧ (parseMethodDescriptor yX5_skip.desc).map (fun d => d.parameters.length) = some 0 := by decide +kernel
theorem hd_X5_takes : yX5_takes.cls ≠ "java/lang/invoke/MethodHandle" ∧ yX5_takes.cls ≠ "java/lang/invoke/VarHandle" ∧ (parseMethodDescriptor yX5_takes.desc).map (fun d => d.parameters.length) = some 1 := by decide +kernel
theorem hd_X6_become : yX6_become.cls ≠ "java/lang/invoke/MethodHandle" ∧ yX6_become.cls ≠ "java/lang/invoke/VarHandle" ∧ (parseMethodDescriptor yX6_become.desc).map (fun d => d.parameters.length) = some 1 := by decide +kernel
theorem hd_X6_drawWeather : yX6_drawWeather.cls ≠ "java/lang/invoke/MethodHandle" ∧ yX6_drawWeather.cls ≠ "java/lang/invoke/VarHandle" ∧ (parseMethodDescriptor yX6_drawWeather.desc).map (fun d => d.parameters.length) = some 0 := by decide +kernel
theorem hd_X6_init : yX6_init.cls ≠ "java/lang/invoke/MethodHandle" ∧ yX6_init.cls ≠ "java/lang/invoke/VarHandle" ∧ (parseMethodDescriptor yX6_init.desc).map (fun d => d.parameters.length) = some 0 := by decide +kernel
theorem hd_X7_breathe : yX7_breathe.cls ≠ "java/lang/invoke/MethodHandle" ∧ yX7_breathe.cls ≠ "java/lang/invoke/VarHandle" ∧ (parseMethodDescriptor yX7_breathe.desc).map (fun d => d.parameters.length) = some 1 := by decide +kernel
theorem hd_X7_comesTo : yX7_comesTo.cls ≠ "java/lang/invoke/MethodHandle" ∧ yX7_comesTo.cls ≠ "java/lang/invoke/VarHandle" ∧ (parseMethodDescriptor yX7_comesTo.desc).map (fun d => d.parameters.length) = some 5 := by decide +kernel
theorem hd_X7_fillGains : yX7_fillGains.cls ≠ "java/lang/invoke/MethodHandle" ∧ yX7_fillGains.cls ≠ "java/lang/invoke/VarHandle" ∧ (parseMethodDescriptor yX7_fillGains.desc).map (fun d => d.parameters.length) = some 3 := by decide +kernel
theorem hd_X7_foresee : yX7_foresee.cls ≠ "java/lang/invoke/MethodHandle" ∧ yX7_foresee.cls ≠ "java/lang/invoke/VarHandle" ∧ (parseMethodDescriptor yX7_foresee.desc).map (fun d => d.parameters.length) = some 2 := by decide +kernel
theorem hd_X7_hour : yX7_hour.cls ≠ "java/lang/invoke/MethodHandle" ∧ yX7_hour.cls ≠ "java/lang/invoke/VarHandle" ∧ (parseMethodDescriptor yX7_hour.desc).map (fun d => d.parameters.length) = some 0 := by decide +kernel
theorem hd_X7_hoursUntilHome : yX7_hoursUntilHome.cls ≠ "java/lang/invoke/MethodHandle" ∧ yX7_hoursUntilHome.cls ≠ "java/lang/invoke/VarHandle" ∧ (parseMethodDescriptor yX7_hoursUntilHome.desc).map (fun d => d.parameters.length) = some 2 := by decide +kernel
theorem hd_X7_isAim : yX7_isAim.cls ≠ "java/lang/invoke/MethodHandle" ∧ yX7_isAim.cls ≠ "java/lang/invoke/VarHandle" ∧ (parseMethodDescriptor yX7_isAim.desc).map (fun d => d.parameters.length) = some 3 := by decide +kernel
theorem hd_X7_isClock : yX7_isClock.cls ≠ "java/lang/invoke/MethodHandle" ∧ yX7_isClock.cls ≠ "java/lang/invoke/VarHandle" ∧ (parseMethodDescriptor yX7_isClock.desc).map (fun d => d.parameters.length) = some 1 := by decide +kernel
theorem hd_X7_isFilmed : yX7_isFilmed.cls ≠ "java/lang/invoke/MethodHandle" ∧ yX7_isFilmed.cls ≠ "java/lang/invoke/VarHandle" ∧ (parseMethodDescriptor yX7_isFilmed.desc).map (fun d => d.parameters.length) = some 2 := by decide +kernel
theorem hd_X7_isIn : yX7_isIn.cls ≠ "java/lang/invoke/MethodHandle" ∧ yX7_isIn.cls ≠ "java/lang/invoke/VarHandle" ∧ (parseMethodDescriptor yX7_isIn.desc).map (fun d => d.parameters.length) = some 3 := by decide +kernel
theorem hd_X7_isLane : yX7_isLane.cls ≠ "java/lang/invoke/MethodHandle" ∧ yX7_isLane.cls ≠ "java/lang/invoke/VarHandle" ∧ (parseMethodDescriptor yX7_isLane.desc).map (fun d => d.parameters.length) = some 1 := by decide +kernel
theorem hd_X7_isRate : yX7_isRate.cls ≠ "java/lang/invoke/MethodHandle" ∧ yX7_isRate.cls ≠ "java/lang/invoke/VarHandle" ∧ (parseMethodDescriptor yX7_isRate.desc).map (fun d => d.parameters.length) = some 1 := by decide +kernel
theorem hd_X7_isRest : yX7_isRest.cls ≠ "java/lang/invoke/MethodHandle" ∧ yX7_isRest.cls ≠ "java/lang/invoke/VarHandle" ∧ (parseMethodDescriptor yX7_isRest.desc).map (fun d => d.parameters.length) = some 2 := by decide +kernel
theorem hd_X7_isSet : yX7_isSet.cls ≠ "java/lang/invoke/MethodHandle" ∧ yX7_isSet.cls ≠ "java/lang/invoke/VarHandle" ∧ (parseMethodDescriptor yX7_isSet.desc).map (fun d => d.parameters.length) = some 1 := by decide +kernel
theorem hd_X7_isSheet : yX7_isSheet.cls ≠ "java/lang/invoke/MethodHandle" ∧ yX7_isSheet.cls ≠ "java/lang/invoke/VarHandle" ∧ (parseMethodDescriptor yX7_isSheet.desc).map (fun d => d.parameters.length) = some 1 := by decide +kernel
theorem hd_X7_isSpan : yX7_isSpan.cls ≠ "java/lang/invoke/MethodHandle" ∧ yX7_isSpan.cls ≠ "java/lang/invoke/VarHandle" ∧ (parseMethodDescriptor yX7_isSpan.desc).map (fun d => d.parameters.length) = some 1 := by decide +kernel
theorem hd_X7_isWindow : yX7_isWindow.cls ≠ "java/lang/invoke/MethodHandle" ∧ yX7_isWindow.cls ≠ "java/lang/invoke/VarHandle" ∧ (parseMethodDescriptor yX7_isWindow.desc).map (fun d => d.parameters.length) = some 1 := by decide +kernel
theorem hd_X7_perform : yX7_perform.cls ≠ "java/lang/invoke/MethodHandle" ∧ yX7_perform.cls ≠ "java/lang/invoke/VarHandle" ∧ (parseMethodDescriptor yX7_perform.desc).map (fun d => d.parameters.length) = some 3 := by decide +kernel
theorem hd_X7_turn : yX7_turn.cls ≠ "java/lang/invoke/MethodHandle" ∧ yX7_turn.cls ≠ "java/lang/invoke/VarHandle" ∧ (parseMethodDescriptor yX7_turn.desc).map (fun d => d.parameters.length) = some 2 := by decide +kernel
theorem hd_X7_usefulTurns : yX7_usefulTurns.cls ≠ "java/lang/invoke/MethodHandle" ∧ yX7_usefulTurns.cls ≠ "java/lang/invoke/VarHandle" ∧ (parseMethodDescriptor yX7_usefulTurns.desc).map (fun d => d.parameters.length) = some 2 := by decide +kernel
theorem hd_X7_wind : yX7_wind.cls ≠ "java/lang/invoke/MethodHandle" ∧ yX7_wind.cls ≠ "java/lang/invoke/VarHandle" ∧ (parseMethodDescriptor yX7_wind.desc).map (fun d => d.parameters.length) = some 2 := by decide +kernel
theorem hd_X8_add : yX8_add.cls ≠ "java/lang/invoke/MethodHandle" ∧ yX8_add.cls ≠ "java/lang/invoke/VarHandle" ∧ (parseMethodDescriptor yX8_add.desc).map (fun d => d.parameters.length) = some 4 := by decide +kernel
theorem hd_X8_addHands : yX8_addHands.cls ≠ "java/lang/invoke/MethodHandle" ∧ yX8_addHands.cls ≠ "java/lang/invoke/VarHandle" ∧ (parseMethodDescriptor yX8_addHands.desc).map (fun d => d.parameters.length) = some 2 := by decide +kernel
theorem hd_X8_addSpring : yX8_addSpring.cls ≠ "java/lang/invoke/MethodHandle" ∧ yX8_addSpring.cls ≠ "java/lang/invoke/VarHandle" ∧ (parseMethodDescriptor yX8_addSpring.desc).map (fun d => d.parameters.length) = some 2 := by decide +kernel
theorem hd_X8_allBack : yX8_allBack.cls ≠ "java/lang/invoke/MethodHandle" ∧ yX8_allBack.cls ≠ "java/lang/invoke/VarHandle" ∧ (parseMethodDescriptor yX8_allBack.desc).map (fun d => d.parameters.length) = some 0 := by decide +kernel
theorem hd_X8_areClocks : yX8_areClocks.cls ≠ "java/lang/invoke/MethodHandle" ∧ yX8_areClocks.cls ≠ "java/lang/invoke/VarHandle" ∧ (parseMethodDescriptor yX8_areClocks.desc).map (fun d => d.parameters.length) = some 1 := by decide +kernel
theorem hd_X8_areSo : yX8_areSo.cls ≠ "java/lang/invoke/MethodHandle" ∧ yX8_areSo.cls ≠ "java/lang/invoke/VarHandle" ∧ (parseMethodDescriptor yX8_areSo.desc).map (fun d => d.parameters.length) = some 1 := by decide +kernel
theorem hd_X8_asLane : yX8_asLane.cls ≠ "java/lang/invoke/MethodHandle" ∧ yX8_asLane.cls ≠ "java/lang/invoke/VarHandle" ∧ (parseMethodDescriptor yX8_asLane.desc).map (fun d => d.parameters.length) = some 2 := by decide +kernel
theorem hd_X8_behind : yX8_behind.cls ≠ "java/lang/invoke/MethodHandle" ∧ yX8_behind.cls ≠ "java/lang/invoke/VarHandle" ∧ (parseMethodDescriptor yX8_behind.desc).map (fun d => d.parameters.length) = some 3 := by decide +kernel
theorem hd_X8_breathe : yX8_breathe.cls ≠ "java/lang/invoke/MethodHandle" ∧ yX8_breathe.cls ≠ "java/lang/invoke/VarHandle" ∧ (parseMethodDescriptor yX8_breathe.desc).map (fun d => d.parameters.length) = some 1 := by decide +kernel
theorem hd_X8_bringBack : yX8_bringBack.cls ≠ "java/lang/invoke/MethodHandle" ∧ yX8_bringBack.cls ≠ "java/lang/invoke/VarHandle" ∧ (parseMethodDescriptor yX8_bringBack.desc).map (fun d => d.parameters.length) = some 0 := by decide +kernel
theorem hd_X8_carried : yX8_carried.cls ≠ "java/lang/invoke/MethodHandle" ∧ yX8_carried.cls ≠ "java/lang/invoke/VarHandle" ∧ (parseMethodDescriptor yX8_carried.desc).map (fun d => d.parameters.length) = some 3 := by decide +kernel
theorem hd_X8_dialOf : yX8_dialOf.cls ≠ "java/lang/invoke/MethodHandle" ∧ yX8_dialOf.cls ≠ "java/lang/invoke/VarHandle" ∧ (parseMethodDescriptor yX8_dialOf.desc).map (fun d => d.parameters.length) = some 1 := by decide +kernel
theorem hd_X8_does : yX8_does.cls ≠ "java/lang/invoke/MethodHandle" ∧ yX8_does.cls ≠ "java/lang/invoke/VarHandle" ∧ (parseMethodDescriptor yX8_does.desc).map (fun d => d.parameters.length) = some 1 := by decide +kernel
theorem hd_X8_doesRest : yX8_doesRest.cls ≠ "java/lang/invoke/MethodHandle" ∧ yX8_doesRest.cls ≠ "java/lang/invoke/VarHandle" ∧ (parseMethodDescriptor yX8_doesRest.desc).map (fun d => d.parameters.length) = some 1 := by decide +kernel
theorem hd_X8_end : yX8_end.cls ≠ "java/lang/invoke/MethodHandle" ∧ yX8_end.cls ≠ "java/lang/invoke/VarHandle" ∧ (parseMethodDescriptor yX8_end.desc).map (fun d => d.parameters.length) = some 1 := by decide +kernel
theorem hd_X8_goHours : yX8_goHours.cls ≠ "java/lang/invoke/MethodHandle" ∧ yX8_goHours.cls ≠ "java/lang/invoke/VarHandle" ∧ (parseMethodDescriptor yX8_goHours.desc).map (fun d => d.parameters.length) = some 1 := by decide +kernel
theorem hd_X8_goOn : yX8_goOn.cls ≠ "java/lang/invoke/MethodHandle" ∧ yX8_goOn.cls ≠ "java/lang/invoke/VarHandle" ∧ (parseMethodDescriptor yX8_goOn.desc).map (fun d => d.parameters.length) = some 1 := by decide +kernel
theorem hd_X8_goes : yX8_goes.cls ≠ "java/lang/invoke/MethodHandle" ∧ yX8_goes.cls ≠ "java/lang/invoke/VarHandle" ∧ (parseMethodDescriptor yX8_goes.desc).map (fun d => d.parameters.length) = some 2 := by decide +kernel
theorem hd_X8_has : yX8_has.cls ≠ "java/lang/invoke/MethodHandle" ∧ yX8_has.cls ≠ "java/lang/invoke/VarHandle" ∧ (parseMethodDescriptor yX8_has.desc).map (fun d => d.parameters.length) = some 2 := by decide +kernel
theorem hd_X8_homes : yX8_homes.cls ≠ "java/lang/invoke/MethodHandle" ∧ yX8_homes.cls ≠ "java/lang/invoke/VarHandle" ∧ (parseMethodDescriptor yX8_homes.desc).map (fun d => d.parameters.length) = some 0 := by decide +kernel
theorem hd_X8_hour : yX8_hour.cls ≠ "java/lang/invoke/MethodHandle" ∧ yX8_hour.cls ≠ "java/lang/invoke/VarHandle" ∧ (parseMethodDescriptor yX8_hour.desc).map (fun d => d.parameters.length) = some 0 := by decide +kernel
theorem hd_X8_in : yX8_in.cls ≠ "java/lang/invoke/MethodHandle" ∧ yX8_in.cls ≠ "java/lang/invoke/VarHandle" ∧ (parseMethodDescriptor yX8_in.desc).map (fun d => d.parameters.length) = some 3 := by decide +kernel
theorem hd_X8_isAhead : yX8_isAhead.cls ≠ "java/lang/invoke/MethodHandle" ∧ yX8_isAhead.cls ≠ "java/lang/invoke/VarHandle" ∧ (parseMethodDescriptor yX8_isAhead.desc).map (fun d => d.parameters.length) = some 2 := by decide +kernel
theorem hd_X8_isAsked : yX8_isAsked.cls ≠ "java/lang/invoke/MethodHandle" ∧ yX8_isAsked.cls ≠ "java/lang/invoke/VarHandle" ∧ (parseMethodDescriptor yX8_isAsked.desc).map (fun d => d.parameters.length) = some 3 := by decide +kernel
theorem hd_X8_isClock : yX8_isClock.cls ≠ "java/lang/invoke/MethodHandle" ∧ yX8_isClock.cls ≠ "java/lang/invoke/VarHandle" ∧ (parseMethodDescriptor yX8_isClock.desc).map (fun d => d.parameters.length) = some 1 := by decide +kernel
theorem hd_X8_isHome : yX8_isHome.cls ≠ "java/lang/invoke/MethodHandle" ∧ yX8_isHome.cls ≠ "java/lang/invoke/VarHandle" ∧ (parseMethodDescriptor yX8_isHome.desc).map (fun d => d.parameters.length) = some 1 := by decide +kernel
theorem hd_X8_isLong : yX8_isLong.cls ≠ "java/lang/invoke/MethodHandle" ∧ yX8_isLong.cls ≠ "java/lang/invoke/VarHandle" ∧ (parseMethodDescriptor yX8_isLong.desc).map (fun d => d.parameters.length) = some 1 := by decide +kernel
theorem hd_X8_isSheet : yX8_isSheet.cls ≠ "java/lang/invoke/MethodHandle" ∧ yX8_isSheet.cls ≠ "java/lang/invoke/VarHandle" ∧ (parseMethodDescriptor yX8_isSheet.desc).map (fun d => d.parameters.length) = some 2 := by decide +kernel
theorem hd_X8_isWindow : yX8_isWindow.cls ≠ "java/lang/invoke/MethodHandle" ∧ yX8_isWindow.cls ≠ "java/lang/invoke/VarHandle" ∧ (parseMethodDescriptor yX8_isWindow.desc).map (fun d => d.parameters.length) = some 1 := by decide +kernel
theorem hd_X8_keepAside : yX8_keepAside.cls ≠ "java/lang/invoke/MethodHandle" ∧ yX8_keepAside.cls ≠ "java/lang/invoke/VarHandle" ∧ (parseMethodDescriptor yX8_keepAside.desc).map (fun d => d.parameters.length) = some 0 := by decide +kernel
theorem hd_X8_kindOf : yX8_kindOf.cls ≠ "java/lang/invoke/MethodHandle" ∧ yX8_kindOf.cls ≠ "java/lang/invoke/VarHandle" ∧ (parseMethodDescriptor yX8_kindOf.desc).map (fun d => d.parameters.length) = some 1 := by decide +kernel
theorem hd_X8_lacksRow : yX8_lacksRow.cls ≠ "java/lang/invoke/MethodHandle" ∧ yX8_lacksRow.cls ≠ "java/lang/invoke/VarHandle" ∧ (parseMethodDescriptor yX8_lacksRow.desc).map (fun d => d.parameters.length) = some 4 := by decide +kernel
theorem hd_X8_nextLetter : yX8_nextLetter.cls ≠ "java/lang/invoke/MethodHandle" ∧ yX8_nextLetter.cls ≠ "java/lang/invoke/VarHandle" ∧ (parseMethodDescriptor yX8_nextLetter.desc).map (fun d => d.parameters.length) = some 0 := by decide +kernel
theorem hd_X8_note : yX8_note.cls ≠ "java/lang/invoke/MethodHandle" ∧ yX8_note.cls ≠ "java/lang/invoke/VarHandle" ∧ (parseMethodDescriptor yX8_note.desc).map (fun d => d.parameters.length) = some 3 := by decide +kernel
theorem hd_X8_placeOf : yX8_placeOf.cls ≠ "java/lang/invoke/MethodHandle" ∧ yX8_placeOf.cls ≠ "java/lang/invoke/VarHandle" ∧ (parseMethodDescriptor yX8_placeOf.desc).map (fun d => d.parameters.length) = some 1 := by decide +kernel
theorem hd_X8_placeWith : yX8_placeWith.cls ≠ "java/lang/invoke/MethodHandle" ∧ yX8_placeWith.cls ≠ "java/lang/invoke/VarHandle" ∧ (parseMethodDescriptor yX8_placeWith.desc).map (fun d => d.parameters.length) = some 4 := by decide +kernel
theorem hd_X8_readAct : yX8_readAct.cls ≠ "java/lang/invoke/MethodHandle" ∧ yX8_readAct.cls ≠ "java/lang/invoke/VarHandle" ∧ (parseMethodDescriptor yX8_readAct.desc).map (fun d => d.parameters.length) = some 1 := by decide +kernel
theorem hd_X8_readClock : yX8_readClock.cls ≠ "java/lang/invoke/MethodHandle" ∧ yX8_readClock.cls ≠ "java/lang/invoke/VarHandle" ∧ (parseMethodDescriptor yX8_readClock.desc).map (fun d => d.parameters.length) = some 1 := by decide +kernel
theorem hd_X8_readDay : yX8_readDay.cls ≠ "java/lang/invoke/MethodHandle" ∧ yX8_readDay.cls ≠ "java/lang/invoke/VarHandle" ∧ (parseMethodDescriptor yX8_readDay.desc).map (fun d => d.parameters.length) = some 0 := by decide +kernel
theorem hd_X8_readNumber : yX8_readNumber.cls ≠ "java/lang/invoke/MethodHandle" ∧ yX8_readNumber.cls ≠ "java/lang/invoke/VarHandle" ∧ (parseMethodDescriptor yX8_readNumber.desc).map (fun d => d.parameters.length) = some 2 := by decide +kernel
theorem hd_X8_readSigns : yX8_readSigns.cls ≠ "java/lang/invoke/MethodHandle" ∧ yX8_readSigns.cls ≠ "java/lang/invoke/VarHandle" ∧ (parseMethodDescriptor yX8_readSigns.desc).map (fun d => d.parameters.length) = some 3 := by decide +kernel
theorem hd_X8_readStreet : yX8_readStreet.cls ≠ "java/lang/invoke/MethodHandle" ∧ yX8_readStreet.cls ≠ "java/lang/invoke/VarHandle" ∧ (parseMethodDescriptor yX8_readStreet.desc).map (fun d => d.parameters.length) = some 0 := by decide +kernel
theorem hd_X8_run : yX8_run.cls ≠ "java/lang/invoke/MethodHandle" ∧ yX8_run.cls ≠ "java/lang/invoke/VarHandle" ∧ (parseMethodDescriptor yX8_run.desc).map (fun d => d.parameters.length) = some 1 := by decide +kernel
theorem hd_X8_shownBy : yX8_shownBy.cls ≠ "java/lang/invoke/MethodHandle" ∧ yX8_shownBy.cls ≠ "java/lang/invoke/VarHandle" ∧ (parseMethodDescriptor yX8_shownBy.desc).map (fun d => d.parameters.length) = some 1 := by decide +kernel
theorem hd_X8_skyNow : yX8_skyNow.cls ≠ "java/lang/invoke/MethodHandle" ∧ yX8_skyNow.cls ≠ "java/lang/invoke/VarHandle" ∧ (parseMethodDescriptor yX8_skyNow.desc).map (fun d => d.parameters.length) = some 0 := by decide +kernel
theorem hd_X8_skyOf : yX8_skyOf.cls ≠ "java/lang/invoke/MethodHandle" ∧ yX8_skyOf.cls ≠ "java/lang/invoke/VarHandle" ∧ (parseMethodDescriptor yX8_skyOf.desc).map (fun d => d.parameters.length) = some 1 := by decide +kernel
theorem hd_X8_strikes : yX8_strikes.cls ≠ "java/lang/invoke/MethodHandle" ∧ yX8_strikes.cls ≠ "java/lang/invoke/VarHandle" ∧ (parseMethodDescriptor yX8_strikes.desc).map (fun d => d.parameters.length) = some 1 := by decide +kernel
theorem hd_X8_strokesOf : yX8_strokesOf.cls ≠ "java/lang/invoke/MethodHandle" ∧ yX8_strokesOf.cls ≠ "java/lang/invoke/VarHandle" ∧ (parseMethodDescriptor yX8_strokesOf.desc).map (fun d => d.parameters.length) = some 1 := by decide +kernel
theorem hd_X8_takes : yX8_takes.cls ≠ "java/lang/invoke/MethodHandle" ∧ yX8_takes.cls ≠ "java/lang/invoke/VarHandle" ∧ (parseMethodDescriptor yX8_takes.desc).map (fun d => d.parameters.length) = some 1 := by decide +kernel
theorem hd_X8_tied : yX8_tied.cls ≠ "java/lang/invoke/MethodHandle" ∧ yX8_tied.cls ≠ "java/lang/invoke/VarHandle" ∧ (parseMethodDescriptor yX8_tied.desc).map (fun d => d.parameters.length) = some 0 := by decide +kernel
theorem hd_X8_truth : yX8_truth.cls ≠ "java/lang/invoke/MethodHandle" ∧ yX8_truth.cls ≠ "java/lang/invoke/VarHandle" ∧ (parseMethodDescriptor yX8_truth.desc).map (fun d => d.parameters.length) = some 0 := by decide +kernel
theorem hd_X8_turn : yX8_turn.cls ≠ "java/lang/invoke/MethodHandle" ∧ yX8_turn.cls ≠ "java/lang/invoke/VarHandle" ∧ (parseMethodDescriptor yX8_turn.desc).map (fun d => d.parameters.length) = some 2 := by decide +kernel
theorem hd_X8_wind : yX8_wind.cls ≠ "java/lang/invoke/MethodHandle" ∧ yX8_wind.cls ≠ "java/lang/invoke/VarHandle" ∧ (parseMethodDescriptor yX8_wind.desc).map (fun d => d.parameters.length) = some 2 := by decide +kernel
