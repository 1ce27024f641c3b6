theorem mw85 : Cond.classLink RL 7 RX7 ∈ wT := tw1 (List.mem_of_getElem? (i := 17) rfl) rfl
theorem mw86 : Cond.instantiable RX7 8 ∈ wT := tw1 (List.mem_of_getElem? (i := 18) rfl) rfl
theorem mw87 : Cond.methodLink RL 9 yX7_init ∈ wT := tw1 (List.mem_of_getElem? (i := 19) rfl) rfl
theorem mw88 : Cond.instanceMethod yX7_init ∈ wT := tw1 (List.mem_of_getElem? (i := 20) rfl) rfl
theorem mw89 : Cond.code yX7_init cX7_init 2 none ∈ wT := tw1 (List.mem_of_getElem? (i := 21) rfl) rfl
theorem mw322 : Cond.methodLink RL 13 yX7_clock ∈ wT := tw2 (List.mem_of_getElem? (i := 14) rfl) rfl
theorem mw323 : Cond.instanceMethod yX7_clock ∈ wT := tw2 (List.mem_of_getElem? (i := 15) rfl) rfl
theorem mw324 : Cond.selects RX7 yX7_clock yX7_clock ∈ wT := tw2 (List.mem_of_getElem? (i := 16) rfl) rfl
theorem mw325 : Cond.code yX7_clock cX7_clock 5 (some .int) ∈ wT := tw2 (List.mem_of_getElem? (i := 17) rfl) rfl
theorem mw336 : Cond.methodLink RL 18 yX7_strike ∈ wT := tw2 (List.mem_of_getElem? (i := 28) rfl) rfl
theorem mw337 : Cond.instanceMethod yX7_strike ∈ wT := tw2 (List.mem_of_getElem? (i := 29) rfl) rfl
theorem mw338 : Cond.selects RX7 yX7_strike yX7_strike ∈ wT := tw2 (List.mem_of_getElem? (i := 30) rfl) rfl
theorem mw339 : Cond.code yX7_strike cX7_strike 1 (some .int) ∈ wT := tw2 (List.mem_of_getElem? (i := 31) rfl) rfl
theorem mw348 : Cond.methodLink RL 23 yX7_told ∈ wT := tw2 (List.mem_of_getElem? (i := 40) rfl) rfl
theorem mw349 : Cond.instanceMethod yX7_told ∈ wT := tw2 (List.mem_of_getElem? (i := 41) rfl) rfl
theorem mw350 : Cond.selects RX7 yX7_told yX7_told ∈ wT := tw2 (List.mem_of_getElem? (i := 42) rfl) rfl
theorem mw351 : Cond.code yX7_told cX7_told 4 (some .int) ∈ wT := tw2 (List.mem_of_getElem? (i := 43) rfl) rfl
theorem mw373 : Cond.methodLink RL 28 yX7_rate ∈ wT := tw2 (List.mem_of_getElem? (i := 65) rfl) rfl
theorem mw374 : Cond.instanceMethod yX7_rate ∈ wT := tw2 (List.mem_of_getElem? (i := 66) rfl) rfl
theorem mw375 : Cond.selects RX7 yX7_rate yX7_rate ∈ wT := tw2 (List.mem_of_getElem? (i := 67) rfl) rfl
theorem mw376 : Cond.code yX7_rate cX7_rate 2 (some .int) ∈ wT := tw2 (List.mem_of_getElem? (i := 68) rfl) rfl
theorem mw377 : Cond.methodLink RL 33 yX7_dial ∈ wT := tw2 (List.mem_of_getElem? (i := 69) rfl) rfl
theorem mw378 : Cond.instanceMethod yX7_dial ∈ wT := tw2 (List.mem_of_getElem? (i := 70) rfl) rfl
theorem mw379 : Cond.selects RX7 yX7_dial yX7_dial ∈ wT := tw2 (List.mem_of_getElem? (i := 71) rfl) rfl
theorem mw380 : Cond.code yX7_dial cX7_dial 2 (some .int) ∈ wT := tw2 (List.mem_of_getElem? (i := 72) rfl) rfl
theorem mw385 : Cond.methodLink RL 37 yX7_paint ∈ wT := tw2 (List.mem_of_getElem? (i := 77) rfl) rfl
theorem mw386 : Cond.instanceMethod yX7_paint ∈ wT := tw2 (List.mem_of_getElem? (i := 78) rfl) rfl
theorem mw387 : Cond.selects RX7 yX7_paint yX7_paint ∈ wT := tw2 (List.mem_of_getElem? (i := 79) rfl) rfl
theorem mw388 : Cond.code yX7_paint cX7_paint 4 (some .int) ∈ wT := tw2 (List.mem_of_getElem? (i := 80) rfl) rfl
theorem mw389 : Cond.methodLink RL 41 yX7_weather ∈ wT := tw2 (List.mem_of_getElem? (i := 81) rfl) rfl
theorem mw390 : Cond.instanceMethod yX7_weather ∈ wT := tw2 (List.mem_of_getElem? (i := 82) rfl) rfl
theorem mw391 : Cond.selects RX7 yX7_weather yX7_weather ∈ wT := tw2 (List.mem_of_getElem? (i := 83) rfl) rfl
theorem mw392 : Cond.code yX7_weather cX7_weather 2 (some .int) ∈ wT := tw2 (List.mem_of_getElem? (i := 84) rfl) rfl
theorem mw397 : Cond.methodLink RL 45 yX7_type ∈ wT := tw2 (List.mem_of_getElem? (i := 89) rfl) rfl
theorem mw398 : Cond.instanceMethod yX7_type ∈ wT := tw2 (List.mem_of_getElem? (i := 90) rfl) rfl
theorem mw399 : Cond.selects RX7 yX7_type yX7_type ∈ wT := tw2 (List.mem_of_getElem? (i := 91) rfl) rfl
theorem mw400 : Cond.code yX7_type cX7_type 2 (some .int) ∈ wT := tw2 (List.mem_of_getElem? (i := 92) rfl) rfl
theorem mw401 : Cond.methodLink RL 49 yX7_course ∈ wT := tw2 (List.mem_of_getElem? (i := 93) rfl) rfl
theorem mw402 : Cond.instanceMethod yX7_course ∈ wT := tw2 (List.mem_of_getElem? (i := 94) rfl) rfl
theorem mw403 : Cond.selects RX7 yX7_course yX7_course ∈ wT := tw2 (List.mem_of_getElem? (i := 95) rfl) rfl
theorem mw404 : Cond.code yX7_course cX7_course 2 (some .int) ∈ wT := tw2 (List.mem_of_getElem? (i := 96) rfl) rfl
theorem mw524 : Cond.methodLink RL 53 yX7_skies ∈ wT := tw2 (List.mem_of_getElem? (i := 216) rfl) rfl
theorem mw525 : Cond.instanceMethod yX7_skies ∈ wT := tw2 (List.mem_of_getElem? (i := 217) rfl) rfl
theorem mw526 : Cond.selects RX7 yX7_skies yX7_skies ∈ wT := tw2 (List.mem_of_getElem? (i := 218) rfl) rfl
theorem mw527 : Cond.code yX7_skies cX7_skies 2 (some .int) ∈ wT := tw2 (List.mem_of_getElem? (i := 219) rfl) rfl
theorem mw529 : Cond.methodLink RL 57 yX7_street ∈ wT := tw2 (List.mem_of_getElem? (i := 221) rfl) rfl
theorem mw530 : Cond.instanceMethod yX7_street ∈ wT := tw2 (List.mem_of_getElem? (i := 222) rfl) rfl
theorem mw531 : Cond.selects RX7 yX7_street yX7_street ∈ wT := tw2 (List.mem_of_getElem? (i := 223) rfl) rfl
theorem mw532 : Cond.code yX7_street cX7_street 2 (some .int) ∈ wT := tw2 (List.mem_of_getElem? (i := 224) rfl) rfl
theorem mw564 : Cond.methodLink RL 61 yX7_day ∈ wT := tw3 (List.mem_of_getElem? (i := 16) rfl) rfl
theorem mw565 : Cond.instanceMethod yX7_day ∈ wT := tw3 (List.mem_of_getElem? (i := 17) rfl) rfl
theorem mw566 : Cond.selects RX7 yX7_day yX7_day ∈ wT := tw3 (List.mem_of_getElem? (i := 18) rfl) rfl
theorem mw567 : Cond.code yX7_day cX7_day 3 (some .int) ∈ wT := tw3 (List.mem_of_getElem? (i := 19) rfl) rfl
theorem mw650 : Cond.methodLink RL 65 yX7_count ∈ wT := tw3 (List.mem_of_getElem? (i := 102) rfl) rfl
theorem mw651 : Cond.instanceMethod yX7_count ∈ wT := tw3 (List.mem_of_getElem? (i := 103) rfl) rfl
theorem mw652 : Cond.selects RX7 yX7_count yX7_count ∈ wT := tw3 (List.mem_of_getElem? (i := 104) rfl) rfl
theorem mw653 : Cond.code yX7_count cX7_count 2 (some .int) ∈ wT := tw3 (List.mem_of_getElem? (i := 105) rfl) rfl
theorem mw666 : Cond.methodLink RL 69 yX7_heard ∈ wT := tw3 (List.mem_of_getElem? (i := 118) rfl) rfl
theorem mw667 : Cond.instanceMethod yX7_heard ∈ wT := tw3 (List.mem_of_getElem? (i := 119) rfl) rfl
theorem mw668 : Cond.selects RX7 yX7_heard yX7_heard ∈ wT := tw3 (List.mem_of_getElem? (i := 120) rfl) rfl
theorem mw669 : Cond.code yX7_heard cX7_heard 1 (some .int) ∈ wT := tw3 (List.mem_of_getElem? (i := 121) rfl) rfl
theorem mw670 : Cond.methodLink RL 73 yX7_place ∈ wT := tw3 (List.mem_of_getElem? (i := 122) rfl) rfl
theorem mw671 : Cond.instanceMethod yX7_place ∈ wT := tw3 (List.mem_of_getElem? (i := 123) rfl) rfl
theorem mw672 : Cond.selects RX7 yX7_place yX7_place ∈ wT := tw3 (List.mem_of_getElem? (i := 124) rfl) rfl
theorem mw673 : Cond.code yX7_place cX7_place 2 (some .int) ∈ wT := tw3 (List.mem_of_getElem? (i := 125) rfl) rfl
theorem mw678 : Cond.methodLink RL 77 yX7_hour ∈ wT := tw3 (List.mem_of_getElem? (i := 130) rfl) rfl
theorem mw679 : Cond.methodLink RL 81 yX7_wind ∈ wT := tw3 (List.mem_of_getElem? (i := 131) rfl) rfl
theorem mw680 : Cond.methodLink RL 85 yX7_turn ∈ wT := tw3 (List.mem_of_getElem? (i := 132) rfl) rfl
theorem mw681 : Cond.methodLink RL 89 yX7_tune ∈ wT := tw3 (List.mem_of_getElem? (i := 133) rfl) rfl
theorem mw682 : Cond.instanceMethod yX7_tune ∈ wT := tw3 (List.mem_of_getElem? (i := 134) rfl) rfl
theorem mw683 : Cond.selects RX7 yX7_tune yX7_tune ∈ wT := tw3 (List.mem_of_getElem? (i := 135) rfl) rfl
theorem mw684 : Cond.code yX7_tune cX7_tune 4 (some .int) ∈ wT := tw3 (List.mem_of_getElem? (i := 136) rfl) rfl
theorem mw685 : Cond.methodLink RL 93 yX7_breathe ∈ wT := tw3 (List.mem_of_getElem? (i := 137) rfl) rfl
theorem mw686 : Cond.methodLink RL 97 yX7_undo ∈ wT := tw3 (List.mem_of_getElem? (i := 138) rfl) rfl
theorem mw687 : Cond.instanceMethod yX7_undo ∈ wT := tw3 (List.mem_of_getElem? (i := 139) rfl) rfl
theorem mw688 : Cond.selects RX7 yX7_undo yX7_undo ∈ wT := tw3 (List.mem_of_getElem? (i := 140) rfl) rfl
theorem mw689 : Cond.code yX7_undo cX7_undo 1 (some .int) ∈ wT := tw3 (List.mem_of_getElem? (i := 141) rfl) rfl
theorem mw694 : Cond.methodLink RL 101 yX7_restart ∈ wT := tw3 (List.mem_of_getElem? (i := 146) rfl) rfl
theorem mw695 : Cond.instanceMethod yX7_restart ∈ wT := tw3 (List.mem_of_getElem? (i := 147) rfl) rfl
theorem mw696 : Cond.selects RX7 yX7_restart yX7_restart ∈ wT := tw3 (List.mem_of_getElem? (i := 148) rfl) rfl
theorem mw697 : Cond.code yX7_restart cX7_restart 2 (some .int) ∈ wT := tw3 (List.mem_of_getElem? (i := 149) rfl) rfl
theorem mw698 : Cond.methodLink RL 105 yX7_behind ∈ wT := tw3 (List.mem_of_getElem? (i := 150) rfl) rfl
theorem mw699 : Cond.instanceMethod yX7_behind ∈ wT := tw3 (List.mem_of_getElem? (i := 151) rfl) rfl
theorem mw700 : Cond.selects RX7 yX7_behind yX7_behind ∈ wT := tw3 (List.mem_of_getElem? (i := 152) rfl) rfl
theorem mw701 : Cond.code yX7_behind cX7_behind 4 (some .int) ∈ wT := tw3 (List.mem_of_getElem? (i := 153) rfl) rfl
theorem mw719 : Cond.methodLink RL 110 yX7_leads ∈ wT := tw3 (List.mem_of_getElem? (i := 171) rfl) rfl
theorem mw720 : Cond.instanceMethod yX7_leads ∈ wT := tw3 (List.mem_of_getElem? (i := 172) rfl) rfl
theorem mw721 : Cond.selects RX7 yX7_leads yX7_leads ∈ wT := tw3 (List.mem_of_getElem? (i := 173) rfl) rfl
theorem mw722 : Cond.code yX7_leads cX7_leads 2 (some .int) ∈ wT := tw3 (List.mem_of_getElem? (i := 174) rfl) rfl
theorem mw728 : Cond.methodLink RL 114 yX7_finish ∈ wT := tw3 (List.mem_of_getElem? (i := 180) rfl) rfl
theorem mw729 : Cond.instanceMethod yX7_finish ∈ wT := tw3 (List.mem_of_getElem? (i := 181) rfl) rfl
theorem mw730 : Cond.selects RX7 yX7_finish yX7_finish ∈ wT := tw3 (List.mem_of_getElem? (i := 182) rfl) rfl
theorem mw731 : Cond.code yX7_finish cX7_finish 3 (some .int) ∈ wT := tw3 (List.mem_of_getElem? (i := 183) rfl) rfl
theorem mw736 : Cond.methodLink RL 118 yX7_over ∈ wT := tw3 (List.mem_of_getElem? (i := 188) rfl) rfl
theorem mw737 : Cond.instanceMethod yX7_over ∈ wT := tw3 (List.mem_of_getElem? (i := 189) rfl) rfl
theorem mw738 : Cond.selects RX7 yX7_over yX7_over ∈ wT := tw3 (List.mem_of_getElem? (i := 190) rfl) rfl
theorem mw739 : Cond.code yX7_over cX7_over 2 (some .int) ∈ wT := tw3 (List.mem_of_getElem? (i := 191) rfl) rfl
theorem mw741 : Cond.methodLink RL 122 yX7_turns ∈ wT := tw3 (List.mem_of_getElem? (i := 193) rfl) rfl
theorem mw742 : Cond.instanceMethod yX7_turns ∈ wT := tw3 (List.mem_of_getElem? (i := 194) rfl) rfl
theorem mw743 : Cond.selects RX7 yX7_turns yX7_turns ∈ wT := tw3 (List.mem_of_getElem? (i := 195) rfl) rfl
theorem mw744 : Cond.code yX7_turns cX7_turns 6 (some .int) ∈ wT := tw3 (List.mem_of_getElem? (i := 196) rfl) rfl
theorem mw759 : Cond.methodLink RL 126 yX7_hands ∈ wT := tw3 (List.mem_of_getElem? (i := 211) rfl) rfl
theorem mw760 : Cond.instanceMethod yX7_hands ∈ wT := tw3 (List.mem_of_getElem? (i := 212) rfl) rfl
theorem mw761 : Cond.selects RX7 yX7_hands yX7_hands ∈ wT := tw3 (List.mem_of_getElem? (i := 213) rfl) rfl
theorem mw762 : Cond.code yX7_hands cX7_hands 5 (some .int) ∈ wT := tw3 (List.mem_of_getElem? (i := 214) rfl) rfl
theorem mw763 : Cond.methodLink RL 130 yX7_both ∈ wT := tw3 (List.mem_of_getElem? (i := 215) rfl) rfl
theorem mw764 : Cond.instanceMethod yX7_both ∈ wT := tw3 (List.mem_of_getElem? (i := 216) rfl) rfl
theorem mw765 : Cond.selects RX7 yX7_both yX7_both ∈ wT := tw3 (List.mem_of_getElem? (i := 217) rfl) rfl
theorem mw766 : Cond.code yX7_both cX7_both 9 (some .int) ∈ wT := tw3 (List.mem_of_getElem? (i := 218) rfl) rfl
theorem mw767 : Cond.methodLink RL 134 yX7_duel ∈ wT := tw3 (List.mem_of_getElem? (i := 219) rfl) rfl
theorem mw768 : Cond.instanceMethod yX7_duel ∈ wT := tw3 (List.mem_of_getElem? (i := 220) rfl) rfl
theorem mw769 : Cond.selects RX7 yX7_duel yX7_duel ∈ wT := tw3 (List.mem_of_getElem? (i := 221) rfl) rfl
theorem mw770 : Cond.code yX7_duel cX7_duel 8 (some .int) ∈ wT := tw3 (List.mem_of_getElem? (i := 222) rfl) rfl
theorem mw779 : Cond.methodLink RL 138 yX7_breath ∈ wT := tw3 (List.mem_of_getElem? (i := 231) rfl) rfl
theorem mw780 : Cond.instanceMethod yX7_breath ∈ wT := tw3 (List.mem_of_getElem? (i := 232) rfl) rfl
theorem mw781 : Cond.selects RX7 yX7_breath yX7_breath ∈ wT := tw3 (List.mem_of_getElem? (i := 233) rfl) rfl
theorem mw782 : Cond.code yX7_breath cX7_breath 6 (some .int) ∈ wT := tw3 (List.mem_of_getElem? (i := 234) rfl) rfl
theorem mw783 : Cond.methodLink RL 142 yX7_right ∈ wT := tw3 (List.mem_of_getElem? (i := 235) rfl) rfl
theorem mw784 : Cond.instanceMethod yX7_right ∈ wT := tw3 (List.mem_of_getElem? (i := 236) rfl) rfl
theorem mw785 : Cond.selects RX7 yX7_right yX7_right ∈ wT := tw3 (List.mem_of_getElem? (i := 237) rfl) rfl
theorem mw786 : Cond.code yX7_right cX7_right 5 (some .int) ∈ wT := tw3 (List.mem_of_getElem? (i := 238) rfl) rfl
theorem mw788 : Cond.methodLink RL 146 yX7_appeal ∈ wT := tw4 (List.mem_of_getElem? (i := 0) rfl) rfl
theorem mw789 : Cond.instanceMethod yX7_appeal ∈ wT := tw4 (List.mem_of_getElem? (i := 1) rfl) rfl
theorem mw790 : Cond.selects RX7 yX7_appeal yX7_appeal ∈ wT := tw4 (List.mem_of_getElem? (i := 2) rfl) rfl
theorem mw791 : Cond.code yX7_appeal cX7_appeal 3 (some .int) ∈ wT := tw4 (List.mem_of_getElem? (i := 3) rfl) rfl
theorem mw792 : Cond.methodLink RL 150 yX7_spans ∈ wT := tw4 (List.mem_of_getElem? (i := 4) rfl) rfl
theorem mw793 : Cond.instanceMethod yX7_spans ∈ wT := tw4 (List.mem_of_getElem? (i := 5) rfl) rfl
theorem mw794 : Cond.selects RX7 yX7_spans yX7_spans ∈ wT := tw4 (List.mem_of_getElem? (i := 6) rfl) rfl
theorem mw795 : Cond.code yX7_spans cX7_spans 7 (some .int) ∈ wT := tw4 (List.mem_of_getElem? (i := 7) rfl) rfl
theorem mw796 : Cond.methodLink RL 154 yX7_struck ∈ wT := tw4 (List.mem_of_getElem? (i := 8) rfl) rfl
theorem mw797 : Cond.instanceMethod yX7_struck ∈ wT := tw4 (List.mem_of_getElem? (i := 9) rfl) rfl
theorem mw798 : Cond.selects RX7 yX7_struck yX7_struck ∈ wT := tw4 (List.mem_of_getElem? (i := 10) rfl) rfl
theorem mw799 : Cond.code yX7_struck cX7_struck 7 (some .int) ∈ wT := tw4 (List.mem_of_getElem? (i := 11) rfl) rfl
theorem mw808 : Cond.methodLink RL 158 yX7_bet ∈ wT := tw4 (List.mem_of_getElem? (i := 20) rfl) rfl
theorem mw809 : Cond.instanceMethod yX7_bet ∈ wT := tw4 (List.mem_of_getElem? (i := 21) rfl) rfl
theorem mw810 : Cond.selects RX7 yX7_bet yX7_bet ∈ wT := tw4 (List.mem_of_getElem? (i := 22) rfl) rfl
theorem mw811 : Cond.code yX7_bet cX7_bet 3 (some .int) ∈ wT := tw4 (List.mem_of_getElem? (i := 23) rfl) rfl
theorem mw816 : Cond.methodLink RL 162 yX7_pays ∈ wT := tw4 (List.mem_of_getElem? (i := 28) rfl) rfl
theorem mw817 : Cond.instanceMethod yX7_pays ∈ wT := tw4 (List.mem_of_getElem? (i := 29) rfl) rfl
theorem mw818 : Cond.selects RX7 yX7_pays yX7_pays ∈ wT := tw4 (List.mem_of_getElem? (i := 30) rfl) rfl
theorem mw819 : Cond.code yX7_pays cX7_pays 3 (some .int) ∈ wT := tw4 (List.mem_of_getElem? (i := 31) rfl) rfl
theorem mw828 : Cond.methodLink RL 166 yX7_settle ∈ wT := tw4 (List.mem_of_getElem? (i := 40) rfl) rfl
theorem mw829 : Cond.instanceMethod yX7_settle ∈ wT := tw4 (List.mem_of_getElem? (i := 41) rfl) rfl
theorem mw830 : Cond.selects RX7 yX7_settle yX7_settle ∈ wT := tw4 (List.mem_of_getElem? (i := 42) rfl) rfl
theorem mw831 : Cond.code yX7_settle cX7_settle 2 (some .int) ∈ wT := tw4 (List.mem_of_getElem? (i := 43) rfl) rfl
theorem mw832 : Cond.methodLink RL 170 yX7_lots ∈ wT := tw4 (List.mem_of_getElem? (i := 44) rfl) rfl
theorem mw833 : Cond.instanceMethod yX7_lots ∈ wT := tw4 (List.mem_of_getElem? (i := 45) rfl) rfl
theorem mw834 : Cond.selects RX7 yX7_lots yX7_lots ∈ wT := tw4 (List.mem_of_getElem? (i := 46) rfl) rfl
theorem mw835 : Cond.code yX7_lots cX7_lots 4 (some .int) ∈ wT := tw4 (List.mem_of_getElem? (i := 47) rfl) rfl
theorem mw843 : Cond.methodLink RL 174 yX7_seed ∈ wT := tw4 (List.mem_of_getElem? (i := 55) rfl) rfl
theorem mw844 : Cond.instanceMethod yX7_seed ∈ wT := tw4 (List.mem_of_getElem? (i := 56) rfl) rfl
theorem mw845 : Cond.selects RX7 yX7_seed yX7_seed ∈ wT := tw4 (List.mem_of_getElem? (i := 57) rfl) rfl
theorem mw846 : Cond.code yX7_seed cX7_seed 3 (some .int) ∈ wT := tw4 (List.mem_of_getElem? (i := 58) rfl) rfl
theorem mw847 : Cond.methodLink RL 178 yX7_image ∈ wT := tw4 (List.mem_of_getElem? (i := 59) rfl) rfl
theorem mw848 : Cond.instanceMethod yX7_image ∈ wT := tw4 (List.mem_of_getElem? (i := 60) rfl) rfl
theorem mw849 : Cond.selects RX7 yX7_image yX7_image ∈ wT := tw4 (List.mem_of_getElem? (i := 61) rfl) rfl
theorem mw850 : Cond.code yX7_image cX7_image 1 (some .int) ∈ wT := tw4 (List.mem_of_getElem? (i := 62) rfl) rfl
theorem mw865 : Cond.methodLink RL 182 yX7_restore ∈ wT := tw4 (List.mem_of_getElem? (i := 77) rfl) rfl
theorem mw866 : Cond.instanceMethod yX7_restore ∈ wT := tw4 (List.mem_of_getElem? (i := 78) rfl) rfl
theorem mw867 : Cond.selects RX7 yX7_restore yX7_restore ∈ wT := tw4 (List.mem_of_getElem? (i := 79) rfl) rfl
theorem mw868 : Cond.code yX7_restore cX7_restore 1 (some .int) ∈ wT := tw4 (List.mem_of_getElem? (i := 80) rfl) rfl
theorem mw869 : Cond.methodLink RL 186 yX7_dress ∈ wT := tw4 (List.mem_of_getElem? (i := 81) rfl) rfl
theorem mw870 : Cond.instanceMethod yX7_dress ∈ wT := tw4 (List.mem_of_getElem? (i := 82) rfl) rfl
theorem mw871 : Cond.selects RX7 yX7_dress yX7_dress ∈ wT := tw4 (List.mem_of_getElem? (i := 83) rfl) rfl
theorem mw872 : Cond.code yX7_dress cX7_dress 10 (some .int) ∈ wT := tw4 (List.mem_of_getElem? (i := 84) rfl) rfl
theorem mw888 : Cond.methodLink RL 190 yX7_film ∈ wT := tw4 (List.mem_of_getElem? (i := 100) rfl) rfl
theorem mw889 : Cond.instanceMethod yX7_film ∈ wT := tw4 (List.mem_of_getElem? (i := 101) rfl) rfl
theorem mw890 : Cond.selects RX7 yX7_film yX7_film ∈ wT := tw4 (List.mem_of_getElem? (i := 102) rfl) rfl
theorem mw891 : Cond.code yX7_film cX7_film 8 (some .int) ∈ wT := tw4 (List.mem_of_getElem? (i := 103) rfl) rfl
theorem mw896 : Cond.methodLink RL 194 yX7_seen ∈ wT := tw4 (List.mem_of_getElem? (i := 108) rfl) rfl
theorem mw897 : Cond.instanceMethod yX7_seen ∈ wT := tw4 (List.mem_of_getElem? (i := 109) rfl) rfl
theorem mw898 : Cond.selects RX7 yX7_seen yX7_seen ∈ wT := tw4 (List.mem_of_getElem? (i := 110) rfl) rfl
theorem mw899 : Cond.code yX7_seen cX7_seen 7 (some .int) ∈ wT := tw4 (List.mem_of_getElem? (i := 111) rfl) rfl
theorem mw904 : Cond.methodLink RL 198 yX7_sheet ∈ wT := tw4 (List.mem_of_getElem? (i := 116) rfl) rfl
theorem mw905 : Cond.instanceMethod yX7_sheet ∈ wT := tw4 (List.mem_of_getElem? (i := 117) rfl) rfl
theorem mw906 : Cond.selects RX7 yX7_sheet yX7_sheet ∈ wT := tw4 (List.mem_of_getElem? (i := 118) rfl) rfl
theorem mw907 : Cond.code yX7_sheet cX7_sheet 4 (some .int) ∈ wT := tw4 (List.mem_of_getElem? (i := 119) rfl) rfl
theorem mw912 : Cond.methodLink RL 202 yX7_drop ∈ wT := tw4 (List.mem_of_getElem? (i := 124) rfl) rfl
theorem mw913 : Cond.instanceMethod yX7_drop ∈ wT := tw4 (List.mem_of_getElem? (i := 125) rfl) rfl
theorem mw914 : Cond.selects RX7 yX7_drop yX7_drop ∈ wT := tw4 (List.mem_of_getElem? (i := 126) rfl) rfl
theorem mw915 : Cond.code yX7_drop cX7_drop 2 (some .int) ∈ wT := tw4 (List.mem_of_getElem? (i := 127) rfl) rfl
theorem mw916 : Cond.methodLink RL 208 yX7_item ∈ wT := tw4 (List.mem_of_getElem? (i := 128) rfl) rfl
theorem mw917 : Cond.instanceMethod yX7_item ∈ wT := tw4 (List.mem_of_getElem? (i := 129) rfl) rfl
theorem mw918 : Cond.selects RX7 yX7_item yX7_item ∈ wT := tw4 (List.mem_of_getElem? (i := 130) rfl) rfl
theorem mw919 : Cond.code yX7_item cX7_item 7 (some .int) ∈ wT := tw4 (List.mem_of_getElem? (i := 131) rfl) rfl
theorem mw920 : Cond.methodLink RL 213 yX7_copy ∈ wT := tw4 (List.mem_of_getElem? (i := 132) rfl) rfl
theorem mw921 : Cond.instanceMethod yX7_copy ∈ wT := tw4 (List.mem_of_getElem? (i := 133) rfl) rfl
theorem mw922 : Cond.selects RX7 yX7_copy yX7_copy ∈ wT := tw4 (List.mem_of_getElem? (i := 134) rfl) rfl
theorem mw923 : Cond.code yX7_copy cX7_copy 8 (some .int) ∈ wT := tw4 (List.mem_of_getElem? (i := 135) rfl) rfl
theorem mw926 : Cond.classLink RL 10 RX8 ∈ wT := tw4 (List.mem_of_getElem? (i := 138) rfl) rfl
theorem mw927 : Cond.instantiable RX8 27 ∈ wT := tw4 (List.mem_of_getElem? (i := 139) rfl) rfl
theorem mw928 : Cond.methodLink RL 12 yX8_init ∈ wT := tw4 (List.mem_of_getElem? (i := 140) rfl) rfl
theorem mw929 : Cond.instanceMethod yX8_init ∈ wT := tw4 (List.mem_of_getElem? (i := 141) rfl) rfl
theorem mw930 : Cond.code yX8_init cX8_init 2 none ∈ wT := tw4 (List.mem_of_getElem? (i := 142) rfl) rfl
theorem mw1014 : Cond.methodLink RL 17 yX8_clock ∈ wT := tw4 (List.mem_of_getElem? (i := 226) rfl) rfl
theorem mw1015 : Cond.instanceMethod yX8_clock ∈ wT := tw4 (List.mem_of_getElem? (i := 227) rfl) rfl
theorem mw1016 : Cond.selects RX8 yX8_clock yX8_clock ∈ wT := tw4 (List.mem_of_getElem? (i := 228) rfl) rfl
theorem mw1017 : Cond.code yX8_clock cX8_clock 5 (some .int) ∈ wT := tw4 (List.mem_of_getElem? (i := 229) rfl) rfl
theorem mw1030 : Cond.methodLink RL 22 yX8_strike ∈ wT := tw5 (List.mem_of_getElem? (i := 2) rfl) rfl
theorem mw1031 : Cond.instanceMethod yX8_strike ∈ wT := tw5 (List.mem_of_getElem? (i := 3) rfl) rfl
theorem mw1032 : Cond.selects RX8 yX8_strike yX8_strike ∈ wT := tw5 (List.mem_of_getElem? (i := 4) rfl) rfl
theorem mw1033 : Cond.code yX8_strike cX8_strike 3 (some .int) ∈ wT := tw5 (List.mem_of_getElem? (i := 5) rfl) rfl
theorem mw1034 : Cond.methodLink RL 27 yX8_told ∈ wT := tw5 (List.mem_of_getElem? (i := 6) rfl) rfl
theorem mw1035 : Cond.instanceMethod yX8_told ∈ wT := tw5 (List.mem_of_getElem? (i := 7) rfl) rfl
theorem mw1036 : Cond.selects RX8 yX8_told yX8_told ∈ wT := tw5 (List.mem_of_getElem? (i := 8) rfl) rfl
theorem mw1037 : Cond.code yX8_told cX8_told 3 (some .int) ∈ wT := tw5 (List.mem_of_getElem? (i := 9) rfl) rfl
theorem mw1054 : Cond.methodLink RL 32 yX8_rate ∈ wT := tw5 (List.mem_of_getElem? (i := 26) rfl) rfl
theorem mw1055 : Cond.instanceMethod yX8_rate ∈ wT := tw5 (List.mem_of_getElem? (i := 27) rfl) rfl
theorem mw1056 : Cond.selects RX8 yX8_rate yX8_rate ∈ wT := tw5 (List.mem_of_getElem? (i := 28) rfl) rfl
theorem mw1057 : Cond.code yX8_rate cX8_rate 2 (some .int) ∈ wT := tw5 (List.mem_of_getElem? (i := 29) rfl) rfl
theorem mw1058 : Cond.methodLink RL 36 yX8_dial ∈ wT := tw5 (List.mem_of_getElem? (i := 30) rfl) rfl
theorem mw1059 : Cond.instanceMethod yX8_dial ∈ wT := tw5 (List.mem_of_getElem? (i := 31) rfl) rfl
theorem mw1060 : Cond.selects RX8 yX8_dial yX8_dial ∈ wT := tw5 (List.mem_of_getElem? (i := 32) rfl) rfl
theorem mw1061 : Cond.code yX8_dial cX8_dial 2 (some .int) ∈ wT := tw5 (List.mem_of_getElem? (i := 33) rfl) rfl
theorem mw1066 : Cond.methodLink RL 40 yX8_paint ∈ wT := tw5 (List.mem_of_getElem? (i := 38) rfl) rfl
theorem mw1067 : Cond.instanceMethod yX8_paint ∈ wT := tw5 (List.mem_of_getElem? (i := 39) rfl) rfl
theorem mw1068 : Cond.selects RX8 yX8_paint yX8_paint ∈ wT := tw5 (List.mem_of_getElem? (i := 40) rfl) rfl
theorem mw1069 : Cond.code yX8_paint cX8_paint 4 (some .int) ∈ wT := tw5 (List.mem_of_getElem? (i := 41) rfl) rfl
theorem mw1071 : Cond.methodLink RL 44 yX8_weather ∈ wT := tw5 (List.mem_of_getElem? (i := 43) rfl) rfl
theorem mw1072 : Cond.instanceMethod yX8_weather ∈ wT := tw5 (List.mem_of_getElem? (i := 44) rfl) rfl
theorem mw1073 : Cond.selects RX8 yX8_weather yX8_weather ∈ wT := tw5 (List.mem_of_getElem? (i := 45) rfl) rfl
theorem mw1074 : Cond.code yX8_weather cX8_weather 2 (some .int) ∈ wT := tw5 (List.mem_of_getElem? (i := 46) rfl) rfl
theorem mw1076 : Cond.methodLink RL 48 yX8_type ∈ wT := tw5 (List.mem_of_getElem? (i := 48) rfl) rfl
theorem mw1077 : Cond.instanceMethod yX8_type ∈ wT := tw5 (List.mem_of_getElem? (i := 49) rfl) rfl
theorem mw1078 : Cond.selects RX8 yX8_type yX8_type ∈ wT := tw5 (List.mem_of_getElem? (i := 50) rfl) rfl
theorem mw1079 : Cond.code yX8_type cX8_type 2 (some .int) ∈ wT := tw5 (List.mem_of_getElem? (i := 51) rfl) rfl
theorem mw1082 : Cond.methodLink RL 52 yX8_course ∈ wT := tw5 (List.mem_of_getElem? (i := 54) rfl) rfl
theorem mw1083 : Cond.instanceMethod yX8_course ∈ wT := tw5 (List.mem_of_getElem? (i := 55) rfl) rfl
theorem mw1084 : Cond.selects RX8 yX8_course yX8_course ∈ wT := tw5 (List.mem_of_getElem? (i := 56) rfl) rfl
theorem mw1085 : Cond.code yX8_course cX8_course 3 (some .int) ∈ wT := tw5 (List.mem_of_getElem? (i := 57) rfl) rfl
theorem mw1110 : Cond.methodLink RL 56 yX8_skies ∈ wT := tw5 (List.mem_of_getElem? (i := 82) rfl) rfl
theorem mw1111 : Cond.instanceMethod yX8_skies ∈ wT := tw5 (List.mem_of_getElem? (i := 83) rfl) rfl
theorem mw1112 : Cond.selects RX8 yX8_skies yX8_skies ∈ wT := tw5 (List.mem_of_getElem? (i := 84) rfl) rfl
theorem mw1113 : Cond.code yX8_skies cX8_skies 3 (some .int) ∈ wT := tw5 (List.mem_of_getElem? (i := 85) rfl) rfl
theorem mw1114 : Cond.methodLink RL 60 yX8_street ∈ wT := tw5 (List.mem_of_getElem? (i := 86) rfl) rfl
theorem mw1115 : Cond.instanceMethod yX8_street ∈ wT := tw5 (List.mem_of_getElem? (i := 87) rfl) rfl
theorem mw1116 : Cond.selects RX8 yX8_street yX8_street ∈ wT := tw5 (List.mem_of_getElem? (i := 88) rfl) rfl
theorem mw1117 : Cond.code yX8_street cX8_street 3 (some .int) ∈ wT := tw5 (List.mem_of_getElem? (i := 89) rfl) rfl
theorem mw1138 : Cond.methodLink RL 64 yX8_day ∈ wT := tw5 (List.mem_of_getElem? (i := 110) rfl) rfl
theorem mw1139 : Cond.instanceMethod yX8_day ∈ wT := tw5 (List.mem_of_getElem? (i := 111) rfl) rfl
theorem mw1140 : Cond.selects RX8 yX8_day yX8_day ∈ wT := tw5 (List.mem_of_getElem? (i := 112) rfl) rfl
theorem mw1141 : Cond.code yX8_day cX8_day 4 (some .int) ∈ wT := tw5 (List.mem_of_getElem? (i := 113) rfl) rfl
theorem mw1205 : Cond.methodLink RL 76 yX8_place ∈ wT := tw5 (List.mem_of_getElem? (i := 177) rfl) rfl
theorem mw1206 : Cond.instanceMethod yX8_place ∈ wT := tw5 (List.mem_of_getElem? (i := 178) rfl) rfl
theorem mw1207 : Cond.selects RX8 yX8_place yX8_place ∈ wT := tw5 (List.mem_of_getElem? (i := 179) rfl) rfl
theorem mw1208 : Cond.code yX8_place cX8_place 2 (some .int) ∈ wT := tw5 (List.mem_of_getElem? (i := 180) rfl) rfl
theorem mw1217 : Cond.methodLink RL 68 yX8_count ∈ wT := tw5 (List.mem_of_getElem? (i := 189) rfl) rfl
theorem mw1218 : Cond.instanceMethod yX8_count ∈ wT := tw5 (List.mem_of_getElem? (i := 190) rfl) rfl
theorem mw1219 : Cond.selects RX8 yX8_count yX8_count ∈ wT := tw5 (List.mem_of_getElem? (i := 191) rfl) rfl
theorem mw1220 : Cond.code yX8_count cX8_count 2 (some .int) ∈ wT := tw5 (List.mem_of_getElem? (i := 192) rfl) rfl
theorem mw1229 : Cond.methodLink RL 72 yX8_heard ∈ wT := tw5 (List.mem_of_getElem? (i := 201) rfl) rfl
theorem mw1230 : Cond.instanceMethod yX8_heard ∈ wT := tw5 (List.mem_of_getElem? (i := 202) rfl) rfl
theorem mw1231 : Cond.selects RX8 yX8_heard yX8_heard ∈ wT := tw5 (List.mem_of_getElem? (i := 203) rfl) rfl
theorem mw1232 : Cond.code yX8_heard cX8_heard 1 (some .int) ∈ wT := tw5 (List.mem_of_getElem? (i := 204) rfl) rfl
theorem mw1233 : Cond.methodLink RL 80 yX8_hour ∈ wT := tw5 (List.mem_of_getElem? (i := 205) rfl) rfl
theorem mw1234 : Cond.methodLink RL 84 yX8_wind ∈ wT := tw5 (List.mem_of_getElem? (i := 206) rfl) rfl
theorem mw1235 : Cond.methodLink RL 88 yX8_turn ∈ wT := tw5 (List.mem_of_getElem? (i := 207) rfl) rfl
theorem mw1236 : Cond.methodLink RL 92 yX8_tune ∈ wT := tw5 (List.mem_of_getElem? (i := 208) rfl) rfl
theorem mw1237 : Cond.instanceMethod yX8_tune ∈ wT := tw5 (List.mem_of_getElem? (i := 209) rfl) rfl
theorem mw1238 : Cond.selects RX8 yX8_tune yX8_tune ∈ wT := tw5 (List.mem_of_getElem? (i := 210) rfl) rfl
theorem mw1239 : Cond.code yX8_tune cX8_tune 4 (some .int) ∈ wT := tw5 (List.mem_of_getElem? (i := 211) rfl) rfl
theorem mw1240 : Cond.methodLink RL 96 yX8_breathe ∈ wT := tw5 (List.mem_of_getElem? (i := 212) rfl) rfl
theorem mw1241 : Cond.methodLink RL 100 yX8_undo ∈ wT := tw5 (List.mem_of_getElem? (i := 213) rfl) rfl
theorem mw1242 : Cond.instanceMethod yX8_undo ∈ wT := tw5 (List.mem_of_getElem? (i := 214) rfl) rfl
theorem mw1243 : Cond.selects RX8 yX8_undo yX8_undo ∈ wT := tw5 (List.mem_of_getElem? (i := 215) rfl) rfl
theorem mw1244 : Cond.code yX8_undo cX8_undo 4 (some .int) ∈ wT := tw5 (List.mem_of_getElem? (i := 216) rfl) rfl
theorem mw1245 : Cond.methodLink RL 104 yX8_restart ∈ wT := tw5 (List.mem_of_getElem? (i := 217) rfl) rfl
theorem mw1246 : Cond.instanceMethod yX8_restart ∈ wT := tw5 (List.mem_of_getElem? (i := 218) rfl) rfl
theorem mw1247 : Cond.selects RX8 yX8_restart yX8_restart ∈ wT := tw5 (List.mem_of_getElem? (i := 219) rfl) rfl
theorem mw1248 : Cond.code yX8_restart cX8_restart 2 (some .int) ∈ wT := tw5 (List.mem_of_getElem? (i := 220) rfl) rfl
theorem mw1249 : Cond.methodLink RL 109 yX8_behind ∈ wT := tw5 (List.mem_of_getElem? (i := 221) rfl) rfl
theorem mw1269 : Cond.methodLink RL 113 yX8_leads ∈ wT := tw6 (List.mem_of_getElem? (i := 1) rfl) rfl
theorem mw1270 : Cond.instanceMethod yX8_leads ∈ wT := tw6 (List.mem_of_getElem? (i := 2) rfl) rfl
theorem mw1271 : Cond.selects RX8 yX8_leads yX8_leads ∈ wT := tw6 (List.mem_of_getElem? (i := 3) rfl) rfl
theorem mw1272 : Cond.code yX8_leads cX8_leads 4 (some .int) ∈ wT := tw6 (List.mem_of_getElem? (i := 4) rfl) rfl
theorem mw1273 : Cond.methodLink RL 117 yX8_finish ∈ wT := tw6 (List.mem_of_getElem? (i := 5) rfl) rfl
theorem mw1274 : Cond.instanceMethod yX8_finish ∈ wT := tw6 (List.mem_of_getElem? (i := 6) rfl) rfl
theorem mw1275 : Cond.selects RX8 yX8_finish yX8_finish ∈ wT := tw6 (List.mem_of_getElem? (i := 7) rfl) rfl
theorem mw1276 : Cond.code yX8_finish cX8_finish 3 (some .int) ∈ wT := tw6 (List.mem_of_getElem? (i := 8) rfl) rfl
theorem mw1277 : Cond.methodLink RL 121 yX8_over ∈ wT := tw6 (List.mem_of_getElem? (i := 9) rfl) rfl
theorem mw1278 : Cond.instanceMethod yX8_over ∈ wT := tw6 (List.mem_of_getElem? (i := 10) rfl) rfl
theorem mw1279 : Cond.selects RX8 yX8_over yX8_over ∈ wT := tw6 (List.mem_of_getElem? (i := 11) rfl) rfl
theorem mw1280 : Cond.code yX8_over cX8_over 3 (some .int) ∈ wT := tw6 (List.mem_of_getElem? (i := 12) rfl) rfl
theorem mw1281 : Cond.methodLink RL 125 yX8_turns ∈ wT := tw6 (List.mem_of_getElem? (i := 13) rfl) rfl
theorem mw1282 : Cond.instanceMethod yX8_turns ∈ wT := tw6 (List.mem_of_getElem? (i := 14) rfl) rfl
theorem mw1283 : Cond.selects RX8 yX8_turns yX8_turns ∈ wT := tw6 (List.mem_of_getElem? (i := 15) rfl) rfl
theorem mw1284 : Cond.code yX8_turns cX8_turns 5 (some .int) ∈ wT := tw6 (List.mem_of_getElem? (i := 16) rfl) rfl
theorem mw1294 : Cond.methodLink RL 129 yX8_hands ∈ wT := tw6 (List.mem_of_getElem? (i := 26) rfl) rfl
theorem mw1295 : Cond.instanceMethod yX8_hands ∈ wT := tw6 (List.mem_of_getElem? (i := 27) rfl) rfl
theorem mw1296 : Cond.selects RX8 yX8_hands yX8_hands ∈ wT := tw6 (List.mem_of_getElem? (i := 28) rfl) rfl
theorem mw1297 : Cond.code yX8_hands cX8_hands 5 (some .int) ∈ wT := tw6 (List.mem_of_getElem? (i := 29) rfl) rfl
theorem mw1298 : Cond.methodLink RL 133 yX8_both ∈ wT := tw6 (List.mem_of_getElem? (i := 30) rfl) rfl
theorem mw1299 : Cond.instanceMethod yX8_both ∈ wT := tw6 (List.mem_of_getElem? (i := 31) rfl) rfl
theorem mw1300 : Cond.selects RX8 yX8_both yX8_both ∈ wT := tw6 (List.mem_of_getElem? (i := 32) rfl) rfl
theorem mw1301 : Cond.code yX8_both cX8_both 7 (some .int) ∈ wT := tw6 (List.mem_of_getElem? (i := 33) rfl) rfl
theorem mw1302 : Cond.methodLink RL 137 yX8_duel ∈ wT := tw6 (List.mem_of_getElem? (i := 34) rfl) rfl
theorem mw1303 : Cond.instanceMethod yX8_duel ∈ wT := tw6 (List.mem_of_getElem? (i := 35) rfl) rfl
theorem mw1304 : Cond.selects RX8 yX8_duel yX8_duel ∈ wT := tw6 (List.mem_of_getElem? (i := 36) rfl) rfl
theorem mw1305 : Cond.code yX8_duel cX8_duel 8 (some .int) ∈ wT := tw6 (List.mem_of_getElem? (i := 37) rfl) rfl
theorem mw1310 : Cond.methodLink RL 141 yX8_breath ∈ wT := tw6 (List.mem_of_getElem? (i := 42) rfl) rfl
theorem mw1311 : Cond.instanceMethod yX8_breath ∈ wT := tw6 (List.mem_of_getElem? (i := 43) rfl) rfl
theorem mw1312 : Cond.selects RX8 yX8_breath yX8_breath ∈ wT := tw6 (List.mem_of_getElem? (i := 44) rfl) rfl
theorem mw1313 : Cond.code yX8_breath cX8_breath 7 (some .int) ∈ wT := tw6 (List.mem_of_getElem? (i := 45) rfl) rfl
theorem mw1315 : Cond.methodLink RL 145 yX8_right ∈ wT := tw6 (List.mem_of_getElem? (i := 47) rfl) rfl
theorem mw1316 : Cond.instanceMethod yX8_right ∈ wT := tw6 (List.mem_of_getElem? (i := 48) rfl) rfl
theorem mw1317 : Cond.selects RX8 yX8_right yX8_right ∈ wT := tw6 (List.mem_of_getElem? (i := 49) rfl) rfl
theorem mw1318 : Cond.code yX8_right cX8_right 5 (some .int) ∈ wT := tw6 (List.mem_of_getElem? (i := 50) rfl) rfl
theorem mw1319 : Cond.methodLink RL 149 yX8_appeal ∈ wT := tw6 (List.mem_of_getElem? (i := 51) rfl) rfl
theorem mw1320 : Cond.instanceMethod yX8_appeal ∈ wT := tw6 (List.mem_of_getElem? (i := 52) rfl) rfl
theorem mw1321 : Cond.selects RX8 yX8_appeal yX8_appeal ∈ wT := tw6 (List.mem_of_getElem? (i := 53) rfl) rfl
theorem mw1322 : Cond.code yX8_appeal cX8_appeal 4 (some .int) ∈ wT := tw6 (List.mem_of_getElem? (i := 54) rfl) rfl
theorem mw1323 : Cond.methodLink RL 153 yX8_spans ∈ wT := tw6 (List.mem_of_getElem? (i := 55) rfl) rfl
theorem mw1324 : Cond.instanceMethod yX8_spans ∈ wT := tw6 (List.mem_of_getElem? (i := 56) rfl) rfl
theorem mw1325 : Cond.selects RX8 yX8_spans yX8_spans ∈ wT := tw6 (List.mem_of_getElem? (i := 57) rfl) rfl
theorem mw1326 : Cond.code yX8_spans cX8_spans 6 (some .int) ∈ wT := tw6 (List.mem_of_getElem? (i := 58) rfl) rfl
theorem mw1327 : Cond.methodLink RL 157 yX8_struck ∈ wT := tw6 (List.mem_of_getElem? (i := 59) rfl) rfl
theorem mw1328 : Cond.instanceMethod yX8_struck ∈ wT := tw6 (List.mem_of_getElem? (i := 60) rfl) rfl
theorem mw1329 : Cond.selects RX8 yX8_struck yX8_struck ∈ wT := tw6 (List.mem_of_getElem? (i := 61) rfl) rfl
theorem mw1330 : Cond.code yX8_struck cX8_struck 10 (some .int) ∈ wT := tw6 (List.mem_of_getElem? (i := 62) rfl) rfl
theorem mw1340 : Cond.methodLink RL 161 yX8_bet ∈ wT := tw6 (List.mem_of_getElem? (i := 72) rfl) rfl
theorem mw1341 : Cond.instanceMethod yX8_bet ∈ wT := tw6 (List.mem_of_getElem? (i := 73) rfl) rfl
theorem mw1342 : Cond.selects RX8 yX8_bet yX8_bet ∈ wT := tw6 (List.mem_of_getElem? (i := 74) rfl) rfl
theorem mw1343 : Cond.code yX8_bet cX8_bet 3 (some .int) ∈ wT := tw6 (List.mem_of_getElem? (i := 75) rfl) rfl
theorem mw1345 : Cond.methodLink RL 165 yX8_pays ∈ wT := tw6 (List.mem_of_getElem? (i := 77) rfl) rfl
theorem mw1346 : Cond.instanceMethod yX8_pays ∈ wT := tw6 (List.mem_of_getElem? (i := 78) rfl) rfl
theorem mw1347 : Cond.selects RX8 yX8_pays yX8_pays ∈ wT := tw6 (List.mem_of_getElem? (i := 79) rfl) rfl
theorem mw1348 : Cond.code yX8_pays cX8_pays 6 (some .int) ∈ wT := tw6 (List.mem_of_getElem? (i := 80) rfl) rfl
theorem mw1349 : Cond.methodLink RL 169 yX8_settle ∈ wT := tw6 (List.mem_of_getElem? (i := 81) rfl) rfl
theorem mw1350 : Cond.instanceMethod yX8_settle ∈ wT := tw6 (List.mem_of_getElem? (i := 82) rfl) rfl
theorem mw1351 : Cond.selects RX8 yX8_settle yX8_settle ∈ wT := tw6 (List.mem_of_getElem? (i := 83) rfl) rfl
theorem mw1352 : Cond.code yX8_settle cX8_settle 2 (some .int) ∈ wT := tw6 (List.mem_of_getElem? (i := 84) rfl) rfl
theorem mw1353 : Cond.methodLink RL 173 yX8_lots ∈ wT := tw6 (List.mem_of_getElem? (i := 85) rfl) rfl
theorem mw1354 : Cond.instanceMethod yX8_lots ∈ wT := tw6 (List.mem_of_getElem? (i := 86) rfl) rfl
theorem mw1355 : Cond.selects RX8 yX8_lots yX8_lots ∈ wT := tw6 (List.mem_of_getElem? (i := 87) rfl) rfl
theorem mw1356 : Cond.code yX8_lots cX8_lots 4 (some .int) ∈ wT := tw6 (List.mem_of_getElem? (i := 88) rfl) rfl
theorem mw1362 : Cond.methodLink RL 177 yX8_seed ∈ wT := tw6 (List.mem_of_getElem? (i := 94) rfl) rfl
theorem mw1363 : Cond.instanceMethod yX8_seed ∈ wT := tw6 (List.mem_of_getElem? (i := 95) rfl) rfl
theorem mw1364 : Cond.selects RX8 yX8_seed yX8_seed ∈ wT := tw6 (List.mem_of_getElem? (i := 96) rfl) rfl
theorem mw1365 : Cond.code yX8_seed cX8_seed 3 (some .int) ∈ wT := tw6 (List.mem_of_getElem? (i := 97) rfl) rfl
theorem mw1366 : Cond.methodLink RL 181 yX8_image ∈ wT := tw6 (List.mem_of_getElem? (i := 98) rfl) rfl
theorem mw1367 : Cond.instanceMethod yX8_image ∈ wT := tw6 (List.mem_of_getElem? (i := 99) rfl) rfl
theorem mw1368 : Cond.selects RX8 yX8_image yX8_image ∈ wT := tw6 (List.mem_of_getElem? (i := 100) rfl) rfl
theorem mw1369 : Cond.code yX8_image cX8_image 2 (some .int) ∈ wT := tw6 (List.mem_of_getElem? (i := 101) rfl) rfl
theorem mw1374 : Cond.methodLink RL 185 yX8_restore ∈ wT := tw6 (List.mem_of_getElem? (i := 106) rfl) rfl
theorem mw1375 : Cond.instanceMethod yX8_restore ∈ wT := tw6 (List.mem_of_getElem? (i := 107) rfl) rfl
theorem mw1376 : Cond.selects RX8 yX8_restore yX8_restore ∈ wT := tw6 (List.mem_of_getElem? (i := 108) rfl) rfl
theorem mw1377 : Cond.code yX8_restore cX8_restore 2 (some .int) ∈ wT := tw6 (List.mem_of_getElem? (i := 109) rfl) rfl
theorem mw1378 : Cond.methodLink RL 201 yX8_sheet ∈ wT := tw6 (List.mem_of_getElem? (i := 110) rfl) rfl
theorem mw1379 : Cond.instanceMethod yX8_sheet ∈ wT := tw6 (List.mem_of_getElem? (i := 111) rfl) rfl
theorem mw1380 : Cond.selects RX8 yX8_sheet yX8_sheet ∈ wT := tw6 (List.mem_of_getElem? (i := 112) rfl) rfl
theorem mw1381 : Cond.code yX8_sheet cX8_sheet 5 (some .int) ∈ wT := tw6 (List.mem_of_getElem? (i := 113) rfl) rfl
theorem mw1386 : Cond.methodLink RL 205 yX8_drop ∈ wT := tw6 (List.mem_of_getElem? (i := 118) rfl) rfl
theorem mw1387 : Cond.instanceMethod yX8_drop ∈ wT := tw6 (List.mem_of_getElem? (i := 119) rfl) rfl
theorem mw1388 : Cond.selects RX8 yX8_drop yX8_drop ∈ wT := tw6 (List.mem_of_getElem? (i := 120) rfl) rfl
theorem mw1389 : Cond.code yX8_drop cX8_drop 2 (some .int) ∈ wT := tw6 (List.mem_of_getElem? (i := 121) rfl) rfl
theorem mw1390 : Cond.methodLink RL 212 yX8_item ∈ wT := tw6 (List.mem_of_getElem? (i := 122) rfl) rfl
theorem mw1391 : Cond.instanceMethod yX8_item ∈ wT := tw6 (List.mem_of_getElem? (i := 123) rfl) rfl
theorem mw1392 : Cond.selects RX8 yX8_item yX8_item ∈ wT := tw6 (List.mem_of_getElem? (i := 124) rfl) rfl
theorem mw1393 : Cond.code yX8_item cX8_item 7 (some .int) ∈ wT := tw6 (List.mem_of_getElem? (i := 125) rfl) rfl
theorem mw1401 : Cond.methodLink RL 189 yX8_dress ∈ wT := tw6 (List.mem_of_getElem? (i := 133) rfl) rfl
theorem mw1402 : Cond.instanceMethod yX8_dress ∈ wT := tw6 (List.mem_of_getElem? (i := 134) rfl) rfl
theorem mw1403 : Cond.selects RX8 yX8_dress yX8_dress ∈ wT := tw6 (List.mem_of_getElem? (i := 135) rfl) rfl
theorem mw1404 : Cond.code yX8_dress cX8_dress 7 (some .int) ∈ wT := tw6 (List.mem_of_getElem? (i := 136) rfl) rfl
theorem mw1405 : Cond.methodLink RL 193 yX8_film ∈ wT := tw6 (List.mem_of_getElem? (i := 137) rfl) rfl
theorem mw1406 : Cond.instanceMethod yX8_film ∈ wT := tw6 (List.mem_of_getElem? (i := 138) rfl) rfl
theorem mw1407 : Cond.selects RX8 yX8_film yX8_film ∈ wT := tw6 (List.mem_of_getElem? (i := 139) rfl) rfl
theorem mw1408 : Cond.code yX8_film cX8_film 6 (some .int) ∈ wT := tw6 (List.mem_of_getElem? (i := 140) rfl) rfl
theorem mw1409 : Cond.methodLink RL 197 yX8_seen ∈ wT := tw6 (List.mem_of_getElem? (i := 141) rfl) rfl
theorem mw1410 : Cond.instanceMethod yX8_seen ∈ wT := tw6 (List.mem_of_getElem? (i := 142) rfl) rfl
theorem mw1411 : Cond.selects RX8 yX8_seen yX8_seen ∈ wT := tw6 (List.mem_of_getElem? (i := 143) rfl) rfl
theorem mw1412 : Cond.code yX8_seen cX8_seen 8 (some .int) ∈ wT := tw6 (List.mem_of_getElem? (i := 144) rfl) rfl
theorem mw1417 : Cond.methodLink RL 217 yX8_copy ∈ wT := tw6 (List.mem_of_getElem? (i := 149) rfl) rfl
theorem mw1418 : Cond.instanceMethod yX8_copy ∈ wT := tw6 (List.mem_of_getElem? (i := 150) rfl) rfl
theorem mw1419 : Cond.selects RX8 yX8_copy yX8_copy ∈ wT := tw6 (List.mem_of_getElem? (i := 151) rfl) rfl
theorem mw1420 : Cond.code yX8_copy cX8_copy 7 (some .int) ∈ wT := tw6 (List.mem_of_getElem? (i := 152) rfl) rfl
theorem mw1421 : Cond.constantLong RL 206 (4294967295) ∈ wT := tw6 (List.mem_of_getElem? (i := 153) rfl) rfl
theorem hd_X7_appeal : yX7_appeal.cls ≠ "java/lang/invoke/MethodHandle" ∧ yX7_appeal.cls ≠ "java/lang/invoke/VarHandle" ∧ (parseMethodDescriptor yX7_appeal.desc).map (fun d => d.parameters.length) = some 2 := by decide +kernel
theorem hd_X7_behind : yX7_behind.cls ≠ "java/lang/invoke/MethodHandle" ∧ yX7_behind.cls ≠ "java/lang/invoke/VarHandle" ∧ (parseMethodDescriptor yX7_behind.desc).map (fun d => d.parameters.length) = some 3 := by decide +kernel
theorem hd_X7_bet : yX7_bet.cls ≠ "java/lang/invoke/MethodHandle" ∧ yX7_bet.cls ≠ "java/lang/invoke/VarHandle" ∧ (parseMethodDescriptor yX7_bet.desc).map (fun d => d.parameters.length) = some 2 := by decide +kernel
theorem hd_X7_both : yX7_both.cls ≠ "java/lang/invoke/MethodHandle" ∧ yX7_both.cls ≠ "java/lang/invoke/VarHandle" ∧ (parseMethodDescriptor yX7_both.desc).map (fun d => d.parameters.length) = some 4 := by decide +kernel
theorem hd_X7_breath : yX7_breath.cls ≠ "java/lang/invoke/MethodHandle" ∧ yX7_breath.cls ≠ "java/lang/invoke/VarHandle" ∧ (parseMethodDescriptor yX7_breath.desc).map (fun d => d.parameters.length) = some 2 := by decide +kernel
theorem hd_X7_clock : yX7_clock.cls ≠ "java/lang/invoke/MethodHandle" ∧ yX7_clock.cls ≠ "java/lang/invoke/VarHandle" ∧ (parseMethodDescriptor yX7_clock.desc).map (fun d => d.parameters.length) = some 4 := by decide +kernel
theorem hd_X7_copy : yX7_copy.cls ≠ "java/lang/invoke/MethodHandle" ∧ yX7_copy.cls ≠ "java/lang/invoke/VarHandle" ∧ (parseMethodDescriptor yX7_copy.desc).map (fun d => d.parameters.length) = some 5 := by decide +kernel
theorem hd_X7_count : yX7_count.cls ≠ "java/lang/invoke/MethodHandle" ∧ yX7_count.cls ≠ "java/lang/invoke/VarHandle" ∧ (parseMethodDescriptor yX7_count.desc).map (fun d => d.parameters.length) = some 1 := by decide +kernel
theorem hd_X7_course : yX7_course.cls ≠ "java/lang/invoke/MethodHandle" ∧ yX7_course.cls ≠ "java/lang/invoke/VarHandle" ∧ (parseMethodDescriptor yX7_course.desc).map (fun d => d.parameters.length) = some 0 := by decide +kernel
theorem hd_X7_day : yX7_day.cls ≠ "java/lang/invoke/MethodHandle" ∧ yX7_day.cls ≠ "java/lang/invoke/VarHandle" ∧ (parseMethodDescriptor yX7_day.desc).map (fun d => d.parameters.length) = some 0 := by decide +kernel
theorem hd_X7_dial : yX7_dial.cls ≠ "java/lang/invoke/MethodHandle" ∧ yX7_dial.cls ≠ "java/lang/invoke/VarHandle" ∧ (parseMethodDescriptor yX7_dial.desc).map (fun d => d.parameters.length) = some 1 := by decide +kernel
theorem hd_X7_dress : yX7_dress.cls ≠ "java/lang/invoke/MethodHandle" ∧ yX7_dress.cls ≠ "java/lang/invoke/VarHandle" ∧ (parseMethodDescriptor yX7_dress.desc).map (fun d => d.parameters.length) = some 4 := by decide +kernel
theorem hd_X7_drop : yX7_drop.cls ≠ "java/lang/invoke/MethodHandle" ∧ yX7_drop.cls ≠ "java/lang/invoke/VarHandle" ∧ (parseMethodDescriptor yX7_drop.desc).map (fun d => d.parameters.length) = some 1 := by decide +kernel
theorem hd_X7_duel : yX7_duel.cls ≠ "java/lang/invoke/MethodHandle" ∧ yX7_duel.cls ≠ "java/lang/invoke/VarHandle" ∧ (parseMethodDescriptor yX7_duel.desc).map (fun d => d.parameters.length) = some 4 := by decide +kernel
theorem hd_X7_film : yX7_film.cls ≠ "java/lang/invoke/MethodHandle" ∧ yX7_film.cls ≠ "java/lang/invoke/VarHandle" ∧ (parseMethodDescriptor yX7_film.desc).map (fun d => d.parameters.length) = some 3 := by decide +kernel
theorem hd_X7_finish : yX7_finish.cls ≠ "java/lang/invoke/MethodHandle" ∧ yX7_finish.cls ≠ "java/lang/invoke/VarHandle" ∧ (parseMethodDescriptor yX7_finish.desc).map (fun d => d.parameters.length) = some 1 := by decide +kernel
theorem hd_X7_hands : yX7_hands.cls ≠ "java/lang/invoke/MethodHandle" ∧ yX7_hands.cls ≠ "java/lang/invoke/VarHandle" ∧ (parseMethodDescriptor yX7_hands.desc).map (fun d => d.parameters.length) = some 3 := by decide +kernel
theorem hd_X7_heard : yX7_heard.cls ≠ "java/lang/invoke/MethodHandle" ∧ yX7_heard.cls ≠ "java/lang/invoke/VarHandle" ∧ (parseMethodDescriptor yX7_heard.desc).map (fun d => d.parameters.length) = some 0 := by decide +kernel
theorem hd_X7_image : yX7_image.cls ≠ "java/lang/invoke/MethodHandle" ∧ yX7_image.cls ≠ "java/lang/invoke/VarHandle" ∧ (parseMethodDescriptor yX7_image.desc).map (fun d => d.parameters.length) = some 0 := by decide +kernel
theorem hd_X7_init : yX7_init.cls ≠ "java/lang/invoke/MethodHandle" ∧ yX7_init.cls ≠ "java/lang/invoke/VarHandle" ∧ (parseMethodDescriptor yX7_init.desc).map (fun d => d.parameters.length) = some 0 := by decide +kernel
theorem hd_X7_item : yX7_item.cls ≠ "java/lang/invoke/MethodHandle" ∧ yX7_item.cls ≠ "java/lang/invoke/VarHandle" ∧ (parseMethodDescriptor yX7_item.desc).map (fun d => d.parameters.length) = some 4 := by decide +kernel
theorem hd_X7_leads : yX7_leads.cls ≠ "java/lang/invoke/MethodHandle" ∧ yX7_leads.cls ≠ "java/lang/invoke/VarHandle" ∧ (parseMethodDescriptor yX7_leads.desc).map (fun d => d.parameters.length) = some 1 := by decide +kernel
theorem hd_X7_lots : yX7_lots.cls ≠ "java/lang/invoke/MethodHandle" ∧ yX7_lots.cls ≠ "java/lang/invoke/VarHandle" ∧ (parseMethodDescriptor yX7_lots.desc).map (fun d => d.parameters.length) = some 1 := by decide +kernel
theorem hd_X7_over : yX7_over.cls ≠ "java/lang/invoke/MethodHandle" ∧ yX7_over.cls ≠ "java/lang/invoke/VarHandle" ∧ (parseMethodDescriptor yX7_over.desc).map (fun d => d.parameters.length) = some 0 := by decide +kernel
theorem hd_X7_paint : yX7_paint.cls ≠ "java/lang/invoke/MethodHandle" ∧ yX7_paint.cls ≠ "java/lang/invoke/VarHandle" ∧ (parseMethodDescriptor yX7_paint.desc).map (fun d => d.parameters.length) = some 2 := by decide +kernel
theorem hd_X7_pays : yX7_pays.cls ≠ "java/lang/invoke/MethodHandle" ∧ yX7_pays.cls ≠ "java/lang/invoke/VarHandle" ∧ (parseMethodDescriptor yX7_pays.desc).map (fun d => d.parameters.length) = some 2 := by decide +kernel
theorem hd_X7_place : yX7_place.cls ≠ "java/lang/invoke/MethodHandle" ∧ yX7_place.cls ≠ "java/lang/invoke/VarHandle" ∧ (parseMethodDescriptor yX7_place.desc).map (fun d => d.parameters.length) = some 1 := by decide +kernel
theorem hd_X7_rate : yX7_rate.cls ≠ "java/lang/invoke/MethodHandle" ∧ yX7_rate.cls ≠ "java/lang/invoke/VarHandle" ∧ (parseMethodDescriptor yX7_rate.desc).map (fun d => d.parameters.length) = some 1 := by decide +kernel
theorem hd_X7_restart : yX7_restart.cls ≠ "java/lang/invoke/MethodHandle" ∧ yX7_restart.cls ≠ "java/lang/invoke/VarHandle" ∧ (parseMethodDescriptor yX7_restart.desc).map (fun d => d.parameters.length) = some 0 := by decide +kernel
theorem hd_X7_restore : yX7_restore.cls ≠ "java/lang/invoke/MethodHandle" ∧ yX7_restore.cls ≠ "java/lang/invoke/VarHandle" ∧ (parseMethodDescriptor yX7_restore.desc).map (fun d => d.parameters.length) = some 0 := by decide +kernel
theorem hd_X7_right : yX7_right.cls ≠ "java/lang/invoke/MethodHandle" ∧ yX7_right.cls ≠ "java/lang/invoke/VarHandle" ∧ (parseMethodDescriptor yX7_right.desc).map (fun d => d.parameters.length) = some 2 := by decide +kernel
theorem hd_X7_seed : yX7_seed.cls ≠ "java/lang/invoke/MethodHandle" ∧ yX7_seed.cls ≠ "java/lang/invoke/VarHandle" ∧ (parseMethodDescriptor yX7_seed.desc).map (fun d => d.parameters.length) = some 1 := by decide +kernel
theorem hd_X7_seen : yX7_seen.cls ≠ "java/lang/invoke/MethodHandle" ∧ yX7_seen.cls ≠ "java/lang/invoke/VarHandle" ∧ (parseMethodDescriptor yX7_seen.desc).map (fun d => d.parameters.length) = some 3 := by decide +kernel
theorem hd_X7_settle : yX7_settle.cls ≠ "java/lang/invoke/MethodHandle" ∧ yX7_settle.cls ≠ "java/lang/invoke/VarHandle" ∧ (parseMethodDescriptor yX7_settle.desc).map (fun d => d.parameters.length) = some 0 := by decide +kernel
theorem hd_X7_sheet : yX7_sheet.cls ≠ "java/lang/invoke/MethodHandle" ∧ yX7_sheet.cls ≠ "java/lang/invoke/VarHandle" ∧ (parseMethodDescriptor yX7_sheet.desc).map (fun d => d.parameters.length) = some 3 := by decide +kernel
theorem hd_X7_skies : yX7_skies.cls ≠ "java/lang/invoke/MethodHandle" ∧ yX7_skies.cls ≠ "java/lang/invoke/VarHandle" ∧ (parseMethodDescriptor yX7_skies.desc).map (fun d => d.parameters.length) = some 0 := by decide +kernel
theorem hd_X7_spans : yX7_spans.cls ≠ "java/lang/invoke/MethodHandle" ∧ yX7_spans.cls ≠ "java/lang/invoke/VarHandle" ∧ (parseMethodDescriptor yX7_spans.desc).map (fun d => d.parameters.length) = some 2 := by decide +kernel
theorem hd_X7_street : yX7_street.cls ≠ "java/lang/invoke/MethodHandle" ∧ yX7_street.cls ≠ "java/lang/invoke/VarHandle" ∧ (parseMethodDescriptor yX7_street.desc).map (fun d => d.parameters.length) = some 0 := by decide +kernel
theorem hd_X7_strike : yX7_strike.cls ≠ "java/lang/invoke/MethodHandle" ∧ yX7_strike.cls ≠ "java/lang/invoke/VarHandle" ∧ (parseMethodDescriptor yX7_strike.desc).map (fun d => d.parameters.length) = some 0 := by decide +kernel
theorem hd_X7_struck : yX7_struck.cls ≠ "java/lang/invoke/MethodHandle" ∧ yX7_struck.cls ≠ "java/lang/invoke/VarHandle" ∧ (parseMethodDescriptor yX7_struck.desc).map (fun d => d.parameters.length) = some 3 := by decide +kernel
theorem hd_X7_told : yX7_told.cls ≠ "java/lang/invoke/MethodHandle" ∧ yX7_told.cls ≠ "java/lang/invoke/VarHandle" ∧ (parseMethodDescriptor yX7_told.desc).map (fun d => d.parameters.length) = some 2 := by decide +kernel
theorem hd_X7_tune : yX7_tune.cls ≠ "java/lang/invoke/MethodHandle" ∧ yX7_tune.cls ≠ "java/lang/invoke/VarHandle" ∧ (parseMethodDescriptor yX7_tune.desc).map (fun d => d.parameters.length) = some 2 := by decide +kernel
theorem hd_X7_turns : yX7_turns.cls ≠ "java/lang/invoke/MethodHandle" ∧ yX7_turns.cls ≠ "java/lang/invoke/VarHandle" ∧ (parseMethodDescriptor yX7_turns.desc).map (fun d => d.parameters.length) = some 3 := by decide +kernel
theorem hd_X7_type : yX7_type.cls ≠ "java/lang/invoke/MethodHandle" ∧ yX7_type.cls ≠ "java/lang/invoke/VarHandle" ∧ (parseMethodDescriptor yX7_type.desc).map (fun d => d.parameters.length) = some 1 := by decide +kernel
theorem hd_X7_undo : yX7_undo.cls ≠ "java/lang/invoke/MethodHandle" ∧ yX7_undo.cls ≠ "java/lang/invoke/VarHandle" ∧ (parseMethodDescriptor yX7_undo.desc).map (fun d => d.parameters.length) = some 0 := by decide +kernel
theorem hd_X7_weather : yX7_weather.cls ≠ "java/lang/invoke/MethodHandle" ∧ yX7_weather.cls ≠ "java/lang/invoke/VarHandle" ∧ (parseMethodDescriptor yX7_weather.desc).map (fun d => d.parameters.length) = some 1 := by decide +kernel
theorem hd_X8_appeal : yX8_appeal.cls ≠ "java/lang/invoke/MethodHandle" ∧ yX8_appeal.cls ≠ "java/lang/invoke/VarHandle" ∧ (parseMethodDescriptor yX8_appeal.desc).map (fun d => d.parameters.length) = some 2 := by decide +kernel
theorem hd_X8_bet : yX8_bet.cls ≠ "java/lang/invoke/MethodHandle" ∧ yX8_bet.cls ≠ "java/lang/invoke/VarHandle" ∧ (parseMethodDescriptor yX8_bet.desc).map (fun d => d.parameters.length) = some 2 := by decide +kernel
theorem hd_X8_both : yX8_both.cls ≠ "java/lang/invoke/MethodHandle" ∧ yX8_both.cls ≠ "java/lang/invoke/VarHandle" ∧ (parseMethodDescriptor yX8_both.desc).map (fun d => d.parameters.length) = some 4 := by decide +kernel
theorem hd_X8_breath : yX8_breath.cls ≠ "java/lang/invoke/MethodHandle" ∧ yX8_breath.cls ≠ "java/lang/invoke/VarHandle" ∧ (parseMethodDescriptor yX8_breath.desc).map (fun d => d.parameters.length) = some 2 := by decide +kernel
theorem hd_X8_clock : yX8_clock.cls ≠ "java/lang/invoke/MethodHandle" ∧ yX8_clock.cls ≠ "java/lang/invoke/VarHandle" ∧ (parseMethodDescriptor yX8_clock.desc).map (fun d => d.parameters.length) = some 4 := by decide +kernel
theorem hd_X8_copy : yX8_copy.cls ≠ "java/lang/invoke/MethodHandle" ∧ yX8_copy.cls ≠ "java/lang/invoke/VarHandle" ∧ (parseMethodDescriptor yX8_copy.desc).map (fun d => d.parameters.length) = some 5 := by decide +kernel
theorem hd_X8_count : yX8_count.cls ≠ "java/lang/invoke/MethodHandle" ∧ yX8_count.cls ≠ "java/lang/invoke/VarHandle" ∧ (parseMethodDescriptor yX8_count.desc).map (fun d => d.parameters.length) = some 1 := by decide +kernel
theorem hd_X8_course : yX8_course.cls ≠ "java/lang/invoke/MethodHandle" ∧ yX8_course.cls ≠ "java/lang/invoke/VarHandle" ∧ (parseMethodDescriptor yX8_course.desc).map (fun d => d.parameters.length) = some 0 := by decide +kernel
theorem hd_X8_day : yX8_day.cls ≠ "java/lang/invoke/MethodHandle" ∧ yX8_day.cls ≠ "java/lang/invoke/VarHandle" ∧ (parseMethodDescriptor yX8_day.desc).map (fun d => d.parameters.length) = some 0 := by decide +kernel
theorem hd_X8_dial : yX8_dial.cls ≠ "java/lang/invoke/MethodHandle" ∧ yX8_dial.cls ≠ "java/lang/invoke/VarHandle" ∧ (parseMethodDescriptor yX8_dial.desc).map (fun d => d.parameters.length) = some 1 := by decide +kernel
theorem hd_X8_dress : yX8_dress.cls ≠ "java/lang/invoke/MethodHandle" ∧ yX8_dress.cls ≠ "java/lang/invoke/VarHandle" ∧ (parseMethodDescriptor yX8_dress.desc).map (fun d => d.parameters.length) = some 4 := by decide +kernel
theorem hd_X8_drop : yX8_drop.cls ≠ "java/lang/invoke/MethodHandle" ∧ yX8_drop.cls ≠ "java/lang/invoke/VarHandle" ∧ (parseMethodDescriptor yX8_drop.desc).map (fun d => d.parameters.length) = some 1 := by decide +kernel
theorem hd_X8_duel : yX8_duel.cls ≠ "java/lang/invoke/MethodHandle" ∧ yX8_duel.cls ≠ "java/lang/invoke/VarHandle" ∧ (parseMethodDescriptor yX8_duel.desc).map (fun d => d.parameters.length) = some 4 := by decide +kernel
theorem hd_X8_film : yX8_film.cls ≠ "java/lang/invoke/MethodHandle" ∧ yX8_film.cls ≠ "java/lang/invoke/VarHandle" ∧ (parseMethodDescriptor yX8_film.desc).map (fun d => d.parameters.length) = some 3 := by decide +kernel
theorem hd_X8_finish : yX8_finish.cls ≠ "java/lang/invoke/MethodHandle" ∧ yX8_finish.cls ≠ "java/lang/invoke/VarHandle" ∧ (parseMethodDescriptor yX8_finish.desc).map (fun d => d.parameters.length) = some 1 := by decide +kernel
theorem hd_X8_hands : yX8_hands.cls ≠ "java/lang/invoke/MethodHandle" ∧ yX8_hands.cls ≠ "java/lang/invoke/VarHandle" ∧ (parseMethodDescriptor yX8_hands.desc).map (fun d => d.parameters.length) = some 3 := by decide +kernel
theorem hd_X8_heard : yX8_heard.cls ≠ "java/lang/invoke/MethodHandle" ∧ yX8_heard.cls ≠ "java/lang/invoke/VarHandle" ∧ (parseMethodDescriptor yX8_heard.desc).map (fun d => d.parameters.length) = some 0 := by decide +kernel
theorem hd_X8_image : yX8_image.cls ≠ "java/lang/invoke/MethodHandle" ∧ yX8_image.cls ≠ "java/lang/invoke/VarHandle" ∧ (parseMethodDescriptor yX8_image.desc).map (fun d => d.parameters.length) = some 0 := by decide +kernel
theorem hd_X8_init : yX8_init.cls ≠ "java/lang/invoke/MethodHandle" ∧ yX8_init.cls ≠ "java/lang/invoke/VarHandle" ∧ (parseMethodDescriptor yX8_init.desc).map (fun d => d.parameters.length) = some 0 := by decide +kernel
theorem hd_X8_item : yX8_item.cls ≠ "java/lang/invoke/MethodHandle" ∧ yX8_item.cls ≠ "java/lang/invoke/VarHandle" ∧ (parseMethodDescriptor yX8_item.desc).map (fun d => d.parameters.length) = some 4 := by decide +kernel
theorem hd_X8_leads : yX8_leads.cls ≠ "java/lang/invoke/MethodHandle" ∧ yX8_leads.cls ≠ "java/lang/invoke/VarHandle" ∧ (parseMethodDescriptor yX8_leads.desc).map (fun d => d.parameters.length) = some 1 := by decide +kernel
theorem hd_X8_lots : yX8_lots.cls ≠ "java/lang/invoke/MethodHandle" ∧ yX8_lots.cls ≠ "java/lang/invoke/VarHandle" ∧ (parseMethodDescriptor yX8_lots.desc).map (fun d => d.parameters.length) = some 1 := by decide +kernel
theorem hd_X8_over : yX8_over.cls ≠ "java/lang/invoke/MethodHandle" ∧ yX8_over.cls ≠ "java/lang/invoke/VarHandle" ∧ (parseMethodDescriptor yX8_over.desc).map (fun d => d.parameters.length) = some 0 := by decide +kernel
theorem hd_X8_paint : yX8_paint.cls ≠ "java/lang/invoke/MethodHandle" ∧ yX8_paint.cls ≠ "java/lang/invoke/VarHandle" ∧ (parseMethodDescriptor yX8_paint.desc).map (fun d => d.parameters.length) = some 2 := by decide +kernel
theorem hd_X8_pays : yX8_pays.cls ≠ "java/lang/invoke/MethodHandle" ∧ yX8_pays.cls ≠ "java/lang/invoke/VarHandle" ∧ (parseMethodDescriptor yX8_pays.desc).map (fun d => d.parameters.length) = some 2 := by decide +kernel
theorem hd_X8_place : yX8_place.cls ≠ "java/lang/invoke/MethodHandle" ∧ yX8_place.cls ≠ "java/lang/invoke/VarHandle" ∧ (parseMethodDescriptor yX8_place.desc).map (fun d => d.parameters.length) = some 1 := by decide +kernel
theorem hd_X8_rate : yX8_rate.cls ≠ "java/lang/invoke/MethodHandle" ∧ yX8_rate.cls ≠ "java/lang/invoke/VarHandle" ∧ (parseMethodDescriptor yX8_rate.desc).map (fun d => d.parameters.length) = some 1 := by decide +kernel
theorem hd_X8_restart : yX8_restart.cls ≠ "java/lang/invoke/MethodHandle" ∧ yX8_restart.cls ≠ "java/lang/invoke/VarHandle" ∧ (parseMethodDescriptor yX8_restart.desc).map (fun d => d.parameters.length) = some 0 := by decide +kernel
theorem hd_X8_restore : yX8_restore.cls ≠ "java/lang/invoke/MethodHandle" ∧ yX8_restore.cls ≠ "java/lang/invoke/VarHandle" ∧ (parseMethodDescriptor yX8_restore.desc).map (fun d => d.parameters.length) = some 0 := by decide +kernel
theorem hd_X8_right : yX8_right.cls ≠ "java/lang/invoke/MethodHandle" ∧ yX8_right.cls ≠ "java/lang/invoke/VarHandle" ∧ (parseMethodDescriptor yX8_right.desc).map (fun d => d.parameters.length) = some 2 := by decide +kernel
theorem hd_X8_seed : yX8_seed.cls ≠ "java/lang/invoke/MethodHandle" ∧ yX8_seed.cls ≠ "java/lang/invoke/VarHandle" ∧ (parseMethodDescriptor yX8_seed.desc).map (fun d => d.parameters.length) = some 1 := by decide +kernel
theorem hd_X8_seen : yX8_seen.cls ≠ "java/lang/invoke/MethodHandle" ∧ yX8_seen.cls ≠ "java/lang/invoke/VarHandle" ∧ (parseMethodDescriptor yX8_seen.desc).map (fun d => d.parameters.length) = some 3 := by decide +kernel
theorem hd_X8_settle : yX8_settle.cls ≠ "java/lang/invoke/MethodHandle" ∧ yX8_settle.cls ≠ "java/lang/invoke/VarHandle" ∧ (parseMethodDescriptor yX8_settle.desc).map (fun d => d.parameters.length) = some 0 := by decide +kernel
theorem hd_X8_sheet : yX8_sheet.cls ≠ "java/lang/invoke/MethodHandle" ∧ yX8_sheet.cls ≠ "java/lang/invoke/VarHandle" ∧ (parseMethodDescriptor yX8_sheet.desc).map (fun d => d.parameters.length) = some 3 := by decide +kernel
theorem hd_X8_skies : yX8_skies.cls ≠ "java/lang/invoke/MethodHandle" ∧ yX8_skies.cls ≠ "java/lang/invoke/VarHandle" ∧ (parseMethodDescriptor yX8_skies.desc).map (fun d => d.parameters.length) = some 0 := by decide +kernel
theorem hd_X8_spans : yX8_spans.cls ≠ "java/lang/invoke/MethodHandle" ∧ yX8_spans.cls ≠ "java/lang/invoke/VarHandle" ∧ (parseMethodDescriptor yX8_spans.desc).map (fun d => d.parameters.length) = some 2 := by decide +kernel
theorem hd_X8_street : yX8_street.cls ≠ "java/lang/invoke/MethodHandle" ∧ yX8_street.cls ≠ "java/lang/invoke/VarHandle" ∧ (parseMethodDescriptor yX8_street.desc).map (fun d => d.parameters.length) = some 0 := by decide +kernel
theorem hd_X8_strike : yX8_strike.cls ≠ "java/lang/invoke/MethodHandle" ∧ yX8_strike.cls ≠ "java/lang/invoke/VarHandle" ∧ (parseMethodDescriptor yX8_strike.desc).map (fun d => d.parameters.length) = some 0 := by decide +kernel
theorem hd_X8_struck : yX8_struck.cls ≠ "java/lang/invoke/MethodHandle" ∧ yX8_struck.cls ≠ "java/lang/invoke/VarHandle" ∧ (parseMethodDescriptor yX8_struck.desc).map (fun d => d.parameters.length) = some 3 := by decide +kernel
theorem hd_X8_told : yX8_told.cls ≠ "java/lang/invoke/MethodHandle" ∧ yX8_told.cls ≠ "java/lang/invoke/VarHandle" ∧ (parseMethodDescriptor yX8_told.desc).map (fun d => d.parameters.length) = some 2 := by decide +kernel
theorem hd_X8_tune : yX8_tune.cls ≠ "java/lang/invoke/MethodHandle" ∧ yX8_tune.cls ≠ "java/lang/invoke/VarHandle" ∧ (parseMethodDescriptor yX8_tune.desc).map (fun d => d.parameters.length) = some 2 := by decide +kernel
theorem hd_X8_turns : yX8_turns.cls ≠ "java/lang/invoke/MethodHandle" ∧ yX8_turns.cls ≠ "java/lang/invoke/VarHandle" ∧ (parseMethodDescriptor yX8_turns.desc).map (fun d => d.parameters.length) = some 3 := by decide +kernel
theorem hd_X8_type : yX8_type.cls ≠ "java/lang/invoke/MethodHandle" ∧ yX8_type.cls ≠ "java/lang/invoke/VarHandle" ∧ (parseMethodDescriptor yX8_type.desc).map (fun d => d.parameters.length) = some 1 := by decide +kernel
theorem hd_X8_undo : yX8_undo.cls ≠ "java/lang/invoke/MethodHandle" ∧ yX8_undo.cls ≠ "java/lang/invoke/VarHandle" ∧ (parseMethodDescriptor yX8_undo.desc).map (fun d => d.parameters.length) = some 0 := by decide +kernel
theorem hd_X8_weather : yX8_weather.cls ≠ "java/lang/invoke/MethodHandle" ∧ yX8_weather.cls ≠ "java/lang/invoke/VarHandle" ∧ (parseMethodDescriptor yX8_weather.desc).map (fun d => d.parameters.length) = some 1 := by decide +kernel
theorem sw49 {x : Int32} (h0 : ¬ x = 0) (h1 : ¬ x = 1) (h2 : ¬ x = 2) (h3 : ¬ x = 3) (h4 : ¬ x = 4) (h5 : ¬ x = 5) (h6 : ¬ x = 6) (h7 : ¬ x = 7) (h8 : ¬ x = 8) (h9 : ¬ x = 9) (h10 : ¬ x = 10) (h11 : ¬ x = 11) (h12 : ¬ x = 12) (h13 : ¬ x = 13) (h14 : ¬ x = 14) (h15 : ¬ x = 15) (h16 : ¬ x = 16) (h17 : ¬ x = 17) (h18 : ¬ x = 18) (h19 : ¬ x = 19) (h20 : ¬ x = 20) (h21 : ¬ x = 21) (h22 : ¬ x = 22) (h23 : ¬ x = 23) (h24 : ¬ x = 24) (h25 : ¬ x = 25) (h26 : ¬ x = 26) (h27 : ¬ x = 27) (h28 : ¬ x = 28) (h29 : ¬ x = 29) (h30 : ¬ x = 30) (h31 : ¬ x = 31) (h32 : ¬ x = 32) (h33 : ¬ x = 33) (h34 : ¬ x = 34) (h35 : ¬ x = 35) (h36 : ¬ x = 36) (h37 : ¬ x = 37) (h38 : ¬ x = 38) (h39 : ¬ x = 39) (h40 : ¬ x = 40) (h41 : ¬ x = 41) (h42 : ¬ x = 42) (h43 : ¬ x = 43) (h44 : ¬ x = 44) (h45 : ¬ x = 45) (h46 : ¬ x = 46) (h47 : ¬ x = 47) (h48 : ¬ x = 48) : x.toInt < 0 ∨ (48 : Int) < x.toInt := by
  have g0 : ¬ x.toInt = 0 := fun h => h0 (Int32.toInt_inj.mp (by rw [h]; rfl))
  have g1 : ¬ x.toInt = 1 := fun h => h1 (Int32.toInt_inj.mp (by rw [h]; rfl))
  have g2 : ¬ x.toInt = 2 := fun h => h2 (Int32.toInt_inj.mp (by rw [h]; rfl))
  have g3 : ¬ x.toInt = 3 := fun h => h3 (Int32.toInt_inj.mp (by rw [h]; rfl))
  have g4 : ¬ x.toInt = 4 := fun h => h4 (Int32.toInt_inj.mp (by rw [h]; rfl))
  have g5 : ¬ x.toInt = 5 := fun h => h5 (Int32.toInt_inj.mp (by rw [h]; rfl))
  have g6 : ¬ x.toInt = 6 := fun h => h6 (Int32.toInt_inj.mp (by rw [h]; rfl))
  have g7 : ¬ x.toInt = 7 := fun h => h7 (Int32.toInt_inj.mp (by rw [h]; rfl))
  have g8 : ¬ x.toInt = 8 := fun h => h8 (Int32.toInt_inj.mp (by rw [h]; rfl))
  have g9 : ¬ x.toInt = 9 := fun h => h9 (Int32.toInt_inj.mp (by rw [h]; rfl))
  have g10 : ¬ x.toInt = 10 := fun h => h10 (Int32.toInt_inj.mp (by rw [h]; rfl))
  have g11 : ¬ x.toInt = 11 := fun h => h11 (Int32.toInt_inj.mp (by rw [h]; rfl))
  have g12 : ¬ x.toInt = 12 := fun h => h12 (Int32.toInt_inj.mp (by rw [h]; rfl))
  have g13 : ¬ x.toInt = 13 := fun h => h13 (Int32.toInt_inj.mp (by rw [h]; rfl))
  have g14 : ¬ x.toInt = 14 := fun h => h14 (Int32.toInt_inj.mp (by rw [h]; rfl))
  have g15 : ¬ x.toInt = 15 := fun h => h15 (Int32.toInt_inj.mp (by rw [h]; rfl))
  have g16 : ¬ x.toInt = 16 := fun h => h16 (Int32.toInt_inj.mp (by rw [h]; rfl))
  have g17 : ¬ x.toInt = 17 := fun h => h17 (Int32.toInt_inj.mp (by rw [h]; rfl))
  have g18 : ¬ x.toInt = 18 := fun h => h18 (Int32.toInt_inj.mp (by rw [h]; rfl))
  have g19 : ¬ x.toInt = 19 := fun h => h19 (Int32.toInt_inj.mp (by rw [h]; rfl))
  have g20 : ¬ x.toInt = 20 := fun h => h20 (Int32.toInt_inj.mp (by rw [h]; rfl))
  have g21 : ¬ x.toInt = 21 := fun h => h21 (Int32.toInt_inj.mp (by rw [h]; rfl))
  have g22 : ¬ x.toInt = 22 := fun h => h22 (Int32.toInt_inj.mp (by rw [h]; rfl))
  have g23 : ¬ x.toInt = 23 := fun h => h23 (Int32.toInt_inj.mp (by rw [h]; rfl))
  have g24 : ¬ x.toInt = 24 := fun h => h24 (Int32.toInt_inj.mp (by rw [h]; rfl))
  have g25 : ¬ x.toInt = 25 := fun h => h25 (Int32.toInt_inj.mp (by rw [h]; rfl))
  have g26 : ¬ x.toInt = 26 := fun h => h26 (Int32.toInt_inj.mp (by rw [h]; rfl))
  have g27 : ¬ x.toInt = 27 := fun h => h27 (Int32.toInt_inj.mp (by rw [h]; rfl))
  have g28 : ¬ x.toInt = 28 := fun h => h28 (Int32.toInt_inj.mp (by rw [h]; rfl))
  have g29 : ¬ x.toInt = 29 := fun h => h29 (Int32.toInt_inj.mp (by rw [h]; rfl))
  have g30 : ¬ x.toInt = 30 := fun h => h30 (Int32.toInt_inj.mp (by rw [h]; rfl))
  have g31 : ¬ x.toInt = 31 := fun h => h31 (Int32.toInt_inj.mp (by rw [h]; rfl))
  have g32 : ¬ x.toInt = 32 := fun h => h32 (Int32.toInt_inj.mp (by rw [h]; rfl))
  have g33 : ¬ x.toInt = 33 := fun h => h33 (Int32.toInt_inj.mp (by rw [h]; rfl))
  have g34 : ¬ x.toInt = 34 := fun h => h34 (Int32.toInt_inj.mp (by rw [h]; rfl))
  have g35 : ¬ x.toInt = 35 := fun h => h35 (Int32.toInt_inj.mp (by rw [h]; rfl))
  have g36 : ¬ x.toInt = 36 := fun h => h36 (Int32.toInt_inj.mp (by rw [h]; rfl))
  have g37 : ¬ x.toInt = 37 := fun h => h37 (Int32.toInt_inj.mp (by rw [h]; rfl))
  have g38 : ¬ x.toInt = 38 := fun h => h38 (Int32.toInt_inj.mp (by rw [h]; rfl))
  have g39 : ¬ x.toInt = 39 := fun h => h39 (Int32.toInt_inj.mp (by rw [h]; rfl))
  have g40 : ¬ x.toInt = 40 := fun h => h40 (Int32.toInt_inj.mp (by rw [h]; rfl))
  have g41 : ¬ x.toInt = 41 := fun h => h41 (Int32.toInt_inj.mp (by rw [h]; rfl))
  have g42 : ¬ x.toInt = 42 := fun h => h42 (Int32.toInt_inj.mp (by rw [h]; rfl))
  have g43 : ¬ x.toInt = 43 := fun h => h43 (Int32.toInt_inj.mp (by rw [h]; rfl))
  have g44 : ¬ x.toInt = 44 := fun h => h44 (Int32.toInt_inj.mp (by rw [h]; rfl))
  have g45 : ¬ x.toInt = 45 := fun h => h45 (Int32.toInt_inj.mp (by rw [h]; rfl))
  have g46 : ¬ x.toInt = 46 := fun h => h46 (Int32.toInt_inj.mp (by rw [h]; rfl))
  have g47 : ¬ x.toInt = 47 := fun h => h47 (Int32.toInt_inj.mp (by rw [h]; rfl))
  have g48 : ¬ x.toInt = 48 := fun h => h48 (Int32.toInt_inj.mp (by rw [h]; rfl))
  omega
