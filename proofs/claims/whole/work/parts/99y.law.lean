/-! ===== the law, case by case ===== -/
theorem ca_L_19 : sr_CV RL 19 M_X6_feed := ⟨⟨(sr_mt1 (List.mem_of_getElem? (i := 233) rfl) rfl), (sr_mt1 (List.mem_of_getElem? (i := 1) rfl) rfl), (sr_mt1 (List.mem_of_getElem? (i := 236) rfl) rfl)⟩, (sr_mt1 (List.mem_of_getElem? (i := 234) rfl) rfl), (sr_mt1 (List.mem_of_getElem? (i := 235) rfl) rfl)⟩
theorem ca_L_23 : sr_CV RL 23 M_X7_feed := ⟨⟨(sr_mt4 (List.mem_of_getElem? (i := 122) rfl) rfl), (sr_mt1 (List.mem_of_getElem? (i := 8) rfl) rfl), (sr_mt4 (List.mem_of_getElem? (i := 125) rfl) rfl)⟩, (sr_mt4 (List.mem_of_getElem? (i := 123) rfl) rfl), (sr_mt4 (List.mem_of_getElem? (i := 124) rfl) rfl)⟩
theorem ca_L_24 : sr_CV RL 24 M_X6_end := ⟨⟨(sr_mt2 (List.mem_of_getElem? (i := 1) rfl) rfl), (sr_mt1 (List.mem_of_getElem? (i := 1) rfl) rfl), (sr_mt2 (List.mem_of_getElem? (i := 4) rfl) rfl)⟩, (sr_mt2 (List.mem_of_getElem? (i := 2) rfl) rfl), (sr_mt2 (List.mem_of_getElem? (i := 3) rfl) rfl)⟩
theorem ca_L_28 : sr_CV RL 28 M_X7_end := ⟨⟨(sr_mt4 (List.mem_of_getElem? (i := 130) rfl) rfl), (sr_mt1 (List.mem_of_getElem? (i := 8) rfl) rfl), (sr_mt4 (List.mem_of_getElem? (i := 133) rfl) rfl)⟩, (sr_mt4 (List.mem_of_getElem? (i := 131) rfl) rfl), (sr_mt4 (List.mem_of_getElem? (i := 132) rfl) rfl)⟩
theorem ca_L_29 : sr_CV RL 29 M_X6_tell := ⟨⟨(sr_mt2 (List.mem_of_getElem? (i := 5) rfl) rfl), (sr_mt1 (List.mem_of_getElem? (i := 1) rfl) rfl), (sr_mt2 (List.mem_of_getElem? (i := 8) rfl) rfl)⟩, (sr_mt2 (List.mem_of_getElem? (i := 6) rfl) rfl), (sr_mt2 (List.mem_of_getElem? (i := 7) rfl) rfl)⟩
theorem ca_L_33 : sr_CV RL 33 M_X7_tell := ⟨⟨(sr_mt4 (List.mem_of_getElem? (i := 134) rfl) rfl), (sr_mt1 (List.mem_of_getElem? (i := 8) rfl) rfl), (sr_mt4 (List.mem_of_getElem? (i := 137) rfl) rfl)⟩, (sr_mt4 (List.mem_of_getElem? (i := 135) rfl) rfl), (sr_mt4 (List.mem_of_getElem? (i := 136) rfl) rfl)⟩
theorem ca_L_34 : sr_CV RL 34 M_X6_fault := ⟨⟨(sr_mt2 (List.mem_of_getElem? (i := 174) rfl) rfl), (sr_mt1 (List.mem_of_getElem? (i := 1) rfl) rfl), (sr_mt2 (List.mem_of_getElem? (i := 177) rfl) rfl)⟩, (sr_mt2 (List.mem_of_getElem? (i := 175) rfl) rfl), (sr_mt2 (List.mem_of_getElem? (i := 176) rfl) rfl)⟩
theorem ca_L_38 : sr_CV RL 38 M_X7_fault := ⟨⟨(sr_mt4 (List.mem_of_getElem? (i := 192) rfl) rfl), (sr_mt1 (List.mem_of_getElem? (i := 8) rfl) rfl), (sr_mt4 (List.mem_of_getElem? (i := 195) rfl) rfl)⟩, (sr_mt4 (List.mem_of_getElem? (i := 193) rfl) rfl), (sr_mt4 (List.mem_of_getElem? (i := 194) rfl) rfl)⟩
theorem ca_L_39 : sr_CV RL 39 M_X6_crew := ⟨⟨(sr_mt2 (List.mem_of_getElem? (i := 178) rfl) rfl), (sr_mt1 (List.mem_of_getElem? (i := 1) rfl) rfl), (sr_mt2 (List.mem_of_getElem? (i := 181) rfl) rfl)⟩, (sr_mt2 (List.mem_of_getElem? (i := 179) rfl) rfl), (sr_mt2 (List.mem_of_getElem? (i := 180) rfl) rfl)⟩
theorem ca_L_42 : sr_CV RL 42 M_X7_crew := ⟨⟨(sr_mt4 (List.mem_of_getElem? (i := 72) rfl) rfl), (sr_mt1 (List.mem_of_getElem? (i := 8) rfl) rfl), (sr_mt4 (List.mem_of_getElem? (i := 75) rfl) rfl)⟩, (sr_mt4 (List.mem_of_getElem? (i := 73) rfl) rfl), (sr_mt4 (List.mem_of_getElem? (i := 74) rfl) rfl)⟩
theorem ca_L_43 : sr_CV RL 43 M_X6_limit := ⟨⟨(sr_mt2 (List.mem_of_getElem? (i := 184) rfl) rfl), (sr_mt1 (List.mem_of_getElem? (i := 1) rfl) rfl), (sr_mt2 (List.mem_of_getElem? (i := 187) rfl) rfl)⟩, (sr_mt2 (List.mem_of_getElem? (i := 185) rfl) rfl), (sr_mt2 (List.mem_of_getElem? (i := 186) rfl) rfl)⟩
theorem ca_L_46 : sr_CV RL 46 M_X7_limit := ⟨⟨(sr_mt4 (List.mem_of_getElem? (i := 79) rfl) rfl), (sr_mt1 (List.mem_of_getElem? (i := 8) rfl) rfl), (sr_mt4 (List.mem_of_getElem? (i := 82) rfl) rfl)⟩, (sr_mt4 (List.mem_of_getElem? (i := 80) rfl) rfl), (sr_mt4 (List.mem_of_getElem? (i := 81) rfl) rfl)⟩
theorem ca_L_47 : sr_CV RL 47 M_X6_race := ⟨⟨(sr_mt2 (List.mem_of_getElem? (i := 189) rfl) rfl), (sr_mt1 (List.mem_of_getElem? (i := 1) rfl) rfl), (sr_mt2 (List.mem_of_getElem? (i := 192) rfl) rfl)⟩, (sr_mt2 (List.mem_of_getElem? (i := 190) rfl) rfl), (sr_mt2 (List.mem_of_getElem? (i := 191) rfl) rfl)⟩
theorem ca_L_51 : sr_CV RL 51 M_X7_race := ⟨⟨(sr_mt4 (List.mem_of_getElem? (i := 83) rfl) rfl), (sr_mt1 (List.mem_of_getElem? (i := 8) rfl) rfl), (sr_mt4 (List.mem_of_getElem? (i := 86) rfl) rfl)⟩, (sr_mt4 (List.mem_of_getElem? (i := 84) rfl) rfl), (sr_mt4 (List.mem_of_getElem? (i := 85) rfl) rfl)⟩
theorem ca_L_52 : sr_CV RL 52 M_X6_strike := ⟨⟨(sr_mt2 (List.mem_of_getElem? (i := 200) rfl) rfl), (sr_mt1 (List.mem_of_getElem? (i := 1) rfl) rfl), (sr_mt2 (List.mem_of_getElem? (i := 203) rfl) rfl)⟩, (sr_mt2 (List.mem_of_getElem? (i := 201) rfl) rfl), (sr_mt2 (List.mem_of_getElem? (i := 202) rfl) rfl)⟩
theorem ca_L_55 : sr_CV RL 55 M_X7_strike := ⟨⟨(sr_mt4 (List.mem_of_getElem? (i := 106) rfl) rfl), (sr_mt1 (List.mem_of_getElem? (i := 8) rfl) rfl), (sr_mt4 (List.mem_of_getElem? (i := 109) rfl) rfl)⟩, (sr_mt4 (List.mem_of_getElem? (i := 107) rfl) rfl), (sr_mt4 (List.mem_of_getElem? (i := 108) rfl) rfl)⟩
theorem ca_L_56 : sr_CV RL 56 M_X6_count := ⟨⟨(sr_mt2 (List.mem_of_getElem? (i := 213) rfl) rfl), (sr_mt1 (List.mem_of_getElem? (i := 1) rfl) rfl), (sr_mt2 (List.mem_of_getElem? (i := 216) rfl) rfl)⟩, (sr_mt2 (List.mem_of_getElem? (i := 214) rfl) rfl), (sr_mt2 (List.mem_of_getElem? (i := 215) rfl) rfl)⟩
theorem ca_L_59 : sr_CV RL 59 M_X7_count := ⟨⟨(sr_mt5 (List.mem_of_getElem? (i := 54) rfl) rfl), (sr_mt1 (List.mem_of_getElem? (i := 8) rfl) rfl), (sr_mt5 (List.mem_of_getElem? (i := 57) rfl) rfl)⟩, (sr_mt5 (List.mem_of_getElem? (i := 55) rfl) rfl), (sr_mt5 (List.mem_of_getElem? (i := 56) rfl) rfl)⟩
theorem ca_L_65 : sr_CV RL 65 M_X7_raced := ⟨⟨(sr_mt4 (List.mem_of_getElem? (i := 114) rfl) rfl), (sr_mt1 (List.mem_of_getElem? (i := 8) rfl) rfl), (sr_mt4 (List.mem_of_getElem? (i := 117) rfl) rfl)⟩, (sr_mt4 (List.mem_of_getElem? (i := 115) rfl) rfl), (sr_mt4 (List.mem_of_getElem? (i := 116) rfl) rfl)⟩
theorem ca_L_66 : sr_CV RL 66 M_X7_thrown := ⟨⟨(sr_mt4 (List.mem_of_getElem? (i := 68) rfl) rfl), (sr_mt1 (List.mem_of_getElem? (i := 8) rfl) rfl), (sr_mt4 (List.mem_of_getElem? (i := 71) rfl) rfl)⟩, (sr_mt4 (List.mem_of_getElem? (i := 69) rfl) rfl), (sr_mt4 (List.mem_of_getElem? (i := 70) rfl) rfl)⟩
theorem ca_L_69 : sr_CV RL 69 M_X6_difference := ⟨⟨(sr_mt2 (List.mem_of_getElem? (i := 239) rfl) rfl), (sr_mt1 (List.mem_of_getElem? (i := 1) rfl) rfl), (sr_mt3 (List.mem_of_getElem? (i := 2) rfl) rfl)⟩, (sr_mt3 (List.mem_of_getElem? (i := 0) rfl) rfl), (sr_mt3 (List.mem_of_getElem? (i := 1) rfl) rfl)⟩
theorem ca_L_73 : sr_CV RL 73 M_X7_difference_ := ⟨⟨(sr_mt4 (List.mem_of_getElem? (i := 196) rfl) rfl), (sr_mt1 (List.mem_of_getElem? (i := 8) rfl) rfl), (sr_mt4 (List.mem_of_getElem? (i := 199) rfl) rfl)⟩, (sr_mt4 (List.mem_of_getElem? (i := 197) rfl) rfl), (sr_mt4 (List.mem_of_getElem? (i := 198) rfl) rfl)⟩
theorem ca_L_74 : sr_CV RL 74 M_X6_doubt := ⟨⟨(sr_mt3 (List.mem_of_getElem? (i := 31) rfl) rfl), (sr_mt1 (List.mem_of_getElem? (i := 1) rfl) rfl), (sr_mt3 (List.mem_of_getElem? (i := 34) rfl) rfl)⟩, (sr_mt3 (List.mem_of_getElem? (i := 32) rfl) rfl), (sr_mt3 (List.mem_of_getElem? (i := 33) rfl) rfl)⟩
theorem ca_L_77 : sr_CV RL 77 M_X7_doubt_ := ⟨⟨(sr_mt5 (List.mem_of_getElem? (i := 10) rfl) rfl), (sr_mt1 (List.mem_of_getElem? (i := 8) rfl) rfl), (sr_mt5 (List.mem_of_getElem? (i := 13) rfl) rfl)⟩, (sr_mt5 (List.mem_of_getElem? (i := 11) rfl) rfl), (sr_mt5 (List.mem_of_getElem? (i := 12) rfl) rfl)⟩
theorem ca_L_78 : sr_CV RL 78 M_X6_drift := ⟨⟨(sr_mt3 (List.mem_of_getElem? (i := 35) rfl) rfl), (sr_mt1 (List.mem_of_getElem? (i := 1) rfl) rfl), (sr_mt3 (List.mem_of_getElem? (i := 38) rfl) rfl)⟩, (sr_mt3 (List.mem_of_getElem? (i := 36) rfl) rfl), (sr_mt3 (List.mem_of_getElem? (i := 37) rfl) rfl)⟩
theorem ca_L_82 : sr_CV RL 82 M_X7_drift := ⟨⟨(sr_mt5 (List.mem_of_getElem? (i := 18) rfl) rfl), (sr_mt1 (List.mem_of_getElem? (i := 8) rfl) rfl), (sr_mt5 (List.mem_of_getElem? (i := 21) rfl) rfl)⟩, (sr_mt5 (List.mem_of_getElem? (i := 19) rfl) rfl), (sr_mt5 (List.mem_of_getElem? (i := 20) rfl) rfl)⟩
theorem ca_L_83 : sr_CV RL 83 M_X6_rest := ⟨⟨(sr_mt3 (List.mem_of_getElem? (i := 39) rfl) rfl), (sr_mt1 (List.mem_of_getElem? (i := 1) rfl) rfl), (sr_mt3 (List.mem_of_getElem? (i := 42) rfl) rfl)⟩, (sr_mt3 (List.mem_of_getElem? (i := 40) rfl) rfl), (sr_mt3 (List.mem_of_getElem? (i := 41) rfl) rfl)⟩
theorem ca_L_87 : sr_CV RL 87 M_X7_rest := ⟨⟨(sr_mt5 (List.mem_of_getElem? (i := 22) rfl) rfl), (sr_mt1 (List.mem_of_getElem? (i := 8) rfl) rfl), (sr_mt5 (List.mem_of_getElem? (i := 25) rfl) rfl)⟩, (sr_mt5 (List.mem_of_getElem? (i := 23) rfl) rfl), (sr_mt5 (List.mem_of_getElem? (i := 24) rfl) rfl)⟩
theorem ca_L_88 : sr_CV RL 88 M_X6_sum := ⟨⟨(sr_mt3 (List.mem_of_getElem? (i := 47) rfl) rfl), (sr_mt1 (List.mem_of_getElem? (i := 1) rfl) rfl), (sr_mt3 (List.mem_of_getElem? (i := 50) rfl) rfl)⟩, (sr_mt3 (List.mem_of_getElem? (i := 48) rfl) rfl), (sr_mt3 (List.mem_of_getElem? (i := 49) rfl) rfl)⟩
theorem ca_L_91 : sr_CV RL 91 M_X7_sum := ⟨⟨(sr_mt5 (List.mem_of_getElem? (i := 30) rfl) rfl), (sr_mt1 (List.mem_of_getElem? (i := 8) rfl) rfl), (sr_mt5 (List.mem_of_getElem? (i := 33) rfl) rfl)⟩, (sr_mt5 (List.mem_of_getElem? (i := 31) rfl) rfl), (sr_mt5 (List.mem_of_getElem? (i := 32) rfl) rfl)⟩
theorem ca_L_92 : sr_CV RL 92 M_X6_guess := ⟨⟨(sr_mt3 (List.mem_of_getElem? (i := 55) rfl) rfl), (sr_mt1 (List.mem_of_getElem? (i := 1) rfl) rfl), (sr_mt3 (List.mem_of_getElem? (i := 58) rfl) rfl)⟩, (sr_mt3 (List.mem_of_getElem? (i := 56) rfl) rfl), (sr_mt3 (List.mem_of_getElem? (i := 57) rfl) rfl)⟩
theorem ca_L_96 : sr_CV RL 96 M_X7_guess := ⟨⟨(sr_mt5 (List.mem_of_getElem? (i := 38) rfl) rfl), (sr_mt1 (List.mem_of_getElem? (i := 8) rfl) rfl), (sr_mt5 (List.mem_of_getElem? (i := 41) rfl) rfl)⟩, (sr_mt5 (List.mem_of_getElem? (i := 39) rfl) rfl), (sr_mt5 (List.mem_of_getElem? (i := 40) rfl) rfl)⟩
theorem ca_L_97 : sr_CV RL 97 M_X6_rank := ⟨⟨(sr_mt3 (List.mem_of_getElem? (i := 59) rfl) rfl), (sr_mt1 (List.mem_of_getElem? (i := 1) rfl) rfl), (sr_mt3 (List.mem_of_getElem? (i := 62) rfl) rfl)⟩, (sr_mt3 (List.mem_of_getElem? (i := 60) rfl) rfl), (sr_mt3 (List.mem_of_getElem? (i := 61) rfl) rfl)⟩
theorem ca_L_100 : sr_CV RL 100 M_X7_rank := ⟨⟨(sr_mt5 (List.mem_of_getElem? (i := 42) rfl) rfl), (sr_mt1 (List.mem_of_getElem? (i := 8) rfl) rfl), (sr_mt5 (List.mem_of_getElem? (i := 45) rfl) rfl)⟩, (sr_mt5 (List.mem_of_getElem? (i := 43) rfl) rfl), (sr_mt5 (List.mem_of_getElem? (i := 44) rfl) rfl)⟩
theorem ca_L_101 : sr_CV RL 101 M_X6_suit := ⟨⟨(sr_mt3 (List.mem_of_getElem? (i := 76) rfl) rfl), (sr_mt1 (List.mem_of_getElem? (i := 1) rfl) rfl), (sr_mt3 (List.mem_of_getElem? (i := 79) rfl) rfl)⟩, (sr_mt3 (List.mem_of_getElem? (i := 77) rfl) rfl), (sr_mt3 (List.mem_of_getElem? (i := 78) rfl) rfl)⟩
theorem ca_L_104 : sr_CV RL 104 M_X7_suit := ⟨⟨(sr_mt5 (List.mem_of_getElem? (i := 70) rfl) rfl), (sr_mt1 (List.mem_of_getElem? (i := 8) rfl) rfl), (sr_mt5 (List.mem_of_getElem? (i := 73) rfl) rfl)⟩, (sr_mt5 (List.mem_of_getElem? (i := 71) rfl) rfl), (sr_mt5 (List.mem_of_getElem? (i := 72) rfl) rfl)⟩
theorem ca_L_105 : sr_CV RL 105 M_X6_swaps := ⟨⟨(sr_mt3 (List.mem_of_getElem? (i := 84) rfl) rfl), (sr_mt1 (List.mem_of_getElem? (i := 1) rfl) rfl), (sr_mt3 (List.mem_of_getElem? (i := 87) rfl) rfl)⟩, (sr_mt3 (List.mem_of_getElem? (i := 85) rfl) rfl), (sr_mt3 (List.mem_of_getElem? (i := 86) rfl) rfl)⟩
theorem ca_L_109 : sr_CV RL 109 M_X7_swaps_ := ⟨⟨(sr_mt5 (List.mem_of_getElem? (i := 74) rfl) rfl), (sr_mt1 (List.mem_of_getElem? (i := 8) rfl) rfl), (sr_mt5 (List.mem_of_getElem? (i := 77) rfl) rfl)⟩, (sr_mt5 (List.mem_of_getElem? (i := 75) rfl) rfl), (sr_mt5 (List.mem_of_getElem? (i := 76) rfl) rfl)⟩
theorem ca_L_110 : sr_CV RL 110 M_X6_next := ⟨⟨(sr_mt3 (List.mem_of_getElem? (i := 93) rfl) rfl), (sr_mt1 (List.mem_of_getElem? (i := 1) rfl) rfl), (sr_mt3 (List.mem_of_getElem? (i := 96) rfl) rfl)⟩, (sr_mt3 (List.mem_of_getElem? (i := 94) rfl) rfl), (sr_mt3 (List.mem_of_getElem? (i := 95) rfl) rfl)⟩
theorem ca_L_114 : sr_CV RL 114 M_X7_next := ⟨⟨(sr_mt5 (List.mem_of_getElem? (i := 83) rfl) rfl), (sr_mt1 (List.mem_of_getElem? (i := 8) rfl) rfl), (sr_mt5 (List.mem_of_getElem? (i := 86) rfl) rfl)⟩, (sr_mt5 (List.mem_of_getElem? (i := 84) rfl) rfl), (sr_mt5 (List.mem_of_getElem? (i := 85) rfl) rfl)⟩
theorem ca_L_115 : sr_CV RL 115 M_X6_fewest := ⟨⟨(sr_mt3 (List.mem_of_getElem? (i := 128) rfl) rfl), (sr_mt1 (List.mem_of_getElem? (i := 1) rfl) rfl), (sr_mt3 (List.mem_of_getElem? (i := 131) rfl) rfl)⟩, (sr_mt3 (List.mem_of_getElem? (i := 129) rfl) rfl), (sr_mt3 (List.mem_of_getElem? (i := 130) rfl) rfl)⟩
theorem ca_L_118 : sr_CV RL 118 M_X7_fewest := ⟨⟨(sr_mt5 (List.mem_of_getElem? (i := 99) rfl) rfl), (sr_mt1 (List.mem_of_getElem? (i := 8) rfl) rfl), (sr_mt5 (List.mem_of_getElem? (i := 102) rfl) rfl)⟩, (sr_mt5 (List.mem_of_getElem? (i := 100) rfl) rfl), (sr_mt5 (List.mem_of_getElem? (i := 101) rfl) rfl)⟩
theorem ca_L_119 : sr_CV RL 119 M_X6_odd := ⟨⟨(sr_mt3 (List.mem_of_getElem? (i := 132) rfl) rfl), (sr_mt1 (List.mem_of_getElem? (i := 1) rfl) rfl), (sr_mt3 (List.mem_of_getElem? (i := 135) rfl) rfl)⟩, (sr_mt3 (List.mem_of_getElem? (i := 133) rfl) rfl), (sr_mt3 (List.mem_of_getElem? (i := 134) rfl) rfl)⟩
theorem ca_L_123 : sr_CV RL 123 M_X7_odd := ⟨⟨(sr_mt5 (List.mem_of_getElem? (i := 103) rfl) rfl), (sr_mt1 (List.mem_of_getElem? (i := 8) rfl) rfl), (sr_mt5 (List.mem_of_getElem? (i := 106) rfl) rfl)⟩, (sr_mt5 (List.mem_of_getElem? (i := 104) rfl) rfl), (sr_mt5 (List.mem_of_getElem? (i := 105) rfl) rfl)⟩
theorem ca_L_124 : sr_CV RL 124 M_X6_even := ⟨⟨(sr_mt3 (List.mem_of_getElem? (i := 140) rfl) rfl), (sr_mt1 (List.mem_of_getElem? (i := 1) rfl) rfl), (sr_mt3 (List.mem_of_getElem? (i := 143) rfl) rfl)⟩, (sr_mt3 (List.mem_of_getElem? (i := 141) rfl) rfl), (sr_mt3 (List.mem_of_getElem? (i := 142) rfl) rfl)⟩
theorem ca_L_127 : sr_CV RL 127 M_X7_even := ⟨⟨(sr_mt5 (List.mem_of_getElem? (i := 107) rfl) rfl), (sr_mt1 (List.mem_of_getElem? (i := 8) rfl) rfl), (sr_mt5 (List.mem_of_getElem? (i := 110) rfl) rfl)⟩, (sr_mt5 (List.mem_of_getElem? (i := 108) rfl) rfl), (sr_mt5 (List.mem_of_getElem? (i := 109) rfl) rfl)⟩
section CASES
variable {g : sr_G} {B : sr_B} {k0 n0 : Nat} {D : sr_St} {i : Nat}
theorem law_feed (hk0 : k0 ≤ 603142) (hn0 : n0 ≤ 7286679) (hL : B.2.1 ≤ 3072) (hi : i + 6 ≤ B.2.1) (h : INV D) (K : ∀ D', INV D' → WL g B k0 n0 1168 [(0, .ref 91), (1, .ref 0), (2, .ref 63), (3, .ref 73), (4, .int (nI i))] [] D') : WL g B k0 n0 148 [(0, .ref 91), (1, .ref 0), (2, .ref 63), (3, .ref 73), (4, .int (nI i))] [] D := by
  obtain ⟨n, r, h⟩ := h
  obtain ⟨Q1, c1, k1⟩ := pr_feed (g := g) h (B.2.2 (i + 1)) (B.2.2 (i + 2)) (B.2.2 (i + 3)) (B.2.2 (i + 4)) (B.2.2 (i + 5))
  refine wl_aload_n dL_law_148 rfl rfl ?_
  refine wl_aload_n dL_law_149 rfl rfl ?_
  refine wl_iload dL_law_150 rfl ?_
  refine wl_iconst (v := nI 1) dL_law_152 rfl ?_
  refine wl_iadd_n dL_law_153 ?_
  refine wl_sld dL_law_154 (by omega) ?_
  refine wl_aload_n dL_law_155 rfl rfl ?_
  refine wl_iload dL_law_156 rfl ?_
  refine wl_iconst (v := nI 2) dL_law_158 rfl ?_
  refine wl_iadd_n dL_law_159 ?_
  refine wl_sld dL_law_160 (by omega) ?_
  refine wl_aload_n dL_law_161 rfl rfl ?_
  refine wl_iload dL_law_162 rfl ?_
  refine wl_iconst (v := nI 3) dL_law_164 rfl ?_
  refine wl_iadd_n dL_law_165 ?_
  refine wl_sld dL_law_166 (by omega) ?_
  refine wl_aload_n dL_law_167 rfl rfl ?_
  refine wl_iload dL_law_168 rfl ?_
  refine wl_iconst (v := nI 4) dL_law_170 rfl ?_
  refine wl_iadd_n dL_law_171 ?_
  refine wl_sld dL_law_172 (by omega) ?_
  refine wl_aload_n dL_law_173 rfl rfl ?_
  refine wl_iload dL_law_174 rfl ?_
  refine wl_iconst (v := nI 5) dL_law_176 rfl ?_
  refine wl_iadd_n dL_law_177 ?_
  refine wl_sld dL_law_178 (by omega) ?_
  refine wl_call (M2 := M_X6_feed) (n := 5) (o := 0) (kd := 6) (As := [.int (B.2.2 (i + 1)), .int (B.2.2 (i + 2)), .int (B.2.2 (i + 3)), .int (B.2.2 (i + 4)), .int (B.2.2 (i + 5))]) (st := []) dL_law_179 c1 ca_L_19 nm_X6_feed (by decide) rfl (by decide) rfl rfl rfl (Nat.le_of_ble_eq_true rfl) hk0 hn0 (fun r0 D0 q0 => ?_)
  obtain ⟨v, rfl, Q2, c2, k2⟩ := k1 r0 D0 q0
  show WL g B k0 n0 _ _ [.int v] _
  refine wl_aload_n dL_law_182 rfl rfl ?_
  refine wl_aload_n dL_law_183 rfl rfl ?_
  refine wl_iload dL_law_184 rfl ?_
  refine wl_iconst (v := nI 1) dL_law_186 rfl ?_
  refine wl_iadd_n dL_law_187 ?_
  refine wl_sld dL_law_188 (by omega) ?_
  refine wl_aload_n dL_law_189 rfl rfl ?_
  refine wl_iload dL_law_190 rfl ?_
  refine wl_iconst (v := nI 2) dL_law_192 rfl ?_
  refine wl_iadd_n dL_law_193 ?_
  refine wl_sld dL_law_194 (by omega) ?_
  refine wl_aload_n dL_law_195 rfl rfl ?_
  refine wl_iload dL_law_196 rfl ?_
  refine wl_iconst (v := nI 3) dL_law_198 rfl ?_
  refine wl_iadd_n dL_law_199 ?_
  refine wl_sld dL_law_200 (by omega) ?_
  refine wl_aload_n dL_law_201 rfl rfl ?_
  refine wl_iload dL_law_202 rfl ?_
  refine wl_iconst (v := nI 4) dL_law_204 rfl ?_
  refine wl_iadd_n dL_law_205 ?_
  refine wl_sld dL_law_206 (by omega) ?_
  refine wl_aload_n dL_law_207 rfl rfl ?_
  refine wl_iload dL_law_208 rfl ?_
  refine wl_iconst (v := nI 5) dL_law_210 rfl ?_
  refine wl_iadd_n dL_law_211 ?_
  refine wl_sld dL_law_212 (by omega) ?_
  refine wl_call (M2 := M_X7_feed) (n := 5) (o := 63) (kd := 7) (As := [.int (B.2.2 (i + 1)), .int (B.2.2 (i + 2)), .int (B.2.2 (i + 3)), .int (B.2.2 (i + 4)), .int (B.2.2 (i + 5))]) (st := [.int v]) dL_law_213 c2 ca_L_23 nm_X7_feed (by decide) rfl (by decide) rfl rfl rfl (Nat.le_of_ble_eq_true rfl) hk0 hn0 (fun r1 D1 q1 => ?_)
  obtain ⟨rfl, h2⟩ := k2 r1 D1 q1
  show WL g B k0 n0 _ _ [.int v, .int v] _
  exact wl_icmp_eq (tgt := 1168) dL_law_216 (by decide) (fun _ => K D1 h2) (fun z => absurd rfl z)
theorem law_end (hk0 : k0 ≤ 603142) (hn0 : n0 ≤ 7286679) (hL : B.2.1 ≤ 3072) (hi : i + 6 ≤ B.2.1) (h : INV D) (K : ∀ D', INV D' → WL g B k0 n0 1168 [(0, .ref 91), (1, .ref 0), (2, .ref 63), (3, .ref 73), (4, .int (nI i))] [] D') : WL g B k0 n0 221 [(0, .ref 91), (1, .ref 0), (2, .ref 63), (3, .ref 73), (4, .int (nI i))] [] D := by
  obtain ⟨n, r, h⟩ := h
  obtain ⟨Q1, c1, k1⟩ := pr_end (g := g) h (B.2.2 (i + 1))
  refine wl_aload_n dL_law_221 rfl rfl ?_
  refine wl_aload_n dL_law_222 rfl rfl ?_
  refine wl_iload dL_law_223 rfl ?_
  refine wl_iconst (v := nI 1) dL_law_225 rfl ?_
  refine wl_iadd_n dL_law_226 ?_
  refine wl_sld dL_law_227 (by omega) ?_
  refine wl_call (M2 := M_X6_end) (n := 1) (o := 0) (kd := 6) (As := [.int (B.2.2 (i + 1))]) (st := []) dL_law_228 c1 ca_L_24 nm_X6_end (by decide) rfl (by decide) rfl rfl rfl (Nat.le_of_ble_eq_true rfl) hk0 hn0 (fun r0 D0 q0 => ?_)
  obtain ⟨v, rfl, Q2, c2, k2⟩ := k1 r0 D0 q0
  show WL g B k0 n0 _ _ [.int v] _
  refine wl_aload_n dL_law_231 rfl rfl ?_
  refine wl_aload_n dL_law_232 rfl rfl ?_
  refine wl_iload dL_law_233 rfl ?_
  refine wl_iconst (v := nI 1) dL_law_235 rfl ?_
  refine wl_iadd_n dL_law_236 ?_
  refine wl_sld dL_law_237 (by omega) ?_
  refine wl_call (M2 := M_X7_end) (n := 1) (o := 63) (kd := 7) (As := [.int (B.2.2 (i + 1))]) (st := [.int v]) dL_law_238 c2 ca_L_28 nm_X7_end (by decide) rfl (by decide) rfl rfl rfl (Nat.le_of_ble_eq_true rfl) hk0 hn0 (fun r1 D1 q1 => ?_)
  obtain ⟨rfl, h2⟩ := k2 r1 D1 q1
  show WL g B k0 n0 _ _ [.int v, .int v] _
  exact wl_icmp_eq (tgt := 1168) dL_law_241 (by decide) (fun _ => K D1 h2) (fun z => absurd rfl z)
theorem law_tell (hk0 : k0 ≤ 603142) (hn0 : n0 ≤ 7286679) (hL : B.2.1 ≤ 3072) (hi : i + 6 ≤ B.2.1) (h : INV D) (K : ∀ D', INV D' → WL g B k0 n0 1168 [(0, .ref 91), (1, .ref 0), (2, .ref 63), (3, .ref 73), (4, .int (nI i))] [] D') : WL g B k0 n0 246 [(0, .ref 91), (1, .ref 0), (2, .ref 63), (3, .ref 73), (4, .int (nI i))] [] D := by
  obtain ⟨n, r, h⟩ := h
  obtain ⟨Q1, c1, k1⟩ := pr_tell (g := g) h
  refine wl_aload_n dL_law_246 rfl rfl ?_
  refine wl_call (M2 := M_X6_tell) (n := 0) (o := 0) (kd := 6) (As := []) (st := []) dL_law_247 c1 ca_L_29 nm_X6_tell (by decide) rfl (by decide) rfl rfl rfl (Nat.le_of_ble_eq_true rfl) hk0 hn0 (fun r0 D0 q0 => ?_)
  obtain ⟨v, rfl, Q2, c2, k2⟩ := k1 r0 D0 q0
  show WL g B k0 n0 _ _ [.int v] _
  refine wl_aload_n dL_law_250 rfl rfl ?_
  refine wl_call (M2 := M_X7_tell) (n := 0) (o := 63) (kd := 7) (As := []) (st := [.int v]) dL_law_251 c2 ca_L_33 nm_X7_tell (by decide) rfl (by decide) rfl rfl rfl (Nat.le_of_ble_eq_true rfl) hk0 hn0 (fun r1 D1 q1 => ?_)
  obtain ⟨rfl, h2⟩ := k2 r1 D1 q1
  show WL g B k0 n0 _ _ [.int v, .int v] _
  exact wl_icmp_eq (tgt := 1168) dL_law_254 (by decide) (fun _ => K D1 h2) (fun z => absurd rfl z)
theorem law_fault (hk0 : k0 ≤ 603142) (hn0 : n0 ≤ 7286679) (hL : B.2.1 ≤ 3072) (hi : i + 6 ≤ B.2.1) (h : INV D) (K : ∀ D', INV D' → WL g B k0 n0 1168 [(0, .ref 91), (1, .ref 0), (2, .ref 63), (3, .ref 73), (4, .int (nI i))] [] D') : WL g B k0 n0 259 [(0, .ref 91), (1, .ref 0), (2, .ref 63), (3, .ref 73), (4, .int (nI i))] [] D := by
  obtain ⟨n, r, h⟩ := h
  obtain ⟨Q1, c1, k1⟩ := pr_fault (g := g) h (B.2.2 (i + 1))
  refine wl_aload_n dL_law_259 rfl rfl ?_
  refine wl_aload_n dL_law_260 rfl rfl ?_
  refine wl_iload dL_law_261 rfl ?_
  refine wl_iconst (v := nI 1) dL_law_263 rfl ?_
  refine wl_iadd_n dL_law_264 ?_
  refine wl_sld dL_law_265 (by omega) ?_
  refine wl_call (M2 := M_X6_fault) (n := 1) (o := 0) (kd := 6) (As := [.int (B.2.2 (i + 1))]) (st := []) dL_law_266 c1 ca_L_34 nm_X6_fault (by decide) rfl (by decide) rfl rfl rfl (Nat.le_of_ble_eq_true rfl) hk0 hn0 (fun r0 D0 q0 => ?_)
  obtain ⟨v, rfl, Q2, c2, k2⟩ := k1 r0 D0 q0
  show WL g B k0 n0 _ _ [.int v] _
  refine wl_aload_n dL_law_269 rfl rfl ?_
  refine wl_aload_n dL_law_270 rfl rfl ?_
  refine wl_iload dL_law_271 rfl ?_
  refine wl_iconst (v := nI 1) dL_law_273 rfl ?_
  refine wl_iadd_n dL_law_274 ?_
  refine wl_sld dL_law_275 (by omega) ?_
  refine wl_call (M2 := M_X7_fault) (n := 1) (o := 63) (kd := 7) (As := [.int (B.2.2 (i + 1))]) (st := [.int v]) dL_law_276 c2 ca_L_38 nm_X7_fault (by decide) rfl (by decide) rfl rfl rfl (Nat.le_of_ble_eq_true rfl) hk0 hn0 (fun r1 D1 q1 => ?_)
  obtain ⟨rfl, h2⟩ := k2 r1 D1 q1
  show WL g B k0 n0 _ _ [.int v, .int v] _
  exact wl_icmp_eq (tgt := 1168) dL_law_279 (by decide) (fun _ => K D1 h2) (fun z => absurd rfl z)
theorem law_crew (hk0 : k0 ≤ 603142) (hn0 : n0 ≤ 7286679) (hL : B.2.1 ≤ 3072) (hi : i + 6 ≤ B.2.1) (h : INV D) (K : ∀ D', INV D' → WL g B k0 n0 1168 [(0, .ref 91), (1, .ref 0), (2, .ref 63), (3, .ref 73), (4, .int (nI i))] [] D') : WL g B k0 n0 284 [(0, .ref 91), (1, .ref 0), (2, .ref 63), (3, .ref 73), (4, .int (nI i))] [] D := by
  obtain ⟨n, r, h⟩ := h
  obtain ⟨Q1, c1, k1⟩ := pr_crew (g := g) h (B.2.2 (i + 1))
  refine wl_aload_n dL_law_284 rfl rfl ?_
  refine wl_aload_n dL_law_285 rfl rfl ?_
  refine wl_iload dL_law_286 rfl ?_
  refine wl_iconst (v := nI 1) dL_law_288 rfl ?_
  refine wl_iadd_n dL_law_289 ?_
  refine wl_sld dL_law_290 (by omega) ?_
  refine wl_call (M2 := M_X6_crew) (n := 1) (o := 0) (kd := 6) (As := [.int (B.2.2 (i + 1))]) (st := []) dL_law_291 c1 ca_L_39 nm_X6_crew (by decide) rfl (by decide) rfl rfl rfl (Nat.le_of_ble_eq_true rfl) hk0 hn0 (fun r0 D0 q0 => ?_)
  obtain ⟨v, rfl, Q2, c2, k2⟩ := k1 r0 D0 q0
  show WL g B k0 n0 _ _ [.int v] _
  refine wl_aload_n dL_law_294 rfl rfl ?_
  refine wl_aload_n dL_law_295 rfl rfl ?_
  refine wl_iload dL_law_296 rfl ?_
  refine wl_iconst (v := nI 1) dL_law_298 rfl ?_
  refine wl_iadd_n dL_law_299 ?_
  refine wl_sld dL_law_300 (by omega) ?_
  refine wl_call (M2 := M_X7_crew) (n := 1) (o := 63) (kd := 7) (As := [.int (B.2.2 (i + 1))]) (st := [.int v]) dL_law_301 c2 ca_L_42 nm_X7_crew (by decide) rfl (by decide) rfl rfl rfl (Nat.le_of_ble_eq_true rfl) hk0 hn0 (fun r1 D1 q1 => ?_)
  obtain ⟨rfl, h2⟩ := k2 r1 D1 q1
  show WL g B k0 n0 _ _ [.int v, .int v] _
  exact wl_icmp_eq (tgt := 1168) dL_law_304 (by decide) (fun _ => K D1 h2) (fun z => absurd rfl z)
theorem law_limit (hk0 : k0 ≤ 603142) (hn0 : n0 ≤ 7286679) (hL : B.2.1 ≤ 3072) (hi : i + 6 ≤ B.2.1) (h : INV D) (K : ∀ D', INV D' → WL g B k0 n0 1168 [(0, .ref 91), (1, .ref 0), (2, .ref 63), (3, .ref 73), (4, .int (nI i))] [] D') : WL g B k0 n0 309 [(0, .ref 91), (1, .ref 0), (2, .ref 63), (3, .ref 73), (4, .int (nI i))] [] D := by
  obtain ⟨n, r, h⟩ := h
  obtain ⟨Q1, c1, k1⟩ := pr_limit (g := g) h (B.2.2 (i + 1))
  refine wl_aload_n dL_law_309 rfl rfl ?_
  refine wl_aload_n dL_law_310 rfl rfl ?_
  refine wl_iload dL_law_311 rfl ?_
  refine wl_iconst (v := nI 1) dL_law_313 rfl ?_
  refine wl_iadd_n dL_law_314 ?_
  refine wl_sld dL_law_315 (by omega) ?_
  refine wl_call (M2 := M_X6_limit) (n := 1) (o := 0) (kd := 6) (As := [.int (B.2.2 (i + 1))]) (st := []) dL_law_316 c1 ca_L_43 nm_X6_limit (by decide) rfl (by decide) rfl rfl rfl (Nat.le_of_ble_eq_true rfl) hk0 hn0 (fun r0 D0 q0 => ?_)
  obtain ⟨v, rfl, Q2, c2, k2⟩ := k1 r0 D0 q0
  show WL g B k0 n0 _ _ [.int v] _
  refine wl_aload_n dL_law_319 rfl rfl ?_
  refine wl_aload_n dL_law_320 rfl rfl ?_
  refine wl_iload dL_law_321 rfl ?_
  refine wl_iconst (v := nI 1) dL_law_323 rfl ?_
  refine wl_iadd_n dL_law_324 ?_
  refine wl_sld dL_law_325 (by omega) ?_
  refine wl_call (M2 := M_X7_limit) (n := 1) (o := 63) (kd := 7) (As := [.int (B.2.2 (i + 1))]) (st := [.int v]) dL_law_326 c2 ca_L_46 nm_X7_limit (by decide) rfl (by decide) rfl rfl rfl (Nat.le_of_ble_eq_true rfl) hk0 hn0 (fun r1 D1 q1 => ?_)
  obtain ⟨rfl, h2⟩ := k2 r1 D1 q1
  show WL g B k0 n0 _ _ [.int v, .int v] _
  exact wl_icmp_eq (tgt := 1168) dL_law_329 (by decide) (fun _ => K D1 h2) (fun z => absurd rfl z)
theorem law_race (hk0 : k0 ≤ 603142) (hn0 : n0 ≤ 7286679) (hL : B.2.1 ≤ 3072) (hi : i + 6 ≤ B.2.1) (h : INV D) (K : ∀ D', INV D' → WL g B k0 n0 1168 [(0, .ref 91), (1, .ref 0), (2, .ref 63), (3, .ref 73), (4, .int (nI i))] [] D') : WL g B k0 n0 334 [(0, .ref 91), (1, .ref 0), (2, .ref 63), (3, .ref 73), (4, .int (nI i))] [] D := by
  obtain ⟨n, r, h⟩ := h
  obtain ⟨Q1, c1, k1⟩ := pr_race (g := g) h (B.2.2 (i + 1)) (B.2.2 (i + 2)) (B.2.2 (i + 3)) (B.2.2 (i + 4))
  refine wl_aload_n dL_law_334 rfl rfl ?_
  refine wl_aload_n dL_law_335 rfl rfl ?_
  refine wl_iload dL_law_336 rfl ?_
  refine wl_iconst (v := nI 1) dL_law_338 rfl ?_
  refine wl_iadd_n dL_law_339 ?_
  refine wl_sld dL_law_340 (by omega) ?_
  refine wl_aload_n dL_law_341 rfl rfl ?_
  refine wl_iload dL_law_342 rfl ?_
  refine wl_iconst (v := nI 2) dL_law_344 rfl ?_
  refine wl_iadd_n dL_law_345 ?_
  refine wl_sld dL_law_346 (by omega) ?_
  refine wl_aload_n dL_law_347 rfl rfl ?_
  refine wl_iload dL_law_348 rfl ?_
  refine wl_iconst (v := nI 3) dL_law_350 rfl ?_
  refine wl_iadd_n dL_law_351 ?_
  refine wl_sld dL_law_352 (by omega) ?_
  refine wl_aload_n dL_law_353 rfl rfl ?_
  refine wl_iload dL_law_354 rfl ?_
  refine wl_iconst (v := nI 4) dL_law_356 rfl ?_
  refine wl_iadd_n dL_law_357 ?_
  refine wl_sld dL_law_358 (by omega) ?_
  refine wl_call (M2 := M_X6_race) (n := 4) (o := 0) (kd := 6) (As := [.int (B.2.2 (i + 1)), .int (B.2.2 (i + 2)), .int (B.2.2 (i + 3)), .int (B.2.2 (i + 4))]) (st := []) dL_law_359 c1 ca_L_47 nm_X6_race (by decide) rfl (by decide) rfl rfl rfl (Nat.le_of_ble_eq_true rfl) hk0 hn0 (fun r0 D0 q0 => ?_)
  obtain ⟨v, rfl, Q2, c2, k2⟩ := k1 r0 D0 q0
  show WL g B k0 n0 _ _ [.int v] _
  refine wl_aload_n dL_law_362 rfl rfl ?_
  refine wl_aload_n dL_law_363 rfl rfl ?_
  refine wl_iload dL_law_364 rfl ?_
  refine wl_iconst (v := nI 1) dL_law_366 rfl ?_
  refine wl_iadd_n dL_law_367 ?_
  refine wl_sld dL_law_368 (by omega) ?_
  refine wl_aload_n dL_law_369 rfl rfl ?_
  refine wl_iload dL_law_370 rfl ?_
  refine wl_iconst (v := nI 2) dL_law_372 rfl ?_
  refine wl_iadd_n dL_law_373 ?_
  refine wl_sld dL_law_374 (by omega) ?_
  refine wl_aload_n dL_law_375 rfl rfl ?_
  refine wl_iload dL_law_376 rfl ?_
  refine wl_iconst (v := nI 3) dL_law_378 rfl ?_
  refine wl_iadd_n dL_law_379 ?_
  refine wl_sld dL_law_380 (by omega) ?_
  refine wl_aload_n dL_law_381 rfl rfl ?_
  refine wl_iload dL_law_382 rfl ?_
  refine wl_iconst (v := nI 4) dL_law_384 rfl ?_
  refine wl_iadd_n dL_law_385 ?_
  refine wl_sld dL_law_386 (by omega) ?_
  refine wl_call (M2 := M_X7_race) (n := 4) (o := 63) (kd := 7) (As := [.int (B.2.2 (i + 1)), .int (B.2.2 (i + 2)), .int (B.2.2 (i + 3)), .int (B.2.2 (i + 4))]) (st := [.int v]) dL_law_387 c2 ca_L_51 nm_X7_race (by decide) rfl (by decide) rfl rfl rfl (Nat.le_of_ble_eq_true rfl) hk0 hn0 (fun r1 D1 q1 => ?_)
  obtain ⟨rfl, h2⟩ := k2 r1 D1 q1
  show WL g B k0 n0 _ _ [.int v, .int v] _
  exact wl_icmp_eq (tgt := 1168) dL_law_390 (by decide) (fun _ => K D1 h2) (fun z => absurd rfl z)
theorem law_strike (hk0 : k0 ≤ 603142) (hn0 : n0 ≤ 7286679) (hL : B.2.1 ≤ 3072) (hi : i + 6 ≤ B.2.1) (h : INV D) (K : ∀ D', INV D' → WL g B k0 n0 1168 [(0, .ref 91), (1, .ref 0), (2, .ref 63), (3, .ref 73), (4, .int (nI i))] [] D') : WL g B k0 n0 395 [(0, .ref 91), (1, .ref 0), (2, .ref 63), (3, .ref 73), (4, .int (nI i))] [] D := by
  obtain ⟨n, r, h⟩ := h
  obtain ⟨Q1, c1, k1⟩ := pr_strike (g := g) h (B.2.2 (i + 1))
  refine wl_aload_n dL_law_395 rfl rfl ?_
  refine wl_aload_n dL_law_396 rfl rfl ?_
  refine wl_iload dL_law_397 rfl ?_
  refine wl_iconst (v := nI 1) dL_law_399 rfl ?_
  refine wl_iadd_n dL_law_400 ?_
  refine wl_sld dL_law_401 (by omega) ?_
  refine wl_call (M2 := M_X6_strike) (n := 1) (o := 0) (kd := 6) (As := [.int (B.2.2 (i + 1))]) (st := []) dL_law_402 c1 ca_L_52 nm_X6_strike (by decide) rfl (by decide) rfl rfl rfl (Nat.le_of_ble_eq_true rfl) hk0 hn0 (fun r0 D0 q0 => ?_)
  obtain ⟨v, rfl, Q2, c2, k2⟩ := k1 r0 D0 q0
  show WL g B k0 n0 _ _ [.int v] _
  refine wl_aload_n dL_law_405 rfl rfl ?_
  refine wl_aload_n dL_law_406 rfl rfl ?_
  refine wl_iload dL_law_407 rfl ?_
  refine wl_iconst (v := nI 1) dL_law_409 rfl ?_
  refine wl_iadd_n dL_law_410 ?_
  refine wl_sld dL_law_411 (by omega) ?_
  refine wl_call (M2 := M_X7_strike) (n := 1) (o := 63) (kd := 7) (As := [.int (B.2.2 (i + 1))]) (st := [.int v]) dL_law_412 c2 ca_L_55 nm_X7_strike (by decide) rfl (by decide) rfl rfl rfl (Nat.le_of_ble_eq_true rfl) hk0 hn0 (fun r1 D1 q1 => ?_)
  obtain ⟨rfl, h2⟩ := k2 r1 D1 q1
  show WL g B k0 n0 _ _ [.int v, .int v] _
  exact wl_icmp_eq (tgt := 1168) dL_law_415 (by decide) (fun _ => K D1 h2) (fun z => absurd rfl z)
theorem law_count (hk0 : k0 ≤ 603142) (hn0 : n0 ≤ 7286679) (hL : B.2.1 ≤ 3072) (hi : i + 6 ≤ B.2.1) (h : INV D) (K : ∀ D', INV D' → WL g B k0 n0 1168 [(0, .ref 91), (1, .ref 0), (2, .ref 63), (3, .ref 73), (4, .int (nI i))] [] D') : WL g B k0 n0 420 [(0, .ref 91), (1, .ref 0), (2, .ref 63), (3, .ref 73), (4, .int (nI i))] [] D := by
  obtain ⟨n, r, h⟩ := h
  obtain ⟨Q1, c1, k1⟩ := pr_count (g := g) h (B.2.2 (i + 1))
  refine wl_aload_n dL_law_420 rfl rfl ?_
  refine wl_aload_n dL_law_421 rfl rfl ?_
  refine wl_iload dL_law_422 rfl ?_
  refine wl_iconst (v := nI 1) dL_law_424 rfl ?_
  refine wl_iadd_n dL_law_425 ?_
  refine wl_sld dL_law_426 (by omega) ?_
  refine wl_call (M2 := M_X6_count) (n := 1) (o := 0) (kd := 6) (As := [.int (B.2.2 (i + 1))]) (st := []) dL_law_427 c1 ca_L_56 nm_X6_count (by decide) rfl (by decide) rfl rfl rfl (Nat.le_of_ble_eq_true rfl) hk0 hn0 (fun r0 D0 q0 => ?_)
  obtain ⟨v, rfl, Q2, c2, k2⟩ := k1 r0 D0 q0
  show WL g B k0 n0 _ _ [.int v] _
  refine wl_aload_n dL_law_430 rfl rfl ?_
  refine wl_aload_n dL_law_431 rfl rfl ?_
  refine wl_iload dL_law_432 rfl ?_
  refine wl_iconst (v := nI 1) dL_law_434 rfl ?_
  refine wl_iadd_n dL_law_435 ?_
  refine wl_sld dL_law_436 (by omega) ?_
  refine wl_call (M2 := M_X7_count) (n := 1) (o := 63) (kd := 7) (As := [.int (B.2.2 (i + 1))]) (st := [.int v]) dL_law_437 c2 ca_L_59 nm_X7_count (by decide) rfl (by decide) rfl rfl rfl (Nat.le_of_ble_eq_true rfl) hk0 hn0 (fun r1 D1 q1 => ?_)
  obtain ⟨rfl, h2⟩ := k2 r1 D1 q1
  show WL g B k0 n0 _ _ [.int v, .int v] _
  exact wl_icmp_eq (tgt := 1168) dL_law_440 (by decide) (fun _ => K D1 h2) (fun z => absurd rfl z)
theorem law_difference (hk0 : k0 ≤ 603142) (hn0 : n0 ≤ 7286679) (hL : B.2.1 ≤ 3072) (hi : i + 6 ≤ B.2.1) (h : INV D) (K : ∀ D', INV D' → WL g B k0 n0 1168 [(0, .ref 91), (1, .ref 0), (2, .ref 63), (3, .ref 73), (4, .int (nI i))] [] D') : WL g B k0 n0 513 [(0, .ref 91), (1, .ref 0), (2, .ref 63), (3, .ref 73), (4, .int (nI i))] [] D := by
  obtain ⟨n, r, h⟩ := h
  obtain ⟨Q1, c1, k1⟩ := pr_difference (g := g) h (B.2.2 (i + 1)) (B.2.2 (i + 2)) (if B.2.2 (i + 3) = 0 then 0 else 1)
  refine wl_aload_n dL_law_513 rfl rfl ?_
  refine wl_aload_n dL_law_514 rfl rfl ?_
  refine wl_iload dL_law_515 rfl ?_
  refine wl_iconst (v := nI 1) dL_law_517 rfl ?_
  refine wl_iadd_n dL_law_518 ?_
  refine wl_sld dL_law_519 (by omega) ?_
  refine wl_aload_n dL_law_520 rfl rfl ?_
  refine wl_iload dL_law_521 rfl ?_
  refine wl_iconst (v := nI 2) dL_law_523 rfl ?_
  refine wl_iadd_n dL_law_524 ?_
  refine wl_sld dL_law_525 (by omega) ?_
  refine wl_aload_n dL_law_526 rfl rfl ?_
  refine wl_iload dL_law_527 rfl ?_
  refine wl_iconst (v := nI 3) dL_law_529 rfl ?_
  refine wl_iadd_n dL_law_530 ?_
  refine wl_sld dL_law_531 (by omega) ?_
  refine wl_bool (tgt := 539) dL_law_532 (by decide) dL_law_535 dL_law_536 (by decide) dL_law_539 ?_
  refine wl_call (M2 := M_X6_difference) (n := 3) (o := 0) (kd := 6) (As := [.int (B.2.2 (i + 1)), .int (B.2.2 (i + 2)), .int (if B.2.2 (i + 3) = 0 then 0 else 1)]) (st := []) dL_law_540 c1 ca_L_69 nm_X6_difference (by decide) rfl (by decide) rfl rfl rfl (Nat.le_of_ble_eq_true rfl) hk0 hn0 (fun r0 D0 q0 => ?_)
  obtain ⟨v, rfl, Q2, c2, k2⟩ := k1 r0 D0 q0
  show WL g B k0 n0 _ _ [.long v] _
  refine wl_aload_n dL_law_543 rfl rfl ?_
  refine wl_aload_n dL_law_544 rfl rfl ?_
  refine wl_iload dL_law_545 rfl ?_
  refine wl_iconst (v := nI 1) dL_law_547 rfl ?_
  refine wl_iadd_n dL_law_548 ?_
  refine wl_sld dL_law_549 (by omega) ?_
  refine wl_aload_n dL_law_550 rfl rfl ?_
  refine wl_iload dL_law_551 rfl ?_
  refine wl_iconst (v := nI 2) dL_law_553 rfl ?_
  refine wl_iadd_n dL_law_554 ?_
  refine wl_sld dL_law_555 (by omega) ?_
  refine wl_aload_n dL_law_556 rfl rfl ?_
  refine wl_iload dL_law_557 rfl ?_
  refine wl_iconst (v := nI 3) dL_law_559 rfl ?_
  refine wl_iadd_n dL_law_560 ?_
  refine wl_sld dL_law_561 (by omega) ?_
  refine wl_bool (tgt := 569) dL_law_562 (by decide) dL_law_565 dL_law_566 (by decide) dL_law_569 ?_
  refine wl_call (M2 := M_X7_difference_) (n := 3) (o := 63) (kd := 7) (As := [.int (B.2.2 (i + 1)), .int (B.2.2 (i + 2)), .int (if B.2.2 (i + 3) = 0 then 0 else 1)]) (st := [.long v]) dL_law_570 c2 ca_L_73 nm_X7_difference_ (by decide) rfl (by decide) rfl rfl rfl (Nat.le_of_ble_eq_true rfl) hk0 hn0 (fun r1 D1 q1 => ?_)
  obtain ⟨rfl, h2⟩ := k2 r1 D1 q1
  show WL g B k0 n0 _ _ [.long v, .long v] _
  refine wl_lcmp dL_law_573 ?_
  exact wl_if_eq (tgt := 1168) dL_law_574 (by decide) (fun _ => K D1 h2) (fun z => absurd ((sr_cmp_eq v v).mpr rfl) z)
theorem law_doubt (hk0 : k0 ≤ 603142) (hn0 : n0 ≤ 7286679) (hL : B.2.1 ≤ 3072) (hi : i + 6 ≤ B.2.1) (h : INV D) (K : ∀ D', INV D' → WL g B k0 n0 1168 [(0, .ref 91), (1, .ref 0), (2, .ref 63), (3, .ref 73), (4, .int (nI i))] [] D') : WL g B k0 n0 579 [(0, .ref 91), (1, .ref 0), (2, .ref 63), (3, .ref 73), (4, .int (nI i))] [] D := by
  obtain ⟨n, r, h⟩ := h
  obtain ⟨Q1, c1, k1⟩ := pr_doubt (g := g) h (B.2.2 (i + 1)) (B.2.2 (i + 2)) (if B.2.2 (i + 3) = 0 then 0 else 1)
  refine wl_aload_n dL_law_579 rfl rfl ?_
  refine wl_aload_n dL_law_580 rfl rfl ?_
  refine wl_iload dL_law_581 rfl ?_
  refine wl_iconst (v := nI 1) dL_law_583 rfl ?_
  refine wl_iadd_n dL_law_584 ?_
  refine wl_sld dL_law_585 (by omega) ?_
  refine wl_aload_n dL_law_586 rfl rfl ?_
  refine wl_iload dL_law_587 rfl ?_
  refine wl_iconst (v := nI 2) dL_law_589 rfl ?_
  refine wl_iadd_n dL_law_590 ?_
  refine wl_sld dL_law_591 (by omega) ?_
  refine wl_aload_n dL_law_592 rfl rfl ?_
  refine wl_iload dL_law_593 rfl ?_
  refine wl_iconst (v := nI 3) dL_law_595 rfl ?_
  refine wl_iadd_n dL_law_596 ?_
  refine wl_sld dL_law_597 (by omega) ?_
  refine wl_bool (tgt := 605) dL_law_598 (by decide) dL_law_601 dL_law_602 (by decide) dL_law_605 ?_
  refine wl_call (M2 := M_X6_doubt) (n := 3) (o := 0) (kd := 6) (As := [.int (B.2.2 (i + 1)), .int (B.2.2 (i + 2)), .int (if B.2.2 (i + 3) = 0 then 0 else 1)]) (st := []) dL_law_606 c1 ca_L_74 nm_X6_doubt (by decide) rfl (by decide) rfl rfl rfl (Nat.le_of_ble_eq_true rfl) hk0 hn0 (fun r0 D0 q0 => ?_)
  obtain ⟨v, rfl, Q2, c2, k2⟩ := k1 r0 D0 q0
  show WL g B k0 n0 _ _ [.long v] _
  refine wl_aload_n dL_law_609 rfl rfl ?_
  refine wl_aload_n dL_law_610 rfl rfl ?_
  refine wl_iload dL_law_611 rfl ?_
  refine wl_iconst (v := nI 1) dL_law_613 rfl ?_
  refine wl_iadd_n dL_law_614 ?_
  refine wl_sld dL_law_615 (by omega) ?_
  refine wl_aload_n dL_law_616 rfl rfl ?_
  refine wl_iload dL_law_617 rfl ?_
  refine wl_iconst (v := nI 2) dL_law_619 rfl ?_
  refine wl_iadd_n dL_law_620 ?_
  refine wl_sld dL_law_621 (by omega) ?_
  refine wl_aload_n dL_law_622 rfl rfl ?_
  refine wl_iload dL_law_623 rfl ?_
  refine wl_iconst (v := nI 3) dL_law_625 rfl ?_
  refine wl_iadd_n dL_law_626 ?_
  refine wl_sld dL_law_627 (by omega) ?_
  refine wl_bool (tgt := 635) dL_law_628 (by decide) dL_law_631 dL_law_632 (by decide) dL_law_635 ?_
  refine wl_call (M2 := M_X7_doubt_) (n := 3) (o := 63) (kd := 7) (As := [.int (B.2.2 (i + 1)), .int (B.2.2 (i + 2)), .int (if B.2.2 (i + 3) = 0 then 0 else 1)]) (st := [.long v]) dL_law_636 c2 ca_L_77 nm_X7_doubt_ (by decide) rfl (by decide) rfl rfl rfl (Nat.le_of_ble_eq_true rfl) hk0 hn0 (fun r1 D1 q1 => ?_)
  obtain ⟨rfl, h2⟩ := k2 r1 D1 q1
  show WL g B k0 n0 _ _ [.long v, .long v] _
  refine wl_lcmp dL_law_639 ?_
  exact wl_if_eq (tgt := 1168) dL_law_640 (by decide) (fun _ => K D1 h2) (fun z => absurd ((sr_cmp_eq v v).mpr rfl) z)
theorem law_drift (hk0 : k0 ≤ 603142) (hn0 : n0 ≤ 7286679) (hL : B.2.1 ≤ 3072) (hi : i + 6 ≤ B.2.1) (h : INV D) (K : ∀ D', INV D' → WL g B k0 n0 1168 [(0, .ref 91), (1, .ref 0), (2, .ref 63), (3, .ref 73), (4, .int (nI i))] [] D') : WL g B k0 n0 645 [(0, .ref 91), (1, .ref 0), (2, .ref 63), (3, .ref 73), (4, .int (nI i))] [] D := by
  obtain ⟨n, r, h⟩ := h
  obtain ⟨Q1, c1, k1⟩ := pr_drift (g := g) h (if B.2.2 (i + 1) = 0 then 0 else 1)
  refine wl_aload_n dL_law_645 rfl rfl ?_
  refine wl_aload_n dL_law_646 rfl rfl ?_
  refine wl_iload dL_law_647 rfl ?_
  refine wl_iconst (v := nI 1) dL_law_649 rfl ?_
  refine wl_iadd_n dL_law_650 ?_
  refine wl_sld dL_law_651 (by omega) ?_
  refine wl_bool (tgt := 659) dL_law_652 (by decide) dL_law_655 dL_law_656 (by decide) dL_law_659 ?_
  refine wl_call (M2 := M_X6_drift) (n := 1) (o := 0) (kd := 6) (As := [.int (if B.2.2 (i + 1) = 0 then 0 else 1)]) (st := []) dL_law_660 c1 ca_L_78 nm_X6_drift (by decide) rfl (by decide) rfl rfl rfl (Nat.le_of_ble_eq_true rfl) hk0 hn0 (fun r0 D0 q0 => ?_)
  obtain ⟨v, rfl, Q2, c2, k2⟩ := k1 r0 D0 q0
  show WL g B k0 n0 _ _ [.long v] _
  refine wl_aload_n dL_law_663 rfl rfl ?_
  refine wl_aload_n dL_law_664 rfl rfl ?_
  refine wl_iload dL_law_665 rfl ?_
  refine wl_iconst (v := nI 1) dL_law_667 rfl ?_
  refine wl_iadd_n dL_law_668 ?_
  refine wl_sld dL_law_669 (by omega) ?_
  refine wl_bool (tgt := 677) dL_law_670 (by decide) dL_law_673 dL_law_674 (by decide) dL_law_677 ?_
  refine wl_call (M2 := M_X7_drift) (n := 1) (o := 63) (kd := 7) (As := [.int (if B.2.2 (i + 1) = 0 then 0 else 1)]) (st := [.long v]) dL_law_678 c2 ca_L_82 nm_X7_drift (by decide) rfl (by decide) rfl rfl rfl (Nat.le_of_ble_eq_true rfl) hk0 hn0 (fun r1 D1 q1 => ?_)
  obtain ⟨rfl, h2⟩ := k2 r1 D1 q1
  show WL g B k0 n0 _ _ [.long v, .long v] _
  refine wl_lcmp dL_law_681 ?_
  exact wl_if_eq (tgt := 1168) dL_law_682 (by decide) (fun _ => K D1 h2) (fun z => absurd ((sr_cmp_eq v v).mpr rfl) z)
theorem law_rest (hk0 : k0 ≤ 603142) (hn0 : n0 ≤ 7286679) (hL : B.2.1 ≤ 3072) (hi : i + 6 ≤ B.2.1) (h : INV D) (K : ∀ D', INV D' → WL g B k0 n0 1168 [(0, .ref 91), (1, .ref 0), (2, .ref 63), (3, .ref 73), (4, .int (nI i))] [] D') : WL g B k0 n0 687 [(0, .ref 91), (1, .ref 0), (2, .ref 63), (3, .ref 73), (4, .int (nI i))] [] D := by
  obtain ⟨n, r, h⟩ := h
  obtain ⟨Q1, c1, k1⟩ := pr_rest (g := g) h (B.2.2 (i + 1)) (if B.2.2 (i + 2) = 0 then 0 else 1)
  refine wl_aload_n dL_law_687 rfl rfl ?_
  refine wl_aload_n dL_law_688 rfl rfl ?_
  refine wl_iload dL_law_689 rfl ?_
  refine wl_iconst (v := nI 1) dL_law_691 rfl ?_
  refine wl_iadd_n dL_law_692 ?_
  refine wl_sld dL_law_693 (by omega) ?_
  refine wl_aload_n dL_law_694 rfl rfl ?_
  refine wl_iload dL_law_695 rfl ?_
  refine wl_iconst (v := nI 2) dL_law_697 rfl ?_
  refine wl_iadd_n dL_law_698 ?_
  refine wl_sld dL_law_699 (by omega) ?_
  refine wl_bool (tgt := 707) dL_law_700 (by decide) dL_law_703 dL_law_704 (by decide) dL_law_707 ?_
  refine wl_call (M2 := M_X6_rest) (n := 2) (o := 0) (kd := 6) (As := [.int (B.2.2 (i + 1)), .int (if B.2.2 (i + 2) = 0 then 0 else 1)]) (st := []) dL_law_708 c1 ca_L_83 nm_X6_rest (by decide) rfl (by decide) rfl rfl rfl (Nat.le_of_ble_eq_true rfl) hk0 hn0 (fun r0 D0 q0 => ?_)
  obtain ⟨v, rfl, Q2, c2, k2⟩ := k1 r0 D0 q0
  show WL g B k0 n0 _ _ [.long v] _
  refine wl_aload_n dL_law_711 rfl rfl ?_
  refine wl_aload_n dL_law_712 rfl rfl ?_
  refine wl_iload dL_law_713 rfl ?_
  refine wl_iconst (v := nI 1) dL_law_715 rfl ?_
  refine wl_iadd_n dL_law_716 ?_
  refine wl_sld dL_law_717 (by omega) ?_
  refine wl_aload_n dL_law_718 rfl rfl ?_
  refine wl_iload dL_law_719 rfl ?_
  refine wl_iconst (v := nI 2) dL_law_721 rfl ?_
  refine wl_iadd_n dL_law_722 ?_
  refine wl_sld dL_law_723 (by omega) ?_
  refine wl_bool (tgt := 731) dL_law_724 (by decide) dL_law_727 dL_law_728 (by decide) dL_law_731 ?_
  refine wl_call (M2 := M_X7_rest) (n := 2) (o := 63) (kd := 7) (As := [.int (B.2.2 (i + 1)), .int (if B.2.2 (i + 2) = 0 then 0 else 1)]) (st := [.long v]) dL_law_732 c2 ca_L_87 nm_X7_rest (by decide) rfl (by decide) rfl rfl rfl (Nat.le_of_ble_eq_true rfl) hk0 hn0 (fun r1 D1 q1 => ?_)
  obtain ⟨rfl, h2⟩ := k2 r1 D1 q1
  show WL g B k0 n0 _ _ [.long v, .long v] _
  refine wl_lcmp dL_law_735 ?_
  exact wl_if_eq (tgt := 1168) dL_law_736 (by decide) (fun _ => K D1 h2) (fun z => absurd ((sr_cmp_eq v v).mpr rfl) z)
theorem law_sum (hk0 : k0 ≤ 603142) (hn0 : n0 ≤ 7286679) (hL : B.2.1 ≤ 3072) (hi : i + 6 ≤ B.2.1) (h : INV D) (K : ∀ D', INV D' → WL g B k0 n0 1168 [(0, .ref 91), (1, .ref 0), (2, .ref 63), (3, .ref 73), (4, .int (nI i))] [] D') : WL g B k0 n0 741 [(0, .ref 91), (1, .ref 0), (2, .ref 63), (3, .ref 73), (4, .int (nI i))] [] D := by
  obtain ⟨n, r, h⟩ := h
  obtain ⟨Q1, c1, k1⟩ := pr_sum (g := g) h (if B.2.2 (i + 1) = 0 then 0 else 1)
  refine wl_aload_n dL_law_741 rfl rfl ?_
  refine wl_aload_n dL_law_742 rfl rfl ?_
  refine wl_iload dL_law_743 rfl ?_
  refine wl_iconst (v := nI 1) dL_law_745 rfl ?_
  refine wl_iadd_n dL_law_746 ?_
  refine wl_sld dL_law_747 (by omega) ?_
  refine wl_bool (tgt := 755) dL_law_748 (by decide) dL_law_751 dL_law_752 (by decide) dL_law_755 ?_
  refine wl_call (M2 := M_X6_sum) (n := 1) (o := 0) (kd := 6) (As := [.int (if B.2.2 (i + 1) = 0 then 0 else 1)]) (st := []) dL_law_756 c1 ca_L_88 nm_X6_sum (by decide) rfl (by decide) rfl rfl rfl (Nat.le_of_ble_eq_true rfl) hk0 hn0 (fun r0 D0 q0 => ?_)
  obtain ⟨v, rfl, Q2, c2, k2⟩ := k1 r0 D0 q0
  show WL g B k0 n0 _ _ [.long v] _
  refine wl_aload_n dL_law_759 rfl rfl ?_
  refine wl_aload_n dL_law_760 rfl rfl ?_
  refine wl_iload dL_law_761 rfl ?_
  refine wl_iconst (v := nI 1) dL_law_763 rfl ?_
  refine wl_iadd_n dL_law_764 ?_
  refine wl_sld dL_law_765 (by omega) ?_
  refine wl_bool (tgt := 773) dL_law_766 (by decide) dL_law_769 dL_law_770 (by decide) dL_law_773 ?_
  refine wl_call (M2 := M_X7_sum) (n := 1) (o := 63) (kd := 7) (As := [.int (if B.2.2 (i + 1) = 0 then 0 else 1)]) (st := [.long v]) dL_law_774 c2 ca_L_91 nm_X7_sum (by decide) rfl (by decide) rfl rfl rfl (Nat.le_of_ble_eq_true rfl) hk0 hn0 (fun r1 D1 q1 => ?_)
  obtain ⟨rfl, h2⟩ := k2 r1 D1 q1
  show WL g B k0 n0 _ _ [.long v, .long v] _
  refine wl_lcmp dL_law_777 ?_
  exact wl_if_eq (tgt := 1168) dL_law_778 (by decide) (fun _ => K D1 h2) (fun z => absurd ((sr_cmp_eq v v).mpr rfl) z)
theorem law_guess (hk0 : k0 ≤ 603142) (hn0 : n0 ≤ 7286679) (hL : B.2.1 ≤ 3072) (hi : i + 6 ≤ B.2.1) (h : INV D) (K : ∀ D', INV D' → WL g B k0 n0 1168 [(0, .ref 91), (1, .ref 0), (2, .ref 63), (3, .ref 73), (4, .int (nI i))] [] D') : WL g B k0 n0 783 [(0, .ref 91), (1, .ref 0), (2, .ref 63), (3, .ref 73), (4, .int (nI i))] [] D := by
  obtain ⟨n, r, h⟩ := h
  obtain ⟨Q1, c1, k1⟩ := pr_guess (g := g) h (B.2.2 (i + 1)) (B.2.2 (i + 2)) (B.2.2 (i + 3)) (if B.2.2 (i + 4) = 0 then 0 else 1) (if B.2.2 (i + 5) = 0 then 0 else 1)
  refine wl_aload_n dL_law_783 rfl rfl ?_
  refine wl_aload_n dL_law_784 rfl rfl ?_
  refine wl_iload dL_law_785 rfl ?_
  refine wl_iconst (v := nI 1) dL_law_787 rfl ?_
  refine wl_iadd_n dL_law_788 ?_
  refine wl_sld dL_law_789 (by omega) ?_
  refine wl_aload_n dL_law_790 rfl rfl ?_
  refine wl_iload dL_law_791 rfl ?_
  refine wl_iconst (v := nI 2) dL_law_793 rfl ?_
  refine wl_iadd_n dL_law_794 ?_
  refine wl_sld dL_law_795 (by omega) ?_
  refine wl_aload_n dL_law_796 rfl rfl ?_
  refine wl_iload dL_law_797 rfl ?_
  refine wl_iconst (v := nI 3) dL_law_799 rfl ?_
  refine wl_iadd_n dL_law_800 ?_
  refine wl_sld dL_law_801 (by omega) ?_
  refine wl_aload_n dL_law_802 rfl rfl ?_
  refine wl_iload dL_law_803 rfl ?_
  refine wl_iconst (v := nI 4) dL_law_805 rfl ?_
  refine wl_iadd_n dL_law_806 ?_
  refine wl_sld dL_law_807 (by omega) ?_
  refine wl_bool (tgt := 815) dL_law_808 (by decide) dL_law_811 dL_law_812 (by decide) dL_law_815 ?_
  refine wl_aload_n dL_law_816 rfl rfl ?_
  refine wl_iload dL_law_817 rfl ?_
  refine wl_iconst (v := nI 5) dL_law_819 rfl ?_
  refine wl_iadd_n dL_law_820 ?_
  refine wl_sld dL_law_821 (by omega) ?_
  refine wl_bool (tgt := 829) dL_law_822 (by decide) dL_law_825 dL_law_826 (by decide) dL_law_829 ?_
  refine wl_call (M2 := M_X6_guess) (n := 5) (o := 0) (kd := 6) (As := [.int (B.2.2 (i + 1)), .int (B.2.2 (i + 2)), .int (B.2.2 (i + 3)), .int (if B.2.2 (i + 4) = 0 then 0 else 1), .int (if B.2.2 (i + 5) = 0 then 0 else 1)]) (st := []) dL_law_830 c1 ca_L_92 nm_X6_guess (by decide) rfl (by decide) rfl rfl rfl (Nat.le_of_ble_eq_true rfl) hk0 hn0 (fun r0 D0 q0 => ?_)
  obtain ⟨v, rfl, Q2, c2, k2⟩ := k1 r0 D0 q0
  show WL g B k0 n0 _ _ [.long v] _
  refine wl_aload_n dL_law_833 rfl rfl ?_
  refine wl_aload_n dL_law_834 rfl rfl ?_
  refine wl_iload dL_law_835 rfl ?_
  refine wl_iconst (v := nI 1) dL_law_837 rfl ?_
  refine wl_iadd_n dL_law_838 ?_
  refine wl_sld dL_law_839 (by omega) ?_
  refine wl_aload_n dL_law_840 rfl rfl ?_
  refine wl_iload dL_law_841 rfl ?_
  refine wl_iconst (v := nI 2) dL_law_843 rfl ?_
  refine wl_iadd_n dL_law_844 ?_
  refine wl_sld dL_law_845 (by omega) ?_
  refine wl_aload_n dL_law_846 rfl rfl ?_
  refine wl_iload dL_law_847 rfl ?_
  refine wl_iconst (v := nI 3) dL_law_849 rfl ?_
  refine wl_iadd_n dL_law_850 ?_
  refine wl_sld dL_law_851 (by omega) ?_
  refine wl_aload_n dL_law_852 rfl rfl ?_
  refine wl_iload dL_law_853 rfl ?_
  refine wl_iconst (v := nI 4) dL_law_855 rfl ?_
  refine wl_iadd_n dL_law_856 ?_
  refine wl_sld dL_law_857 (by omega) ?_
  refine wl_bool (tgt := 865) dL_law_858 (by decide) dL_law_861 dL_law_862 (by decide) dL_law_865 ?_
  refine wl_aload_n dL_law_866 rfl rfl ?_
  refine wl_iload dL_law_867 rfl ?_
  refine wl_iconst (v := nI 5) dL_law_869 rfl ?_
  refine wl_iadd_n dL_law_870 ?_
  refine wl_sld dL_law_871 (by omega) ?_
  refine wl_bool (tgt := 879) dL_law_872 (by decide) dL_law_875 dL_law_876 (by decide) dL_law_879 ?_
  refine wl_call (M2 := M_X7_guess) (n := 5) (o := 63) (kd := 7) (As := [.int (B.2.2 (i + 1)), .int (B.2.2 (i + 2)), .int (B.2.2 (i + 3)), .int (if B.2.2 (i + 4) = 0 then 0 else 1), .int (if B.2.2 (i + 5) = 0 then 0 else 1)]) (st := [.long v]) dL_law_880 c2 ca_L_96 nm_X7_guess (by decide) rfl (by decide) rfl rfl rfl (Nat.le_of_ble_eq_true rfl) hk0 hn0 (fun r1 D1 q1 => ?_)
  obtain ⟨rfl, h2⟩ := k2 r1 D1 q1
  show WL g B k0 n0 _ _ [.long v, .long v] _
  refine wl_lcmp dL_law_883 ?_
  exact wl_if_eq (tgt := 1168) dL_law_884 (by decide) (fun _ => K D1 h2) (fun z => absurd ((sr_cmp_eq v v).mpr rfl) z)
theorem law_rank (hk0 : k0 ≤ 603142) (hn0 : n0 ≤ 7286679) (hL : B.2.1 ≤ 3072) (hi : i + 6 ≤ B.2.1) (h : INV D) (K : ∀ D', INV D' → WL g B k0 n0 1168 [(0, .ref 91), (1, .ref 0), (2, .ref 63), (3, .ref 73), (4, .int (nI i))] [] D') : WL g B k0 n0 889 [(0, .ref 91), (1, .ref 0), (2, .ref 63), (3, .ref 73), (4, .int (nI i))] [] D := by
  obtain ⟨n, r, h⟩ := h
  obtain ⟨Q1, c1, k1⟩ := pr_rank (g := g) h (B.2.2 (i + 1)) (B.2.2 (i + 2))
  refine wl_aload_n dL_law_889 rfl rfl ?_
  refine wl_aload_n dL_law_890 rfl rfl ?_
  refine wl_iload dL_law_891 rfl ?_
  refine wl_iconst (v := nI 1) dL_law_893 rfl ?_
  refine wl_iadd_n dL_law_894 ?_
  refine wl_sld dL_law_895 (by omega) ?_
  refine wl_aload_n dL_law_896 rfl rfl ?_
  refine wl_iload dL_law_897 rfl ?_
  refine wl_iconst (v := nI 2) dL_law_899 rfl ?_
  refine wl_iadd_n dL_law_900 ?_
  refine wl_sld dL_law_901 (by omega) ?_
  refine wl_call (M2 := M_X6_rank) (n := 2) (o := 0) (kd := 6) (As := [.int (B.2.2 (i + 1)), .int (B.2.2 (i + 2))]) (st := []) dL_law_902 c1 ca_L_97 nm_X6_rank (by decide) rfl (by decide) rfl rfl rfl (Nat.le_of_ble_eq_true rfl) hk0 hn0 (fun r0 D0 q0 => ?_)
  obtain ⟨v, rfl, Q2, c2, k2⟩ := k1 r0 D0 q0
  show WL g B k0 n0 _ _ [.int v] _
  refine wl_aload_n dL_law_905 rfl rfl ?_
  refine wl_aload_n dL_law_906 rfl rfl ?_
  refine wl_iload dL_law_907 rfl ?_
  refine wl_iconst (v := nI 1) dL_law_909 rfl ?_
  refine wl_iadd_n dL_law_910 ?_
  refine wl_sld dL_law_911 (by omega) ?_
  refine wl_aload_n dL_law_912 rfl rfl ?_
  refine wl_iload dL_law_913 rfl ?_
  refine wl_iconst (v := nI 2) dL_law_915 rfl ?_
  refine wl_iadd_n dL_law_916 ?_
  refine wl_sld dL_law_917 (by omega) ?_
  refine wl_call (M2 := M_X7_rank) (n := 2) (o := 63) (kd := 7) (As := [.int (B.2.2 (i + 1)), .int (B.2.2 (i + 2))]) (st := [.int v]) dL_law_918 c2 ca_L_100 nm_X7_rank (by decide) rfl (by decide) rfl rfl rfl (Nat.le_of_ble_eq_true rfl) hk0 hn0 (fun r1 D1 q1 => ?_)
  obtain ⟨rfl, h2⟩ := k2 r1 D1 q1
  show WL g B k0 n0 _ _ [.int v, .int v] _
  exact wl_icmp_eq (tgt := 1168) dL_law_921 (by decide) (fun _ => K D1 h2) (fun z => absurd rfl z)
theorem law_suit (hk0 : k0 ≤ 603142) (hn0 : n0 ≤ 7286679) (hL : B.2.1 ≤ 3072) (hi : i + 6 ≤ B.2.1) (h : INV D) (K : ∀ D', INV D' → WL g B k0 n0 1168 [(0, .ref 91), (1, .ref 0), (2, .ref 63), (3, .ref 73), (4, .int (nI i))] [] D') : WL g B k0 n0 926 [(0, .ref 91), (1, .ref 0), (2, .ref 63), (3, .ref 73), (4, .int (nI i))] [] D := by
  obtain ⟨n, r, h⟩ := h
  obtain ⟨Q1, c1, k1⟩ := pr_suit (g := g) h (B.2.2 (i + 1)) (B.2.2 (i + 2)) (if B.2.2 (i + 3) = 0 then 0 else 1)
  refine wl_aload_n dL_law_926 rfl rfl ?_
  refine wl_aload_n dL_law_927 rfl rfl ?_
  refine wl_iload dL_law_928 rfl ?_
  refine wl_iconst (v := nI 1) dL_law_930 rfl ?_
  refine wl_iadd_n dL_law_931 ?_
  refine wl_sld dL_law_932 (by omega) ?_
  refine wl_aload_n dL_law_933 rfl rfl ?_
  refine wl_iload dL_law_934 rfl ?_
  refine wl_iconst (v := nI 2) dL_law_936 rfl ?_
  refine wl_iadd_n dL_law_937 ?_
  refine wl_sld dL_law_938 (by omega) ?_
  refine wl_aload_n dL_law_939 rfl rfl ?_
  refine wl_iload dL_law_940 rfl ?_
  refine wl_iconst (v := nI 3) dL_law_942 rfl ?_
  refine wl_iadd_n dL_law_943 ?_
  refine wl_sld dL_law_944 (by omega) ?_
  refine wl_bool (tgt := 952) dL_law_945 (by decide) dL_law_948 dL_law_949 (by decide) dL_law_952 ?_
  refine wl_call (M2 := M_X6_suit) (n := 3) (o := 0) (kd := 6) (As := [.int (B.2.2 (i + 1)), .int (B.2.2 (i + 2)), .int (if B.2.2 (i + 3) = 0 then 0 else 1)]) (st := []) dL_law_953 c1 ca_L_101 nm_X6_suit (by decide) rfl (by decide) rfl rfl rfl (Nat.le_of_ble_eq_true rfl) hk0 hn0 (fun r0 D0 q0 => ?_)
  obtain ⟨v, rfl, Q2, c2, k2⟩ := k1 r0 D0 q0
  show WL g B k0 n0 _ _ [.long v] _
  refine wl_aload_n dL_law_956 rfl rfl ?_
  refine wl_aload_n dL_law_957 rfl rfl ?_
  refine wl_iload dL_law_958 rfl ?_
  refine wl_iconst (v := nI 1) dL_law_960 rfl ?_
  refine wl_iadd_n dL_law_961 ?_
  refine wl_sld dL_law_962 (by omega) ?_
  refine wl_aload_n dL_law_963 rfl rfl ?_
  refine wl_iload dL_law_964 rfl ?_
  refine wl_iconst (v := nI 2) dL_law_966 rfl ?_
  refine wl_iadd_n dL_law_967 ?_
  refine wl_sld dL_law_968 (by omega) ?_
  refine wl_aload_n dL_law_969 rfl rfl ?_
  refine wl_iload dL_law_970 rfl ?_
  refine wl_iconst (v := nI 3) dL_law_972 rfl ?_
  refine wl_iadd_n dL_law_973 ?_
  refine wl_sld dL_law_974 (by omega) ?_
  refine wl_bool (tgt := 982) dL_law_975 (by decide) dL_law_978 dL_law_979 (by decide) dL_law_982 ?_
  refine wl_call (M2 := M_X7_suit) (n := 3) (o := 63) (kd := 7) (As := [.int (B.2.2 (i + 1)), .int (B.2.2 (i + 2)), .int (if B.2.2 (i + 3) = 0 then 0 else 1)]) (st := [.long v]) dL_law_983 c2 ca_L_104 nm_X7_suit (by decide) rfl (by decide) rfl rfl rfl (Nat.le_of_ble_eq_true rfl) hk0 hn0 (fun r1 D1 q1 => ?_)
  obtain ⟨rfl, h2⟩ := k2 r1 D1 q1
  show WL g B k0 n0 _ _ [.long v, .long v] _
  refine wl_lcmp dL_law_986 ?_
  exact wl_if_eq (tgt := 1168) dL_law_987 (by decide) (fun _ => K D1 h2) (fun z => absurd ((sr_cmp_eq v v).mpr rfl) z)
theorem law_swaps (hk0 : k0 ≤ 603142) (hn0 : n0 ≤ 7286679) (hL : B.2.1 ≤ 3072) (hi : i + 6 ≤ B.2.1) (h : INV D) (K : ∀ D', INV D' → WL g B k0 n0 1168 [(0, .ref 91), (1, .ref 0), (2, .ref 63), (3, .ref 73), (4, .int (nI i))] [] D') : WL g B k0 n0 992 [(0, .ref 91), (1, .ref 0), (2, .ref 63), (3, .ref 73), (4, .int (nI i))] [] D := by
  obtain ⟨n, r, h⟩ := h
  obtain ⟨Q1, c1, k1⟩ := pr_swaps (g := g) h (B.2.2 (i + 1)) (B.2.2 (i + 2)) (B.2.2 (i + 3))
  refine wl_aload_n dL_law_992 rfl rfl ?_
  refine wl_aload_n dL_law_993 rfl rfl ?_
  refine wl_iload dL_law_994 rfl ?_
  refine wl_iconst (v := nI 1) dL_law_996 rfl ?_
  refine wl_iadd_n dL_law_997 ?_
  refine wl_sld dL_law_998 (by omega) ?_
  refine wl_aload_n dL_law_999 rfl rfl ?_
  refine wl_iload dL_law_1000 rfl ?_
  refine wl_iconst (v := nI 2) dL_law_1002 rfl ?_
  refine wl_iadd_n dL_law_1003 ?_
  refine wl_sld dL_law_1004 (by omega) ?_
  refine wl_aload_n dL_law_1005 rfl rfl ?_
  refine wl_iload dL_law_1006 rfl ?_
  refine wl_iconst (v := nI 3) dL_law_1008 rfl ?_
  refine wl_iadd_n dL_law_1009 ?_
  refine wl_sld dL_law_1010 (by omega) ?_
  refine wl_call (M2 := M_X6_swaps) (n := 3) (o := 0) (kd := 6) (As := [.int (B.2.2 (i + 1)), .int (B.2.2 (i + 2)), .int (B.2.2 (i + 3))]) (st := []) dL_law_1011 c1 ca_L_105 nm_X6_swaps (by decide) rfl (by decide) rfl rfl rfl (Nat.le_of_ble_eq_true rfl) hk0 hn0 (fun r0 D0 q0 => ?_)
  obtain ⟨v, rfl, Q2, c2, k2⟩ := k1 r0 D0 q0
  show WL g B k0 n0 _ _ [.long v] _
  refine wl_aload_n dL_law_1014 rfl rfl ?_
  refine wl_aload_n dL_law_1015 rfl rfl ?_
  refine wl_iload dL_law_1016 rfl ?_
  refine wl_iconst (v := nI 1) dL_law_1018 rfl ?_
  refine wl_iadd_n dL_law_1019 ?_
  refine wl_sld dL_law_1020 (by omega) ?_
  refine wl_aload_n dL_law_1021 rfl rfl ?_
  refine wl_iload dL_law_1022 rfl ?_
  refine wl_iconst (v := nI 2) dL_law_1024 rfl ?_
  refine wl_iadd_n dL_law_1025 ?_
  refine wl_sld dL_law_1026 (by omega) ?_
  refine wl_aload_n dL_law_1027 rfl rfl ?_
  refine wl_iload dL_law_1028 rfl ?_
  refine wl_iconst (v := nI 3) dL_law_1030 rfl ?_
  refine wl_iadd_n dL_law_1031 ?_
  refine wl_sld dL_law_1032 (by omega) ?_
  refine wl_call (M2 := M_X7_swaps_) (n := 3) (o := 63) (kd := 7) (As := [.int (B.2.2 (i + 1)), .int (B.2.2 (i + 2)), .int (B.2.2 (i + 3))]) (st := [.long v]) dL_law_1033 c2 ca_L_109 nm_X7_swaps_ (by decide) rfl (by decide) rfl rfl rfl (Nat.le_of_ble_eq_true rfl) hk0 hn0 (fun r1 D1 q1 => ?_)
  obtain ⟨rfl, h2⟩ := k2 r1 D1 q1
  show WL g B k0 n0 _ _ [.long v, .long v] _
  refine wl_lcmp dL_law_1036 ?_
  exact wl_if_eq (tgt := 1168) dL_law_1037 (by decide) (fun _ => K D1 h2) (fun z => absurd ((sr_cmp_eq v v).mpr rfl) z)
theorem law_next (hk0 : k0 ≤ 603142) (hn0 : n0 ≤ 7286679) (hL : B.2.1 ≤ 3072) (hi : i + 6 ≤ B.2.1) (h : INV D) (K : ∀ D', INV D' → WL g B k0 n0 1168 [(0, .ref 91), (1, .ref 0), (2, .ref 63), (3, .ref 73), (4, .int (nI i))] [] D') : WL g B k0 n0 1042 [(0, .ref 91), (1, .ref 0), (2, .ref 63), (3, .ref 73), (4, .int (nI i))] [] D := by
  obtain ⟨n, r, h⟩ := h
  obtain ⟨Q1, c1, k1⟩ := pr_next (g := g) h (B.2.2 (i + 1)) (B.2.2 (i + 2))
  refine wl_aload_n dL_law_1042 rfl rfl ?_
  refine wl_aload_n dL_law_1043 rfl rfl ?_
  refine wl_iload dL_law_1044 rfl ?_
  refine wl_iconst (v := nI 1) dL_law_1046 rfl ?_
  refine wl_iadd_n dL_law_1047 ?_
  refine wl_sld dL_law_1048 (by omega) ?_
  refine wl_aload_n dL_law_1049 rfl rfl ?_
  refine wl_iload dL_law_1050 rfl ?_
  refine wl_iconst (v := nI 2) dL_law_1052 rfl ?_
  refine wl_iadd_n dL_law_1053 ?_
  refine wl_sld dL_law_1054 (by omega) ?_
  refine wl_call (M2 := M_X6_next) (n := 2) (o := 0) (kd := 6) (As := [.int (B.2.2 (i + 1)), .int (B.2.2 (i + 2))]) (st := []) dL_law_1055 c1 ca_L_110 nm_X6_next (by decide) rfl (by decide) rfl rfl rfl (Nat.le_of_ble_eq_true rfl) hk0 hn0 (fun r0 D0 q0 => ?_)
  obtain ⟨v, rfl, Q2, c2, k2⟩ := k1 r0 D0 q0
  show WL g B k0 n0 _ _ [.long v] _
  refine wl_aload_n dL_law_1058 rfl rfl ?_
  refine wl_aload_n dL_law_1059 rfl rfl ?_
  refine wl_iload dL_law_1060 rfl ?_
  refine wl_iconst (v := nI 1) dL_law_1062 rfl ?_
  refine wl_iadd_n dL_law_1063 ?_
  refine wl_sld dL_law_1064 (by omega) ?_
  refine wl_aload_n dL_law_1065 rfl rfl ?_
  refine wl_iload dL_law_1066 rfl ?_
  refine wl_iconst (v := nI 2) dL_law_1068 rfl ?_
  refine wl_iadd_n dL_law_1069 ?_
  refine wl_sld dL_law_1070 (by omega) ?_
  refine wl_call (M2 := M_X7_next) (n := 2) (o := 63) (kd := 7) (As := [.int (B.2.2 (i + 1)), .int (B.2.2 (i + 2))]) (st := [.long v]) dL_law_1071 c2 ca_L_114 nm_X7_next (by decide) rfl (by decide) rfl rfl rfl (Nat.le_of_ble_eq_true rfl) hk0 hn0 (fun r1 D1 q1 => ?_)
  obtain ⟨rfl, h2⟩ := k2 r1 D1 q1
  show WL g B k0 n0 _ _ [.long v, .long v] _
  refine wl_lcmp dL_law_1074 ?_
  exact wl_if_eq (tgt := 1168) dL_law_1075 (by decide) (fun _ => K D1 h2) (fun z => absurd ((sr_cmp_eq v v).mpr rfl) z)
theorem law_fewest (hk0 : k0 ≤ 603142) (hn0 : n0 ≤ 7286679) (hL : B.2.1 ≤ 3072) (hi : i + 6 ≤ B.2.1) (h : INV D) (K : ∀ D', INV D' → WL g B k0 n0 1168 [(0, .ref 91), (1, .ref 0), (2, .ref 63), (3, .ref 73), (4, .int (nI i))] [] D') : WL g B k0 n0 1080 [(0, .ref 91), (1, .ref 0), (2, .ref 63), (3, .ref 73), (4, .int (nI i))] [] D := by
  obtain ⟨n, r, h⟩ := h
  obtain ⟨Q1, c1, k1⟩ := pr_fewest (g := g) h (B.2.2 (i + 1))
  refine wl_aload_n dL_law_1080 rfl rfl ?_
  refine wl_aload_n dL_law_1081 rfl rfl ?_
  refine wl_iload dL_law_1082 rfl ?_
  refine wl_iconst (v := nI 1) dL_law_1084 rfl ?_
  refine wl_iadd_n dL_law_1085 ?_
  refine wl_sld dL_law_1086 (by omega) ?_
  refine wl_call (M2 := M_X6_fewest) (n := 1) (o := 0) (kd := 6) (As := [.int (B.2.2 (i + 1))]) (st := []) dL_law_1087 c1 ca_L_115 nm_X6_fewest (by decide) rfl (by decide) rfl rfl rfl (Nat.le_of_ble_eq_true rfl) hk0 hn0 (fun r0 D0 q0 => ?_)
  obtain ⟨v, rfl, Q2, c2, k2⟩ := k1 r0 D0 q0
  show WL g B k0 n0 _ _ [.int v] _
  refine wl_aload_n dL_law_1090 rfl rfl ?_
  refine wl_aload_n dL_law_1091 rfl rfl ?_
  refine wl_iload dL_law_1092 rfl ?_
  refine wl_iconst (v := nI 1) dL_law_1094 rfl ?_
  refine wl_iadd_n dL_law_1095 ?_
  refine wl_sld dL_law_1096 (by omega) ?_
  refine wl_call (M2 := M_X7_fewest) (n := 1) (o := 63) (kd := 7) (As := [.int (B.2.2 (i + 1))]) (st := [.int v]) dL_law_1097 c2 ca_L_118 nm_X7_fewest (by decide) rfl (by decide) rfl rfl rfl (Nat.le_of_ble_eq_true rfl) hk0 hn0 (fun r1 D1 q1 => ?_)
  obtain ⟨rfl, h2⟩ := k2 r1 D1 q1
  show WL g B k0 n0 _ _ [.int v, .int v] _
  exact wl_icmp_eq (tgt := 1168) dL_law_1100 (by decide) (fun _ => K D1 h2) (fun z => absurd rfl z)
theorem law_odd (hk0 : k0 ≤ 603142) (hn0 : n0 ≤ 7286679) (hL : B.2.1 ≤ 3072) (hi : i + 6 ≤ B.2.1) (h : INV D) (K : ∀ D', INV D' → WL g B k0 n0 1168 [(0, .ref 91), (1, .ref 0), (2, .ref 63), (3, .ref 73), (4, .int (nI i))] [] D') : WL g B k0 n0 1105 [(0, .ref 91), (1, .ref 0), (2, .ref 63), (3, .ref 73), (4, .int (nI i))] [] D := by
  obtain ⟨n, r, h⟩ := h
  obtain ⟨Q1, c1, k1⟩ := pr_odd (g := g) h (B.2.2 (i + 1))
  refine wl_aload_n dL_law_1105 rfl rfl ?_
  refine wl_aload_n dL_law_1106 rfl rfl ?_
  refine wl_iload dL_law_1107 rfl ?_
  refine wl_iconst (v := nI 1) dL_law_1109 rfl ?_
  refine wl_iadd_n dL_law_1110 ?_
  refine wl_sld dL_law_1111 (by omega) ?_
  refine wl_call (M2 := M_X6_odd) (n := 1) (o := 0) (kd := 6) (As := [.int (B.2.2 (i + 1))]) (st := []) dL_law_1112 c1 ca_L_119 nm_X6_odd (by decide) rfl (by decide) rfl rfl rfl (Nat.le_of_ble_eq_true rfl) hk0 hn0 (fun r0 D0 q0 => ?_)
  obtain ⟨v, rfl, Q2, c2, k2⟩ := k1 r0 D0 q0
  show WL g B k0 n0 _ _ [.long v] _
  refine wl_aload_n dL_law_1115 rfl rfl ?_
  refine wl_aload_n dL_law_1116 rfl rfl ?_
  refine wl_iload dL_law_1117 rfl ?_
  refine wl_iconst (v := nI 1) dL_law_1119 rfl ?_
  refine wl_iadd_n dL_law_1120 ?_
  refine wl_sld dL_law_1121 (by omega) ?_
  refine wl_call (M2 := M_X7_odd) (n := 1) (o := 63) (kd := 7) (As := [.int (B.2.2 (i + 1))]) (st := [.long v]) dL_law_1122 c2 ca_L_123 nm_X7_odd (by decide) rfl (by decide) rfl rfl rfl (Nat.le_of_ble_eq_true rfl) hk0 hn0 (fun r1 D1 q1 => ?_)
  obtain ⟨rfl, h2⟩ := k2 r1 D1 q1
  show WL g B k0 n0 _ _ [.long v, .long v] _
  refine wl_lcmp dL_law_1125 ?_
  exact wl_if_eq (tgt := 1168) dL_law_1126 (by decide) (fun _ => K D1 h2) (fun z => absurd ((sr_cmp_eq v v).mpr rfl) z)
theorem law_even (hk0 : k0 ≤ 603142) (hn0 : n0 ≤ 7286679) (hL : B.2.1 ≤ 3072) (hi : i + 6 ≤ B.2.1) (h : INV D) (K : ∀ D', INV D' → WL g B k0 n0 1168 [(0, .ref 91), (1, .ref 0), (2, .ref 63), (3, .ref 73), (4, .int (nI i))] [] D') : WL g B k0 n0 1131 [(0, .ref 91), (1, .ref 0), (2, .ref 63), (3, .ref 73), (4, .int (nI i))] [] D := by
  obtain ⟨n, r, h⟩ := h
  obtain ⟨Q1, c1, k1⟩ := pr_even (g := g) h (B.2.2 (i + 1)) (B.2.2 (i + 2))
  refine wl_aload_n dL_law_1131 rfl rfl ?_
  refine wl_aload_n dL_law_1132 rfl rfl ?_
  refine wl_iload dL_law_1133 rfl ?_
  refine wl_iconst (v := nI 1) dL_law_1135 rfl ?_
  refine wl_iadd_n dL_law_1136 ?_
  refine wl_sld dL_law_1137 (by omega) ?_
  refine wl_aload_n dL_law_1138 rfl rfl ?_
  refine wl_iload dL_law_1139 rfl ?_
  refine wl_iconst (v := nI 2) dL_law_1141 rfl ?_
  refine wl_iadd_n dL_law_1142 ?_
  refine wl_sld dL_law_1143 (by omega) ?_
  refine wl_call (M2 := M_X6_even) (n := 2) (o := 0) (kd := 6) (As := [.int (B.2.2 (i + 1)), .int (B.2.2 (i + 2))]) (st := []) dL_law_1144 c1 ca_L_124 nm_X6_even (by decide) rfl (by decide) rfl rfl rfl (Nat.le_of_ble_eq_true rfl) hk0 hn0 (fun r0 D0 q0 => ?_)
  obtain ⟨v, rfl, Q2, c2, k2⟩ := k1 r0 D0 q0
  show WL g B k0 n0 _ _ [.int v] _
  refine wl_aload_n dL_law_1147 rfl rfl ?_
  refine wl_aload_n dL_law_1148 rfl rfl ?_
  refine wl_iload dL_law_1149 rfl ?_
  refine wl_iconst (v := nI 1) dL_law_1151 rfl ?_
  refine wl_iadd_n dL_law_1152 ?_
  refine wl_sld dL_law_1153 (by omega) ?_
  refine wl_aload_n dL_law_1154 rfl rfl ?_
  refine wl_iload dL_law_1155 rfl ?_
  refine wl_iconst (v := nI 2) dL_law_1157 rfl ?_
  refine wl_iadd_n dL_law_1158 ?_
  refine wl_sld dL_law_1159 (by omega) ?_
  refine wl_call (M2 := M_X7_even) (n := 2) (o := 63) (kd := 7) (As := [.int (B.2.2 (i + 1)), .int (B.2.2 (i + 2))]) (st := [.int v]) dL_law_1160 c2 ca_L_127 nm_X7_even (by decide) rfl (by decide) rfl rfl rfl (Nat.le_of_ble_eq_true rfl) hk0 hn0 (fun r1 D1 q1 => ?_)
  obtain ⟨rfl, h2⟩ := k2 r1 D1 q1
  show WL g B k0 n0 _ _ [.int v, .int v] _
  exact wl_icmp_eq (tgt := 1168) dL_law_1163 (by decide) (fun _ => K D1 h2) (fun z => absurd rfl z)
/-- what is owed for raced -/
def law_RC (g : sr_G) (B : sr_B) : Prop := ∀ (k0 n0 i : Nat) (D : sr_St), k0 + 10 ≤ 603142 → n0 + 100 ≤ 7286679 → B.2.1 ≤ 3072 → i + 6 ≤ B.2.1 → INV D → (∀ D', INV D' → WL g B (k0 + 10) (n0 + 100) 1168 [(0, .ref 91), (1, .ref 0), (2, .ref 63), (3, .ref 73), (4, .int (nI i))] [] D') → WL g B k0 n0 445 [(0, .ref 91), (1, .ref 0), (2, .ref 63), (3, .ref 73), (4, .int (nI i))] [] D
theorem wl_wide {k n pc : Nat} {lv : List (Nat × Value)} {st : List Value} (hk : k0 ≤ k) (hn : n0 ≤ n) (h : WL g B k n pc lv st D) : WL g B k0 n0 pc lv st D := by
  intro p e s m below meth c H locs ls C X hP hS hl
  exact W.widen hk hn (h p e s m below meth c H locs ls C X hP hS hl)
theorem law_loop (hRC : law_RC g B) (hL : B.2.1 ≤ 3072) : ∀ d k n i D, i + d = 3072 + 12 → k + 10 * d ≤ 603142 → n + 100 * d ≤ 7286679 → INV D → WL g B k n 23 [(0, .ref 91), (1, .ref 0), (2, .ref 63), (3, .ref 73), (4, .int (nI i))] [] D := by
  intro d
  induction d using Nat.strongRecOn with
  | ind d ih =>
    intro k n i D hd hk hn hI
    refine wl_iload dL_law_23 rfl ?_
    refine wl_aload_n dL_law_25 rfl rfl ?_
    refine wl_slen dL_law_26 ?_
    refine wl_bipush (v := nI 6) dL_law_27 rfl ?_
    refine wl_isub dL_law_29 ?_
    have e6 : (nI B.2.1 - nI 6).toInt = (B.2.1 : Int) - 6 := by
      rw [sr_i32sub (by rw [nI_toInt (by omega), nI_toInt (by decide)]; omega) (by rw [nI_toInt (by omega), nI_toInt (by decide)]; omega), nI_toInt (by omega), nI_toInt (by decide)]; rfl
    refine wl_icmp_gt (tgt := 1174) dL_law_30 (by decide) (fun _ => ?_) (fun z => ?_)
    · refine wl_iconst (v := 1) dL_law_1174 (by decide) ?_
      exact wl_end dL_law_1175 (by omega) (by omega)
    · have hi : i + 6 ≤ B.2.1 := by
        by_cases q : i + 6 ≤ B.2.1
        · exact q
        · exfalso
          refine z ?_
          rw [Int32.lt_iff_toInt_lt, e6, nI_toInt (by omega)]; omega
      have K : ∀ D', INV D' → WL g B (k + 10) (n + 100) 1168 [(0, .ref 91), (1, .ref 0), (2, .ref 63), (3, .ref 73), (4, .int (nI i))] [] D' := by
        intro D' hI'
        refine wl_iinc_n (b := 6) (lv' := [(0, .ref 91), (1, .ref 0), (2, .ref 63), (3, .ref 73), (4, .int (nI (i + 6)))]) dL_law_1168 (by decide) rfl (by decide) rfl ?_
        refine wl_goto (tgt := 23) dL_law_1171 (by decide) ?_
        exact ih (d - 6) (by omega) (k + 10) (n + 100) (i + 6) D' (by omega) (by omega) (by omega) hI'
      have hk0 : k + 10 ≤ 603142 := by omega
      have hn0 : n + 100 ≤ 7286679 := by omega
      refine wl_aload_n dL_law_33 rfl rfl ?_
      refine wl_iload dL_law_34 rfl ?_
      refine wl_sld dL_law_36 (by omega) ?_
      refine wl_bipush (v := nI 31) dL_law_37 rfl ?_
      refine wl_iand dL_law_39 ?_
      obtain ⟨j, hj, ej⟩ := pk_andE (B.2.2 i) (m := nI 31) 5 (by decide)
      rw [ej]
      by_cases h22 : j ≤ 22
      · have oj : j = 0 ∨ j = 1 ∨ j = 2 ∨ j = 3 ∨ j = 4 ∨ j = 5 ∨ j = 6 ∨ j = 7 ∨ j = 8 ∨ j = 9 ∨ j = 10 ∨ j = 11 ∨ j = 12 ∨ j = 13 ∨ j = 14 ∨ j = 15 ∨ j = 16 ∨ j = 17 ∨ j = 18 ∨ j = 19 ∨ j = 20 ∨ j = 21 ∨ j = 22 := by omega
        rcases oj with rfl | rfl | rfl | rfl | rfl | rfl | rfl | rfl | rfl | rfl | rfl | rfl | rfl | rfl | rfl | rfl | rfl | rfl | rfl | rfl | rfl | rfl | rfl
        · exact wl_tableIn (off := 108) (tgt := 148) dL_law_40 (by decide) (by decide) rfl (by decide) (wl_wide (Nat.le_add_right _ _) (Nat.le_add_right _ _) (law_feed hk0 hn0 hL hi hI K))
        · exact wl_tableIn (off := 181) (tgt := 221) dL_law_40 (by decide) (by decide) rfl (by decide) (wl_wide (Nat.le_add_right _ _) (Nat.le_add_right _ _) (law_end hk0 hn0 hL hi hI K))
        · exact wl_tableIn (off := 206) (tgt := 246) dL_law_40 (by decide) (by decide) rfl (by decide) (wl_wide (Nat.le_add_right _ _) (Nat.le_add_right _ _) (law_tell hk0 hn0 hL hi hI K))
        · exact wl_tableIn (off := 219) (tgt := 259) dL_law_40 (by decide) (by decide) rfl (by decide) (wl_wide (Nat.le_add_right _ _) (Nat.le_add_right _ _) (law_fault hk0 hn0 hL hi hI K))
        · exact wl_tableIn (off := 244) (tgt := 284) dL_law_40 (by decide) (by decide) rfl (by decide) (wl_wide (Nat.le_add_right _ _) (Nat.le_add_right _ _) (law_crew hk0 hn0 hL hi hI K))
        · exact wl_tableIn (off := 269) (tgt := 309) dL_law_40 (by decide) (by decide) rfl (by decide) (wl_wide (Nat.le_add_right _ _) (Nat.le_add_right _ _) (law_limit hk0 hn0 hL hi hI K))
        · exact wl_tableIn (off := 294) (tgt := 334) dL_law_40 (by decide) (by decide) rfl (by decide) (wl_wide (Nat.le_add_right _ _) (Nat.le_add_right _ _) (law_race hk0 hn0 hL hi hI K))
        · exact wl_tableIn (off := 355) (tgt := 395) dL_law_40 (by decide) (by decide) rfl (by decide) (wl_wide (Nat.le_add_right _ _) (Nat.le_add_right _ _) (law_strike hk0 hn0 hL hi hI K))
        · exact wl_tableIn (off := 380) (tgt := 420) dL_law_40 (by decide) (by decide) rfl (by decide) (wl_wide (Nat.le_add_right _ _) (Nat.le_add_right _ _) (law_count hk0 hn0 hL hi hI K))
        · exact wl_tableIn (off := 405) (tgt := 445) dL_law_40 (by decide) (by decide) rfl (by decide) (hRC k n i D hk0 hn0 hL hi hI K)
        · exact wl_tableIn (off := 473) (tgt := 513) dL_law_40 (by decide) (by decide) rfl (by decide) (wl_wide (Nat.le_add_right _ _) (Nat.le_add_right _ _) (law_difference hk0 hn0 hL hi hI K))
        · exact wl_tableIn (off := 539) (tgt := 579) dL_law_40 (by decide) (by decide) rfl (by decide) (wl_wide (Nat.le_add_right _ _) (Nat.le_add_right _ _) (law_doubt hk0 hn0 hL hi hI K))
        · exact wl_tableIn (off := 605) (tgt := 645) dL_law_40 (by decide) (by decide) rfl (by decide) (wl_wide (Nat.le_add_right _ _) (Nat.le_add_right _ _) (law_drift hk0 hn0 hL hi hI K))
        · exact wl_tableIn (off := 647) (tgt := 687) dL_law_40 (by decide) (by decide) rfl (by decide) (wl_wide (Nat.le_add_right _ _) (Nat.le_add_right _ _) (law_rest hk0 hn0 hL hi hI K))
        · exact wl_tableIn (off := 701) (tgt := 741) dL_law_40 (by decide) (by decide) rfl (by decide) (wl_wide (Nat.le_add_right _ _) (Nat.le_add_right _ _) (law_sum hk0 hn0 hL hi hI K))
        · exact wl_tableIn (off := 743) (tgt := 783) dL_law_40 (by decide) (by decide) rfl (by decide) (wl_wide (Nat.le_add_right _ _) (Nat.le_add_right _ _) (law_guess hk0 hn0 hL hi hI K))
        · exact wl_tableIn (off := 849) (tgt := 889) dL_law_40 (by decide) (by decide) rfl (by decide) (wl_wide (Nat.le_add_right _ _) (Nat.le_add_right _ _) (law_rank hk0 hn0 hL hi hI K))
        · exact wl_tableIn (off := 886) (tgt := 926) dL_law_40 (by decide) (by decide) rfl (by decide) (wl_wide (Nat.le_add_right _ _) (Nat.le_add_right _ _) (law_suit hk0 hn0 hL hi hI K))
        · exact wl_tableIn (off := 952) (tgt := 992) dL_law_40 (by decide) (by decide) rfl (by decide) (wl_wide (Nat.le_add_right _ _) (Nat.le_add_right _ _) (law_swaps hk0 hn0 hL hi hI K))
        · exact wl_tableIn (off := 1002) (tgt := 1042) dL_law_40 (by decide) (by decide) rfl (by decide) (wl_wide (Nat.le_add_right _ _) (Nat.le_add_right _ _) (law_next hk0 hn0 hL hi hI K))
        · exact wl_tableIn (off := 1040) (tgt := 1080) dL_law_40 (by decide) (by decide) rfl (by decide) (wl_wide (Nat.le_add_right _ _) (Nat.le_add_right _ _) (law_fewest hk0 hn0 hL hi hI K))
        · exact wl_tableIn (off := 1065) (tgt := 1105) dL_law_40 (by decide) (by decide) rfl (by decide) (wl_wide (Nat.le_add_right _ _) (Nat.le_add_right _ _) (law_odd hk0 hn0 hL hi hI K))
        · exact wl_tableIn (off := 1091) (tgt := 1131) dL_law_40 (by decide) (by decide) rfl (by decide) (wl_wide (Nat.le_add_right _ _) (Nat.le_add_right _ _) (law_even hk0 hn0 hL hi hI K))
      · refine wl_tableOut (tgt := 1168) dL_law_40 (Or.inr ?_) (by decide) (wl_wide (Nat.le_add_right _ _) (Nat.le_add_right _ _) (K D hI))
        rw [nI_toInt (by omega)]; omega
end CASES
