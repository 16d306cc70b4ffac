/-! ===== the law: links and cases ===== -/
theorem lk_L_13 : fd_lkV "ShuffledDaysLaw" 13 yX10_life mX10_life 1 := ⟨fd_in 361 (by decide +kernel) (by decide +kernel), fd_in 362 (by decide +kernel) (by decide +kernel), fd_in 363 (by decide +kernel) (by decide +kernel), fd_in 61 (by decide +kernel) (by decide +kernel), fd_in 364 (by decide +kernel) (by decide +kernel), by decide +kernel, by decide +kernel, by decide +kernel⟩
theorem lk_L_17 : fd_lkV "ShuffledDaysLaw" 17 yX11_life mX11_life 1 := ⟨fd_in 1052 (by decide +kernel) (by decide +kernel), fd_in 1053 (by decide +kernel) (by decide +kernel), fd_in 1054 (by decide +kernel) (by decide +kernel), fd_in 72 (by decide +kernel) (by decide +kernel), fd_in 1055 (by decide +kernel) (by decide +kernel), by decide +kernel, by decide +kernel, by decide +kernel⟩
theorem lk_L_18 : fd_lkV "ShuffledDaysLaw" 18 yX10_day mX10_day 2 := ⟨fd_in 373 (by decide +kernel) (by decide +kernel), fd_in 374 (by decide +kernel) (by decide +kernel), fd_in 375 (by decide +kernel) (by decide +kernel), fd_in 61 (by decide +kernel) (by decide +kernel), fd_in 376 (by decide +kernel) (by decide +kernel), by decide +kernel, by decide +kernel, by decide +kernel⟩
theorem lk_L_22 : fd_lkV "ShuffledDaysLaw" 22 yX11_day mX11_day 2 := ⟨fd_in 1064 (by decide +kernel) (by decide +kernel), fd_in 1065 (by decide +kernel) (by decide +kernel), fd_in 1066 (by decide +kernel) (by decide +kernel), fd_in 72 (by decide +kernel) (by decide +kernel), fd_in 1067 (by decide +kernel) (by decide +kernel), by decide +kernel, by decide +kernel, by decide +kernel⟩
theorem lk_L_23 : fd_lkV "ShuffledDaysLaw" 23 yX10_fact mX10_fact 4 := ⟨fd_in 385 (by decide +kernel) (by decide +kernel), fd_in 386 (by decide +kernel) (by decide +kernel), fd_in 387 (by decide +kernel) (by decide +kernel), fd_in 61 (by decide +kernel) (by decide +kernel), fd_in 388 (by decide +kernel) (by decide +kernel), by decide +kernel, by decide +kernel, by decide +kernel⟩
theorem lk_L_27 : fd_lkV "ShuffledDaysLaw" 27 yX11_fact mX11_fact 4 := ⟨fd_in 1073 (by decide +kernel) (by decide +kernel), fd_in 1074 (by decide +kernel) (by decide +kernel), fd_in 1075 (by decide +kernel) (by decide +kernel), fd_in 72 (by decide +kernel) (by decide +kernel), fd_in 1076 (by decide +kernel) (by decide +kernel), by decide +kernel, by decide +kernel, by decide +kernel⟩
theorem lk_L_28 : fd_lkV "ShuffledDaysLaw" 28 yX10_note mX10_note 2 := ⟨fd_in 396 (by decide +kernel) (by decide +kernel), fd_in 397 (by decide +kernel) (by decide +kernel), fd_in 398 (by decide +kernel) (by decide +kernel), fd_in 61 (by decide +kernel) (by decide +kernel), fd_in 399 (by decide +kernel) (by decide +kernel), by decide +kernel, by decide +kernel, by decide +kernel⟩
theorem lk_L_31 : fd_lkV "ShuffledDaysLaw" 31 yX11_note mX11_note 2 := ⟨fd_in 1084 (by decide +kernel) (by decide +kernel), fd_in 1085 (by decide +kernel) (by decide +kernel), fd_in 1086 (by decide +kernel) (by decide +kernel), fd_in 72 (by decide +kernel) (by decide +kernel), fd_in 1087 (by decide +kernel) (by decide +kernel), by decide +kernel, by decide +kernel, by decide +kernel⟩
theorem lk_L_32 : fd_lkV "ShuffledDaysLaw" 32 yX10_ahead mX10_ahead 2 := ⟨fd_in 408 (by decide +kernel) (by decide +kernel), fd_in 409 (by decide +kernel) (by decide +kernel), fd_in 410 (by decide +kernel) (by decide +kernel), fd_in 61 (by decide +kernel) (by decide +kernel), fd_in 411 (by decide +kernel) (by decide +kernel), by decide +kernel, by decide +kernel, by decide +kernel⟩
theorem lk_L_35 : fd_lkV "ShuffledDaysLaw" 35 yX11_ahead mX11_ahead 2 := ⟨fd_in 1096 (by decide +kernel) (by decide +kernel), fd_in 1097 (by decide +kernel) (by decide +kernel), fd_in 1098 (by decide +kernel) (by decide +kernel), fd_in 72 (by decide +kernel) (by decide +kernel), fd_in 1099 (by decide +kernel) (by decide +kernel), by decide +kernel, by decide +kernel, by decide +kernel⟩
theorem lk_L_36 : fd_lkV "ShuffledDaysLaw" 36 yX10_at mX10_at 2 := ⟨fd_in 416 (by decide +kernel) (by decide +kernel), fd_in 417 (by decide +kernel) (by decide +kernel), fd_in 418 (by decide +kernel) (by decide +kernel), fd_in 61 (by decide +kernel) (by decide +kernel), fd_in 419 (by decide +kernel) (by decide +kernel), by decide +kernel, by decide +kernel, by decide +kernel⟩
theorem lk_L_39 : fd_lkV "ShuffledDaysLaw" 39 yX11_at mX11_at 2 := ⟨fd_in 1100 (by decide +kernel) (by decide +kernel), fd_in 1101 (by decide +kernel) (by decide +kernel), fd_in 1102 (by decide +kernel) (by decide +kernel), fd_in 72 (by decide +kernel) (by decide +kernel), fd_in 1103 (by decide +kernel) (by decide +kernel), by decide +kernel, by decide +kernel, by decide +kernel⟩
theorem lk_L_40 : fd_lkV "ShuffledDaysLaw" 40 yX10_tear mX10_tear 1 := ⟨fd_in 428 (by decide +kernel) (by decide +kernel), fd_in 429 (by decide +kernel) (by decide +kernel), fd_in 430 (by decide +kernel) (by decide +kernel), fd_in 61 (by decide +kernel) (by decide +kernel), fd_in 431 (by decide +kernel) (by decide +kernel), by decide +kernel, by decide +kernel, by decide +kernel⟩
theorem lk_L_43 : fd_lkV "ShuffledDaysLaw" 43 yX11_tear mX11_tear 1 := ⟨fd_in 1104 (by decide +kernel) (by decide +kernel), fd_in 1105 (by decide +kernel) (by decide +kernel), fd_in 1106 (by decide +kernel) (by decide +kernel), fd_in 72 (by decide +kernel) (by decide +kernel), fd_in 1107 (by decide +kernel) (by decide +kernel), by decide +kernel, by decide +kernel, by decide +kernel⟩
theorem lk_L_44 : fd_lkV "ShuffledDaysLaw" 44 yX10_order mX10_order 1 := ⟨fd_in 444 (by decide +kernel) (by decide +kernel), fd_in 445 (by decide +kernel) (by decide +kernel), fd_in 446 (by decide +kernel) (by decide +kernel), fd_in 61 (by decide +kernel) (by decide +kernel), fd_in 447 (by decide +kernel) (by decide +kernel), by decide +kernel, by decide +kernel, by decide +kernel⟩
theorem lk_L_47 : fd_lkV "ShuffledDaysLaw" 47 yX11_order mX11_order 1 := ⟨fd_in 1113 (by decide +kernel) (by decide +kernel), fd_in 1114 (by decide +kernel) (by decide +kernel), fd_in 1115 (by decide +kernel) (by decide +kernel), fd_in 72 (by decide +kernel) (by decide +kernel), fd_in 1116 (by decide +kernel) (by decide +kernel), by decide +kernel, by decide +kernel, by decide +kernel⟩
theorem lk_L_48 : fd_lkV "ShuffledDaysLaw" 48 yX10_type mX10_type 1 := ⟨fd_in 462 (by decide +kernel) (by decide +kernel), fd_in 463 (by decide +kernel) (by decide +kernel), fd_in 464 (by decide +kernel) (by decide +kernel), fd_in 61 (by decide +kernel) (by decide +kernel), fd_in 465 (by decide +kernel) (by decide +kernel), by decide +kernel, by decide +kernel, by decide +kernel⟩
theorem lk_L_51 : fd_lkV "ShuffledDaysLaw" 51 yX11_type mX11_type 1 := ⟨fd_in 1282 (by decide +kernel) (by decide +kernel), fd_in 1283 (by decide +kernel) (by decide +kernel), fd_in 1284 (by decide +kernel) (by decide +kernel), fd_in 72 (by decide +kernel) (by decide +kernel), fd_in 1285 (by decide +kernel) (by decide +kernel), by decide +kernel, by decide +kernel, by decide +kernel⟩
theorem lk_L_52 : fd_lkV "ShuffledDaysLaw" 52 yX10_clear mX10_clear 0 := ⟨fd_in 470 (by decide +kernel) (by decide +kernel), fd_in 471 (by decide +kernel) (by decide +kernel), fd_in 472 (by decide +kernel) (by decide +kernel), fd_in 61 (by decide +kernel) (by decide +kernel), fd_in 473 (by decide +kernel) (by decide +kernel), by decide +kernel, by decide +kernel, by decide +kernel⟩
theorem lk_L_56 : fd_lkV "ShuffledDaysLaw" 56 yX11_clear mX11_clear 0 := ⟨fd_in 1287 (by decide +kernel) (by decide +kernel), fd_in 1288 (by decide +kernel) (by decide +kernel), fd_in 1289 (by decide +kernel) (by decide +kernel), fd_in 72 (by decide +kernel) (by decide +kernel), fd_in 1290 (by decide +kernel) (by decide +kernel), by decide +kernel, by decide +kernel, by decide +kernel⟩
theorem lk_L_57 : fd_lkV "ShuffledDaysLaw" 57 yX10_read mX10_read 0 := ⟨fd_in 474 (by decide +kernel) (by decide +kernel), fd_in 475 (by decide +kernel) (by decide +kernel), fd_in 476 (by decide +kernel) (by decide +kernel), fd_in 61 (by decide +kernel) (by decide +kernel), fd_in 477 (by decide +kernel) (by decide +kernel), by decide +kernel, by decide +kernel, by decide +kernel⟩
theorem lk_L_60 : fd_lkV "ShuffledDaysLaw" 60 yX11_read mX11_read 0 := ⟨fd_in 1291 (by decide +kernel) (by decide +kernel), fd_in 1292 (by decide +kernel) (by decide +kernel), fd_in 1293 (by decide +kernel) (by decide +kernel), fd_in 72 (by decide +kernel) (by decide +kernel), fd_in 1294 (by decide +kernel) (by decide +kernel), by decide +kernel, by decide +kernel, by decide +kernel⟩
theorem lk_L_61 : fd_lkV "ShuffledDaysLaw" 61 yX10_lived mX10_lived 1 := ⟨fd_in 585 (by decide +kernel) (by decide +kernel), fd_in 586 (by decide +kernel) (by decide +kernel), fd_in 587 (by decide +kernel) (by decide +kernel), fd_in 61 (by decide +kernel) (by decide +kernel), fd_in 588 (by decide +kernel) (by decide +kernel), by decide +kernel, by decide +kernel, by decide +kernel⟩
theorem lk_L_64 : fd_lkV "ShuffledDaysLaw" 64 yX11_lived mX11_lived 1 := ⟨fd_in 1133 (by decide +kernel) (by decide +kernel), fd_in 1134 (by decide +kernel) (by decide +kernel), fd_in 1135 (by decide +kernel) (by decide +kernel), fd_in 72 (by decide +kernel) (by decide +kernel), fd_in 1136 (by decide +kernel) (by decide +kernel), by decide +kernel, by decide +kernel, by decide +kernel⟩
theorem lk_L_65 : fd_lkV "ShuffledDaysLaw" 65 yX10_knows mX10_knows 1 := ⟨fd_in 671 (by decide +kernel) (by decide +kernel), fd_in 672 (by decide +kernel) (by decide +kernel), fd_in 673 (by decide +kernel) (by decide +kernel), fd_in 61 (by decide +kernel) (by decide +kernel), fd_in 674 (by decide +kernel) (by decide +kernel), by decide +kernel, by decide +kernel, by decide +kernel⟩
theorem lk_L_68 : fd_lkV "ShuffledDaysLaw" 68 yX11_knows mX11_knows 1 := ⟨fd_in 1137 (by decide +kernel) (by decide +kernel), fd_in 1138 (by decide +kernel) (by decide +kernel), fd_in 1139 (by decide +kernel) (by decide +kernel), fd_in 72 (by decide +kernel) (by decide +kernel), fd_in 1140 (by decide +kernel) (by decide +kernel), by decide +kernel, by decide +kernel, by decide +kernel⟩
theorem lk_L_69 : fd_lkV "ShuffledDaysLaw" 69 yX10_reads mX10_reads 1 := ⟨fd_in 675 (by decide +kernel) (by decide +kernel), fd_in 676 (by decide +kernel) (by decide +kernel), fd_in 677 (by decide +kernel) (by decide +kernel), fd_in 61 (by decide +kernel) (by decide +kernel), fd_in 678 (by decide +kernel) (by decide +kernel), by decide +kernel, by decide +kernel, by decide +kernel⟩
theorem lk_L_72 : fd_lkV "ShuffledDaysLaw" 72 yX11_reads mX11_reads 1 := ⟨fd_in 1153 (by decide +kernel) (by decide +kernel), fd_in 1154 (by decide +kernel) (by decide +kernel), fd_in 1155 (by decide +kernel) (by decide +kernel), fd_in 72 (by decide +kernel) (by decide +kernel), fd_in 1156 (by decide +kernel) (by decide +kernel), by decide +kernel, by decide +kernel, by decide +kernel⟩
theorem lk_L_73 : fd_lkV "ShuffledDaysLaw" 73 yX10_missing mX10_missing 1 := ⟨fd_in 679 (by decide +kernel) (by decide +kernel), fd_in 680 (by decide +kernel) (by decide +kernel), fd_in 681 (by decide +kernel) (by decide +kernel), fd_in 61 (by decide +kernel) (by decide +kernel), fd_in 682 (by decide +kernel) (by decide +kernel), by decide +kernel, by decide +kernel, by decide +kernel⟩
theorem lk_L_76 : fd_lkV "ShuffledDaysLaw" 76 yX11_missing mX11_missing 1 := ⟨fd_in 1157 (by decide +kernel) (by decide +kernel), fd_in 1158 (by decide +kernel) (by decide +kernel), fd_in 1159 (by decide +kernel) (by decide +kernel), fd_in 72 (by decide +kernel) (by decide +kernel), fd_in 1160 (by decide +kernel) (by decide +kernel), by decide +kernel, by decide +kernel, by decide +kernel⟩
theorem lk_L_77 : fd_lkV "ShuffledDaysLaw" 77 yX10_first mX10_first 1 := ⟨fd_in 687 (by decide +kernel) (by decide +kernel), fd_in 688 (by decide +kernel) (by decide +kernel), fd_in 689 (by decide +kernel) (by decide +kernel), fd_in 61 (by decide +kernel) (by decide +kernel), fd_in 690 (by decide +kernel) (by decide +kernel), by decide +kernel, by decide +kernel, by decide +kernel⟩
theorem lk_L_80 : fd_lkV "ShuffledDaysLaw" 80 yX11_first mX11_first 1 := ⟨fd_in 1161 (by decide +kernel) (by decide +kernel), fd_in 1162 (by decide +kernel) (by decide +kernel), fd_in 1163 (by decide +kernel) (by decide +kernel), fd_in 72 (by decide +kernel) (by decide +kernel), fd_in 1164 (by decide +kernel) (by decide +kernel), by decide +kernel, by decide +kernel, by decide +kernel⟩
theorem lk_L_81 : fd_lkV "ShuffledDaysLaw" 81 yX10_cards mX10_cards 1 := ⟨fd_in 700 (by decide +kernel) (by decide +kernel), fd_in 701 (by decide +kernel) (by decide +kernel), fd_in 702 (by decide +kernel) (by decide +kernel), fd_in 61 (by decide +kernel) (by decide +kernel), fd_in 703 (by decide +kernel) (by decide +kernel), by decide +kernel, by decide +kernel, by decide +kernel⟩
theorem lk_L_84 : fd_lkV "ShuffledDaysLaw" 84 yX11_cards mX11_cards 1 := ⟨fd_in 1165 (by decide +kernel) (by decide +kernel), fd_in 1166 (by decide +kernel) (by decide +kernel), fd_in 1167 (by decide +kernel) (by decide +kernel), fd_in 72 (by decide +kernel) (by decide +kernel), fd_in 1168 (by decide +kernel) (by decide +kernel), by decide +kernel, by decide +kernel, by decide +kernel⟩
theorem lk_L_85 : fd_lkV "ShuffledDaysLaw" 85 yX10_hang mX10_hang 1 := ⟨fd_in 704 (by decide +kernel) (by decide +kernel), fd_in 705 (by decide +kernel) (by decide +kernel), fd_in 706 (by decide +kernel) (by decide +kernel), fd_in 61 (by decide +kernel) (by decide +kernel), fd_in 707 (by decide +kernel) (by decide +kernel), by decide +kernel, by decide +kernel, by decide +kernel⟩
theorem lk_L_88 : fd_lkV "ShuffledDaysLaw" 88 yX11_hang mX11_hang 1 := ⟨fd_in 1169 (by decide +kernel) (by decide +kernel), fd_in 1170 (by decide +kernel) (by decide +kernel), fd_in 1171 (by decide +kernel) (by decide +kernel), fd_in 72 (by decide +kernel) (by decide +kernel), fd_in 1172 (by decide +kernel) (by decide +kernel), by decide +kernel, by decide +kernel, by decide +kernel⟩
theorem lk_L_89 : fd_lkV "ShuffledDaysLaw" 89 yX10_must mX10_must 1 := ⟨fd_in 729 (by decide +kernel) (by decide +kernel), fd_in 730 (by decide +kernel) (by decide +kernel), fd_in 731 (by decide +kernel) (by decide +kernel), fd_in 61 (by decide +kernel) (by decide +kernel), fd_in 732 (by decide +kernel) (by decide +kernel), by decide +kernel, by decide +kernel, by decide +kernel⟩
theorem lk_L_92 : fd_lkV "ShuffledDaysLaw" 92 yX11_must mX11_must 1 := ⟨fd_in 1188 (by decide +kernel) (by decide +kernel), fd_in 1189 (by decide +kernel) (by decide +kernel), fd_in 1190 (by decide +kernel) (by decide +kernel), fd_in 72 (by decide +kernel) (by decide +kernel), fd_in 1191 (by decide +kernel) (by decide +kernel), by decide +kernel, by decide +kernel, by decide +kernel⟩
theorem lk_L_93 : fd_lkV "ShuffledDaysLaw" 93 yX10_told mX10_told 1 := ⟨fd_in 737 (by decide +kernel) (by decide +kernel), fd_in 738 (by decide +kernel) (by decide +kernel), fd_in 739 (by decide +kernel) (by decide +kernel), fd_in 61 (by decide +kernel) (by decide +kernel), fd_in 740 (by decide +kernel) (by decide +kernel), by decide +kernel, by decide +kernel, by decide +kernel⟩
theorem lk_L_96 : fd_lkV "ShuffledDaysLaw" 96 yX11_told mX11_told 1 := ⟨fd_in 1192 (by decide +kernel) (by decide +kernel), fd_in 1193 (by decide +kernel) (by decide +kernel), fd_in 1194 (by decide +kernel) (by decide +kernel), fd_in 72 (by decide +kernel) (by decide +kernel), fd_in 1195 (by decide +kernel) (by decide +kernel), by decide +kernel, by decide +kernel, by decide +kernel⟩
theorem lk_L_97 : fd_lkV "ShuffledDaysLaw" 97 yX10_notes mX10_notes 1 := ⟨fd_in 745 (by decide +kernel) (by decide +kernel), fd_in 746 (by decide +kernel) (by decide +kernel), fd_in 747 (by decide +kernel) (by decide +kernel), fd_in 61 (by decide +kernel) (by decide +kernel), fd_in 748 (by decide +kernel) (by decide +kernel), by decide +kernel, by decide +kernel, by decide +kernel⟩
theorem lk_L_100 : fd_lkV "ShuffledDaysLaw" 100 yX11_notes mX11_notes 1 := ⟨fd_in 1196 (by decide +kernel) (by decide +kernel), fd_in 1197 (by decide +kernel) (by decide +kernel), fd_in 1198 (by decide +kernel) (by decide +kernel), fd_in 72 (by decide +kernel) (by decide +kernel), fd_in 1199 (by decide +kernel) (by decide +kernel), by decide +kernel, by decide +kernel, by decide +kernel⟩
theorem lk_L_101 : fd_lkV "ShuffledDaysLaw" 101 yX10_mean mX10_mean 0 := ⟨fd_in 781 (by decide +kernel) (by decide +kernel), fd_in 782 (by decide +kernel) (by decide +kernel), fd_in 783 (by decide +kernel) (by decide +kernel), fd_in 61 (by decide +kernel) (by decide +kernel), fd_in 784 (by decide +kernel) (by decide +kernel), by decide +kernel, by decide +kernel, by decide +kernel⟩
theorem lk_L_104 : fd_lkV "ShuffledDaysLaw" 104 yX11_mean mX11_mean 0 := ⟨fd_in 1213 (by decide +kernel) (by decide +kernel), fd_in 1214 (by decide +kernel) (by decide +kernel), fd_in 1215 (by decide +kernel) (by decide +kernel), fd_in 72 (by decide +kernel) (by decide +kernel), fd_in 1216 (by decide +kernel) (by decide +kernel), by decide +kernel, by decide +kernel, by decide +kernel⟩
theorem lk_L_105 : fd_lkV "ShuffledDaysLaw" 105 yX10_best mX10_best 0 := ⟨fd_in 792 (by decide +kernel) (by decide +kernel), fd_in 793 (by decide +kernel) (by decide +kernel), fd_in 794 (by decide +kernel) (by decide +kernel), fd_in 61 (by decide +kernel) (by decide +kernel), fd_in 795 (by decide +kernel) (by decide +kernel), by decide +kernel, by decide +kernel, by decide +kernel⟩
theorem lk_L_108 : fd_lkV "ShuffledDaysLaw" 108 yX11_best mX11_best 0 := ⟨fd_in 1221 (by decide +kernel) (by decide +kernel), fd_in 1222 (by decide +kernel) (by decide +kernel), fd_in 1223 (by decide +kernel) (by decide +kernel), fd_in 72 (by decide +kernel) (by decide +kernel), fd_in 1224 (by decide +kernel) (by decide +kernel), by decide +kernel, by decide +kernel, by decide +kernel⟩
theorem lk_L_109 : fd_lkV "ShuffledDaysLaw" 109 yX10_when mX10_when 2 := ⟨fd_in 796 (by decide +kernel) (by decide +kernel), fd_in 797 (by decide +kernel) (by decide +kernel), fd_in 798 (by decide +kernel) (by decide +kernel), fd_in 61 (by decide +kernel) (by decide +kernel), fd_in 799 (by decide +kernel) (by decide +kernel), by decide +kernel, by decide +kernel, by decide +kernel⟩
theorem lk_L_112 : fd_lkV "ShuffledDaysLaw" 112 yX11_when mX11_when 2 := ⟨fd_in 1225 (by decide +kernel) (by decide +kernel), fd_in 1226 (by decide +kernel) (by decide +kernel), fd_in 1227 (by decide +kernel) (by decide +kernel), fd_in 72 (by decide +kernel) (by decide +kernel), fd_in 1228 (by decide +kernel) (by decide +kernel), by decide +kernel, by decide +kernel, by decide +kernel⟩
theorem lk_L_113 : fd_lkV "ShuffledDaysLaw" 113 yX10_diary mX10_diary 2 := ⟨fd_in 800 (by decide +kernel) (by decide +kernel), fd_in 801 (by decide +kernel) (by decide +kernel), fd_in 802 (by decide +kernel) (by decide +kernel), fd_in 61 (by decide +kernel) (by decide +kernel), fd_in 803 (by decide +kernel) (by decide +kernel), by decide +kernel, by decide +kernel, by decide +kernel⟩
theorem lk_L_116 : fd_lkV "ShuffledDaysLaw" 116 yX11_diary mX11_diary 2 := ⟨fd_in 1230 (by decide +kernel) (by decide +kernel), fd_in 1231 (by decide +kernel) (by decide +kernel), fd_in 1232 (by decide +kernel) (by decide +kernel), fd_in 72 (by decide +kernel) (by decide +kernel), fd_in 1233 (by decide +kernel) (by decide +kernel), by decide +kernel, by decide +kernel, by decide +kernel⟩
theorem lk_L_117 : fd_lkV "ShuffledDaysLaw" 117 yX10_torn mX10_torn 1 := ⟨fd_in 808 (by decide +kernel) (by decide +kernel), fd_in 809 (by decide +kernel) (by decide +kernel), fd_in 810 (by decide +kernel) (by decide +kernel), fd_in 61 (by decide +kernel) (by decide +kernel), fd_in 811 (by decide +kernel) (by decide +kernel), by decide +kernel, by decide +kernel, by decide +kernel⟩
theorem lk_L_120 : fd_lkV "ShuffledDaysLaw" 120 yX11_torn mX11_torn 1 := ⟨fd_in 1235 (by decide +kernel) (by decide +kernel), fd_in 1236 (by decide +kernel) (by decide +kernel), fd_in 1237 (by decide +kernel) (by decide +kernel), fd_in 72 (by decide +kernel) (by decide +kernel), fd_in 1238 (by decide +kernel) (by decide +kernel), by decide +kernel, by decide +kernel, by decide +kernel⟩
theorem lk_L_121 : fd_lkV "ShuffledDaysLaw" 121 yX10_promise mX10_promise 3 := ⟨fd_in 816 (by decide +kernel) (by decide +kernel), fd_in 817 (by decide +kernel) (by decide +kernel), fd_in 818 (by decide +kernel) (by decide +kernel), fd_in 61 (by decide +kernel) (by decide +kernel), fd_in 819 (by decide +kernel) (by decide +kernel), by decide +kernel, by decide +kernel, by decide +kernel⟩
theorem lk_L_125 : fd_lkV "ShuffledDaysLaw" 125 yX11_promise mX11_promise 3 := ⟨fd_in 1239 (by decide +kernel) (by decide +kernel), fd_in 1240 (by decide +kernel) (by decide +kernel), fd_in 1241 (by decide +kernel) (by decide +kernel), fd_in 72 (by decide +kernel) (by decide +kernel), fd_in 1242 (by decide +kernel) (by decide +kernel), by decide +kernel, by decide +kernel, by decide +kernel⟩
theorem lk_L_126 : fd_lkV "ShuffledDaysLaw" 126 yX10_other mX10_other 1 := ⟨fd_in 825 (by decide +kernel) (by decide +kernel), fd_in 826 (by decide +kernel) (by decide +kernel), fd_in 827 (by decide +kernel) (by decide +kernel), fd_in 61 (by decide +kernel) (by decide +kernel), fd_in 828 (by decide +kernel) (by decide +kernel), by decide +kernel, by decide +kernel, by decide +kernel⟩
theorem lk_L_129 : fd_lkV "ShuffledDaysLaw" 129 yX11_other mX11_other 1 := ⟨fd_in 1243 (by decide +kernel) (by decide +kernel), fd_in 1244 (by decide +kernel) (by decide +kernel), fd_in 1245 (by decide +kernel) (by decide +kernel), fd_in 72 (by decide +kernel) (by decide +kernel), fd_in 1246 (by decide +kernel) (by decide +kernel), by decide +kernel, by decide +kernel, by decide +kernel⟩
theorem lk_L_130 : fd_lkV "ShuffledDaysLaw" 130 yX10_two mX10_two 1 := ⟨fd_in 833 (by decide +kernel) (by decide +kernel), fd_in 834 (by decide +kernel) (by decide +kernel), fd_in 835 (by decide +kernel) (by decide +kernel), fd_in 61 (by decide +kernel) (by decide +kernel), fd_in 836 (by decide +kernel) (by decide +kernel), by decide +kernel, by decide +kernel, by decide +kernel⟩
theorem lk_L_133 : fd_lkV "ShuffledDaysLaw" 133 yX11_two mX11_two 1 := ⟨fd_in 1247 (by decide +kernel) (by decide +kernel), fd_in 1248 (by decide +kernel) (by decide +kernel), fd_in 1249 (by decide +kernel) (by decide +kernel), fd_in 72 (by decide +kernel) (by decide +kernel), fd_in 1250 (by decide +kernel) (by decide +kernel), by decide +kernel, by decide +kernel, by decide +kernel⟩
theorem lk_L_134 : fd_lkV "ShuffledDaysLaw" 134 yX10_settle mX10_settle 2 := ⟨fd_in 842 (by decide +kernel) (by decide +kernel), fd_in 843 (by decide +kernel) (by decide +kernel), fd_in 844 (by decide +kernel) (by decide +kernel), fd_in 61 (by decide +kernel) (by decide +kernel), fd_in 845 (by decide +kernel) (by decide +kernel), by decide +kernel, by decide +kernel, by decide +kernel⟩
theorem lk_L_137 : fd_lkV "ShuffledDaysLaw" 137 yX11_settle mX11_settle 2 := ⟨fd_in 1255 (by decide +kernel) (by decide +kernel), fd_in 1256 (by decide +kernel) (by decide +kernel), fd_in 1257 (by decide +kernel) (by decide +kernel), fd_in 72 (by decide +kernel) (by decide +kernel), fd_in 1258 (by decide +kernel) (by decide +kernel), by decide +kernel, by decide +kernel, by decide +kernel⟩
theorem lk_L_138 : fd_lkV "ShuffledDaysLaw" 138 yX10_game mX10_game 1 := ⟨fd_in 846 (by decide +kernel) (by decide +kernel), fd_in 847 (by decide +kernel) (by decide +kernel), fd_in 848 (by decide +kernel) (by decide +kernel), fd_in 61 (by decide +kernel) (by decide +kernel), fd_in 849 (by decide +kernel) (by decide +kernel), by decide +kernel, by decide +kernel, by decide +kernel⟩
theorem lk_L_141 : fd_lkV "ShuffledDaysLaw" 141 yX11_game mX11_game 1 := ⟨fd_in 1259 (by decide +kernel) (by decide +kernel), fd_in 1260 (by decide +kernel) (by decide +kernel), fd_in 1261 (by decide +kernel) (by decide +kernel), fd_in 72 (by decide +kernel) (by decide +kernel), fd_in 1262 (by decide +kernel) (by decide +kernel), by decide +kernel, by decide +kernel, by decide +kernel⟩
theorem lk_L_142 : fd_lkV "ShuffledDaysLaw" 142 yX10_live mX10_live 0 := ⟨fd_in 868 (by decide +kernel) (by decide +kernel), fd_in 869 (by decide +kernel) (by decide +kernel), fd_in 870 (by decide +kernel) (by decide +kernel), fd_in 61 (by decide +kernel) (by decide +kernel), fd_in 871 (by decide +kernel) (by decide +kernel), by decide +kernel, by decide +kernel, by decide +kernel⟩
theorem lk_L_145 : fd_lkV "ShuffledDaysLaw" 145 yX11_live mX11_live 0 := ⟨fd_in 1270 (by decide +kernel) (by decide +kernel), fd_in 1271 (by decide +kernel) (by decide +kernel), fd_in 1272 (by decide +kernel) (by decide +kernel), fd_in 72 (by decide +kernel) (by decide +kernel), fd_in 1273 (by decide +kernel) (by decide +kernel), by decide +kernel, by decide +kernel, by decide +kernel⟩
theorem lk_L_146 : fd_lkV "ShuffledDaysLaw" 146 yX10_undo mX10_undo 0 := ⟨fd_in 872 (by decide +kernel) (by decide +kernel), fd_in 873 (by decide +kernel) (by decide +kernel), fd_in 874 (by decide +kernel) (by decide +kernel), fd_in 61 (by decide +kernel) (by decide +kernel), fd_in 875 (by decide +kernel) (by decide +kernel), by decide +kernel, by decide +kernel, by decide +kernel⟩
theorem lk_L_149 : fd_lkV "ShuffledDaysLaw" 149 yX11_undo mX11_undo 0 := ⟨fd_in 1274 (by decide +kernel) (by decide +kernel), fd_in 1275 (by decide +kernel) (by decide +kernel), fd_in 1276 (by decide +kernel) (by decide +kernel), fd_in 72 (by decide +kernel) (by decide +kernel), fd_in 1277 (by decide +kernel) (by decide +kernel), by decide +kernel, by decide +kernel, by decide +kernel⟩
theorem lk_L_150 : fd_lkV "ShuffledDaysLaw" 150 yX10_sofar mX10_sofar 1 := ⟨fd_in 876 (by decide +kernel) (by decide +kernel), fd_in 877 (by decide +kernel) (by decide +kernel), fd_in 878 (by decide +kernel) (by decide +kernel), fd_in 61 (by decide +kernel) (by decide +kernel), fd_in 879 (by decide +kernel) (by decide +kernel), by decide +kernel, by decide +kernel, by decide +kernel⟩
theorem lk_L_153 : fd_lkV "ShuffledDaysLaw" 153 yX11_sofar mX11_sofar 1 := ⟨fd_in 1278 (by decide +kernel) (by decide +kernel), fd_in 1279 (by decide +kernel) (by decide +kernel), fd_in 1280 (by decide +kernel) (by decide +kernel), fd_in 72 (by decide +kernel) (by decide +kernel), fd_in 1281 (by decide +kernel) (by decide +kernel), by decide +kernel, by decide +kernel, by decide +kernel⟩
theorem lk_L_154 : fd_lkV "ShuffledDaysLaw" 154 yX10_part mX10_part 1 := ⟨fd_in 884 (by decide +kernel) (by decide +kernel), fd_in 885 (by decide +kernel) (by decide +kernel), fd_in 886 (by decide +kernel) (by decide +kernel), fd_in 61 (by decide +kernel) (by decide +kernel), fd_in 887 (by decide +kernel) (by decide +kernel), by decide +kernel, by decide +kernel, by decide +kernel⟩
theorem lk_L_158 : fd_lkV "ShuffledDaysLaw" 158 yX11_part mX11_part 1 := ⟨fd_in 1365 (by decide +kernel) (by decide +kernel), fd_in 1366 (by decide +kernel) (by decide +kernel), fd_in 1367 (by decide +kernel) (by decide +kernel), fd_in 72 (by decide +kernel) (by decide +kernel), fd_in 1368 (by decide +kernel) (by decide +kernel), by decide +kernel, by decide +kernel, by decide +kernel⟩
theorem lk_L_159 : fd_lkV "ShuffledDaysLaw" 159 yX10_image mX10_image 1 := ⟨fd_in 888 (by decide +kernel) (by decide +kernel), fd_in 889 (by decide +kernel) (by decide +kernel), fd_in 890 (by decide +kernel) (by decide +kernel), fd_in 61 (by decide +kernel) (by decide +kernel), fd_in 891 (by decide +kernel) (by decide +kernel), by decide +kernel, by decide +kernel, by decide +kernel⟩
theorem lk_L_162 : fd_lkV "ShuffledDaysLaw" 162 yX11_image mX11_image 1 := ⟨fd_in 1357 (by decide +kernel) (by decide +kernel), fd_in 1358 (by decide +kernel) (by decide +kernel), fd_in 1359 (by decide +kernel) (by decide +kernel), fd_in 72 (by decide +kernel) (by decide +kernel), fd_in 1360 (by decide +kernel) (by decide +kernel), by decide +kernel, by decide +kernel, by decide +kernel⟩
theorem lk_L_163 : fd_lkV "ShuffledDaysLaw" 163 yX10_from mX10_from 1 := ⟨fd_in 892 (by decide +kernel) (by decide +kernel), fd_in 893 (by decide +kernel) (by decide +kernel), fd_in 894 (by decide +kernel) (by decide +kernel), fd_in 61 (by decide +kernel) (by decide +kernel), fd_in 895 (by decide +kernel) (by decide +kernel), by decide +kernel, by decide +kernel, by decide +kernel⟩
theorem lk_L_166 : fd_lkV "ShuffledDaysLaw" 166 yX11_from mX11_from 1 := ⟨fd_in 1361 (by decide +kernel) (by decide +kernel), fd_in 1362 (by decide +kernel) (by decide +kernel), fd_in 1363 (by decide +kernel) (by decide +kernel), fd_in 72 (by decide +kernel) (by decide +kernel), fd_in 1364 (by decide +kernel) (by decide +kernel), by decide +kernel, by decide +kernel, by decide +kernel⟩
theorem lk_L_167 : fd_lkV "ShuffledDaysLaw" 167 yX10_status mX10_status 1 := ⟨fd_in 896 (by decide +kernel) (by decide +kernel), fd_in 897 (by decide +kernel) (by decide +kernel), fd_in 898 (by decide +kernel) (by decide +kernel), fd_in 61 (by decide +kernel) (by decide +kernel), fd_in 899 (by decide +kernel) (by decide +kernel), by decide +kernel, by decide +kernel, by decide +kernel⟩
theorem lk_L_170 : fd_lkV "ShuffledDaysLaw" 170 yX11_status mX11_status 1 := ⟨fd_in 1369 (by decide +kernel) (by decide +kernel), fd_in 1370 (by decide +kernel) (by decide +kernel), fd_in 1371 (by decide +kernel) (by decide +kernel), fd_in 72 (by decide +kernel) (by decide +kernel), fd_in 1372 (by decide +kernel) (by decide +kernel), by decide +kernel, by decide +kernel, by decide +kernel⟩
theorem lk_L_171 : fd_lkV "ShuffledDaysLaw" 171 yX10_count mX10_count 1 := ⟨fd_in 900 (by decide +kernel) (by decide +kernel), fd_in 901 (by decide +kernel) (by decide +kernel), fd_in 902 (by decide +kernel) (by decide +kernel), fd_in 61 (by decide +kernel) (by decide +kernel), fd_in 903 (by decide +kernel) (by decide +kernel), by decide +kernel, by decide +kernel, by decide +kernel⟩
theorem lk_L_174 : fd_lkV "ShuffledDaysLaw" 174 yX11_count mX11_count 1 := ⟨fd_in 1373 (by decide +kernel) (by decide +kernel), fd_in 1374 (by decide +kernel) (by decide +kernel), fd_in 1375 (by decide +kernel) (by decide +kernel), fd_in 72 (by decide +kernel) (by decide +kernel), fd_in 1376 (by decide +kernel) (by decide +kernel), by decide +kernel, by decide +kernel, by decide +kernel⟩
theorem lk_L_175 : fd_lkV "ShuffledDaysLaw" 175 yX10_digest mX10_digest 0 := ⟨fd_in 909 (by decide +kernel) (by decide +kernel), fd_in 910 (by decide +kernel) (by decide +kernel), fd_in 911 (by decide +kernel) (by decide +kernel), fd_in 61 (by decide +kernel) (by decide +kernel), fd_in 912 (by decide +kernel) (by decide +kernel), by decide +kernel, by decide +kernel, by decide +kernel⟩
theorem lk_L_179 : fd_lkV "ShuffledDaysLaw" 179 yX11_digest mX11_digest 0 := ⟨fd_in 1382 (by decide +kernel) (by decide +kernel), fd_in 1383 (by decide +kernel) (by decide +kernel), fd_in 1384 (by decide +kernel) (by decide +kernel), fd_in 72 (by decide +kernel) (by decide +kernel), fd_in 1385 (by decide +kernel) (by decide +kernel), by decide +kernel, by decide +kernel, by decide +kernel⟩
abbrev lwV (αX αM : Nat → Nat) (b i : Nat) : List (Nat × Value) := [(3, .int (nI i)), (2, .ref (αM 0)), (1, .ref (αX 0)), (0, .ref b)]
theorem lwC (x : Int64) : lg_cmp x x = 0 := by
  unfold lg_cmp
  rw [if_neg (by rw [gt_iff_lt, Int64.lt_iff_toInt_lt]; omega), if_pos rfl]
section LAWC
variable {αX αM : Nat → Nat} {a n i : Nat} {xs : Nat → Int32} {s : pS} {b : Nat} {I J : fdI} {L M : fdL} {st : List Value}
theorem L_arg {pc q : Nat} (h0 : decode code pc = .ok (.aload_n 0, 1)) (h1 : decode code (pc + 1) = .ok (.iload_n 3, 1)) (h2 : decode code (pc + 2) = .ok (.iconst (q : Int), 1)) (h3 : decode code (pc + 3) = .ok (.iadd, 1)) (h4 : decode code (pc + 4) = .ok (.iaload, 1)) (hq : q < 5) (hi : i + 5 ≤ n) (hn : n ≤ 320) (K : LR αX αM a n xs (pc + 5) (lwV αX αM a i) (.int (xs (i + q)) :: st) I L J M) : LR αX αM a n xs pc (lwV αX αM a i) st I L J M := by
  refine L_aload_n h0 rfl ?_
  refine L_iload_n h1 rfl ?_
  refine L_iconst (v := nI q) h2 rfl ?_
  refine L_iadd h3 ?_
  rw [show nI i + nI q = nI (i + q) from nI_add _ _]
  refine L_sld h4 (vp_in_nI (by omega) (by omega)) ?_
  rw [nI_clamp (by omega)]
  exact K
theorem lc_0 (hi : i + 5 ≤ n) (hn : n ≤ 320) (h : lwR s b I L J M) (next : ∀ (s' : pS) (b' : Nat) (I' : fdI) (L' : fdL) (J' : fdI) (M' : fdL), lwR s' b' I' L' J' M' → LR αX αM a n xs 1196 (lwV αX αM a i) [] I' L' J' M') : LR αX αM a n xs 208 (lwV αX αM a i) [] I L J M := by
  refine L_aload_n dL_law_208 rfl ?_
  refine L_arg (q := 1) dL_law_209 dL_law_210 dL_law_211 dL_law_212 dL_law_213 (by decide) hi hn ?_
  refine L_callX (As := [.int (xs (i + 1))]) (k := 0) (ci := 10) (c_X10_life s αX I L (xs (i + 1)) h.1.1 h.1.2.2.1) lk_L_13 rfl rfl (by decide) (by decide) rfl (Nat.le_of_ble_eq_true rfl) dL_law_214 (fun rv I2 L2 hq => ?_)
  obtain ⟨v, rfl, hx⟩ := hq
  have ev := hx.1
  subst ev
  refine L_aload_n dL_law_217 rfl ?_
  refine L_arg (q := 1) dL_law_218 dL_law_219 dL_law_220 dL_law_221 dL_law_222 (by decide) hi hn ?_
  refine L_callM (As := [.int (xs (i + 1))]) (k := 0) (ci := 11) (m_life h.1.2.2.2 (xs (i + 1))) lk_L_17 rfl rfl (by decide) (by decide) rfl (Nat.le_of_ble_eq_true rfl) dL_law_223 (fun rv J2 M2 hq => ?_)
  obtain ⟨w, rfl, hm⟩ := hq
  obtain ⟨e, s2, b2, h2⟩ := h.go (sd_life (xs (i + 1)) h.1.2.1) hx hm
  subst e
  exact L_icmp_eq 1196 dL_law_226 (by decide) (fun _ => next _ _ _ _ _ _ h2) (fun q => absurd rfl q)
theorem lc_1 (hi : i + 5 ≤ n) (hn : n ≤ 320) (h : lwR s b I L J M) (next : ∀ (s' : pS) (b' : Nat) (I' : fdI) (L' : fdL) (J' : fdI) (M' : fdL), lwR s' b' I' L' J' M' → LR αX αM a n xs 1196 (lwV αX αM a i) [] I' L' J' M') : LR αX αM a n xs 231 (lwV αX αM a i) [] I L J M := by
  refine L_aload_n dL_law_231 rfl ?_
  refine L_arg (q := 1) dL_law_232 dL_law_233 dL_law_234 dL_law_235 dL_law_236 (by decide) hi hn ?_
  refine L_arg (q := 2) dL_law_237 dL_law_238 dL_law_239 dL_law_240 dL_law_241 (by decide) hi hn ?_
  refine L_callX (As := [.int (xs (i + 1)), .int (xs (i + 2))]) (k := 0) (ci := 10) (c_X10_day s αX I L (xs (i + 1)) (xs (i + 2)) h.1.1 h.1.2.2.1) lk_L_18 rfl rfl (by decide) (by decide) rfl (Nat.le_of_ble_eq_true rfl) dL_law_242 (fun rv I2 L2 hq => ?_)
  obtain ⟨v, rfl, hx⟩ := hq
  have ev := hx.1
  subst ev
  refine L_aload_n dL_law_245 rfl ?_
  refine L_arg (q := 1) dL_law_246 dL_law_247 dL_law_248 dL_law_249 dL_law_250 (by decide) hi hn ?_
  refine L_arg (q := 2) dL_law_251 dL_law_252 dL_law_253 dL_law_254 dL_law_255 (by decide) hi hn ?_
  refine L_callM (As := [.int (xs (i + 1)), .int (xs (i + 2))]) (k := 0) (ci := 11) (m_day h.1.2.2.2 (xs (i + 1)) (xs (i + 2))) lk_L_22 rfl rfl (by decide) (by decide) rfl (Nat.le_of_ble_eq_true rfl) dL_law_256 (fun rv J2 M2 hq => ?_)
  obtain ⟨w, rfl, hm⟩ := hq
  obtain ⟨e, s2, b2, h2⟩ := h.go (sd_day (xs (i + 1)) (xs (i + 2)) h.1.2.1) hx hm
  subst e
  exact L_icmp_eq 1196 dL_law_259 (by decide) (fun _ => next _ _ _ _ _ _ h2) (fun q => absurd rfl q)
theorem lc_2 (hi : i + 5 ≤ n) (hn : n ≤ 320) (h : lwR s b I L J M) (next : ∀ (s' : pS) (b' : Nat) (I' : fdI) (L' : fdL) (J' : fdI) (M' : fdL), lwR s' b' I' L' J' M' → LR αX αM a n xs 1196 (lwV αX αM a i) [] I' L' J' M') : LR αX αM a n xs 264 (lwV αX αM a i) [] I L J M := by
  have hb : ∀ x : Int32, (x = 0 ∨ ¬ x = 0) := fun x => Decidable.em _
  rcases hb (xs (i + 4)) with z | z
  · refine L_aload_n dL_law_264 rfl ?_
    refine L_arg (q := 1) dL_law_265 dL_law_266 dL_law_267 dL_law_268 dL_law_269 (by decide) hi hn ?_
    refine L_arg (q := 2) dL_law_270 dL_law_271 dL_law_272 dL_law_273 dL_law_274 (by decide) hi hn ?_
    refine L_arg (q := 3) dL_law_275 dL_law_276 dL_law_277 dL_law_278 dL_law_279 (by decide) hi hn ?_
    refine L_arg (q := 4) dL_law_280 dL_law_281 dL_law_282 dL_law_283 dL_law_284 (by decide) hi hn ?_
    refine L_if_eq 292 dL_law_285 (by decide) (fun _ => ?_) (fun y => absurd z y)
    refine L_iconst (v := 0) dL_law_292 (by decide) ?_
    refine L_callX (As := [.int (xs (i + 1)), .int (xs (i + 2)), .int (xs (i + 3)), .int 0]) (k := 0) (ci := 10) (c_X10_fact s αX I L (xs (i + 1)) (xs (i + 2)) (xs (i + 3)) 0 (by decide) h.1.1 h.1.2.2.1) lk_L_23 rfl rfl (by decide) (by decide) rfl (Nat.le_of_ble_eq_true rfl) dL_law_293 (fun rv I2 L2 hq => ?_)
    obtain ⟨v, rfl, hx⟩ := hq
    have ev := hx.1
    subst ev
    refine L_aload_n dL_law_296 rfl ?_
    refine L_arg (q := 1) dL_law_297 dL_law_298 dL_law_299 dL_law_300 dL_law_301 (by decide) hi hn ?_
    refine L_arg (q := 2) dL_law_302 dL_law_303 dL_law_304 dL_law_305 dL_law_306 (by decide) hi hn ?_
    refine L_arg (q := 3) dL_law_307 dL_law_308 dL_law_309 dL_law_310 dL_law_311 (by decide) hi hn ?_
    refine L_arg (q := 4) dL_law_312 dL_law_313 dL_law_314 dL_law_315 dL_law_316 (by decide) hi hn ?_
    refine L_if_eq 324 dL_law_317 (by decide) (fun _ => ?_) (fun y => absurd z y)
    refine L_iconst (v := 0) dL_law_324 (by decide) ?_
    refine L_callM (As := [.int (xs (i + 1)), .int (xs (i + 2)), .int (xs (i + 3)), .int 0]) (k := 0) (ci := 11) (m_fact h.1.2.2.2 (xs (i + 1)) (xs (i + 2)) (xs (i + 3)) 0) lk_L_27 rfl rfl (by decide) (by decide) rfl (Nat.le_of_ble_eq_true rfl) dL_law_325 (fun rv J2 M2 hq => ?_)
    obtain ⟨w, rfl, hm⟩ := hq
    obtain ⟨e, s2, b2, h2⟩ := h.go (sd_fact (xs (i + 1)) (xs (i + 2)) (xs (i + 3)) 0 h.1.2.1) hx hm
    subst e
    exact L_icmp_eq 1196 dL_law_328 (by decide) (fun _ => next _ _ _ _ _ _ h2) (fun q => absurd rfl q)
  · refine L_aload_n dL_law_264 rfl ?_
    refine L_arg (q := 1) dL_law_265 dL_law_266 dL_law_267 dL_law_268 dL_law_269 (by decide) hi hn ?_
    refine L_arg (q := 2) dL_law_270 dL_law_271 dL_law_272 dL_law_273 dL_law_274 (by decide) hi hn ?_
    refine L_arg (q := 3) dL_law_275 dL_law_276 dL_law_277 dL_law_278 dL_law_279 (by decide) hi hn ?_
    refine L_arg (q := 4) dL_law_280 dL_law_281 dL_law_282 dL_law_283 dL_law_284 (by decide) hi hn ?_
    refine L_if_eq 292 dL_law_285 (by decide) (fun y => absurd y z) (fun _ => ?_)
    refine L_iconst (v := 1) dL_law_288 (by decide) ?_
    refine L_goto (tgt := 293) dL_law_289 (by decide) ?_
    refine L_callX (As := [.int (xs (i + 1)), .int (xs (i + 2)), .int (xs (i + 3)), .int 1]) (k := 0) (ci := 10) (c_X10_fact s αX I L (xs (i + 1)) (xs (i + 2)) (xs (i + 3)) 1 (by decide) h.1.1 h.1.2.2.1) lk_L_23 rfl rfl (by decide) (by decide) rfl (Nat.le_of_ble_eq_true rfl) dL_law_293 (fun rv I2 L2 hq => ?_)
    obtain ⟨v, rfl, hx⟩ := hq
    have ev := hx.1
    subst ev
    refine L_aload_n dL_law_296 rfl ?_
    refine L_arg (q := 1) dL_law_297 dL_law_298 dL_law_299 dL_law_300 dL_law_301 (by decide) hi hn ?_
    refine L_arg (q := 2) dL_law_302 dL_law_303 dL_law_304 dL_law_305 dL_law_306 (by decide) hi hn ?_
    refine L_arg (q := 3) dL_law_307 dL_law_308 dL_law_309 dL_law_310 dL_law_311 (by decide) hi hn ?_
    refine L_arg (q := 4) dL_law_312 dL_law_313 dL_law_314 dL_law_315 dL_law_316 (by decide) hi hn ?_
    refine L_if_eq 324 dL_law_317 (by decide) (fun y => absurd y z) (fun _ => ?_)
    refine L_iconst (v := 1) dL_law_320 (by decide) ?_
    refine L_goto (tgt := 325) dL_law_321 (by decide) ?_
    refine L_callM (As := [.int (xs (i + 1)), .int (xs (i + 2)), .int (xs (i + 3)), .int 1]) (k := 0) (ci := 11) (m_fact h.1.2.2.2 (xs (i + 1)) (xs (i + 2)) (xs (i + 3)) 1) lk_L_27 rfl rfl (by decide) (by decide) rfl (Nat.le_of_ble_eq_true rfl) dL_law_325 (fun rv J2 M2 hq => ?_)
    obtain ⟨w, rfl, hm⟩ := hq
    obtain ⟨e, s2, b2, h2⟩ := h.go (sd_fact (xs (i + 1)) (xs (i + 2)) (xs (i + 3)) 1 h.1.2.1) hx hm
    subst e
    exact L_icmp_eq 1196 dL_law_328 (by decide) (fun _ => next _ _ _ _ _ _ h2) (fun q => absurd rfl q)
theorem lc_3 (hi : i + 5 ≤ n) (hn : n ≤ 320) (h : lwR s b I L J M) (next : ∀ (s' : pS) (b' : Nat) (I' : fdI) (L' : fdL) (J' : fdI) (M' : fdL), lwR s' b' I' L' J' M' → LR αX αM a n xs 1196 (lwV αX αM a i) [] I' L' J' M') : LR αX αM a n xs 333 (lwV αX αM a i) [] I L J M := by
  refine L_aload_n dL_law_333 rfl ?_
  refine L_arg (q := 1) dL_law_334 dL_law_335 dL_law_336 dL_law_337 dL_law_338 (by decide) hi hn ?_
  refine L_arg (q := 2) dL_law_339 dL_law_340 dL_law_341 dL_law_342 dL_law_343 (by decide) hi hn ?_
  refine L_callX (As := [.int (xs (i + 1)), .int (xs (i + 2))]) (k := 0) (ci := 10) (c_X10_note s αX I L (xs (i + 1)) (xs (i + 2)) h.1.1 h.1.2.2.1) lk_L_28 rfl rfl (by decide) (by decide) rfl (Nat.le_of_ble_eq_true rfl) dL_law_344 (fun rv I2 L2 hq => ?_)
  obtain ⟨v, rfl, hx⟩ := hq
  have ev := hx.1
  subst ev
  refine L_aload_n dL_law_347 rfl ?_
  refine L_arg (q := 1) dL_law_348 dL_law_349 dL_law_350 dL_law_351 dL_law_352 (by decide) hi hn ?_
  refine L_arg (q := 2) dL_law_353 dL_law_354 dL_law_355 dL_law_356 dL_law_357 (by decide) hi hn ?_
  refine L_callM (As := [.int (xs (i + 1)), .int (xs (i + 2))]) (k := 0) (ci := 11) (m_note h.1.2.2.2 (xs (i + 1)) (xs (i + 2))) lk_L_31 rfl rfl (by decide) (by decide) rfl (Nat.le_of_ble_eq_true rfl) dL_law_358 (fun rv J2 M2 hq => ?_)
  obtain ⟨w, rfl, hm⟩ := hq
  obtain ⟨e, s2, b2, h2⟩ := h.go (sd_note (xs (i + 1)) (xs (i + 2)) h.1.2.1) hx hm
  subst e
  exact L_icmp_eq 1196 dL_law_361 (by decide) (fun _ => next _ _ _ _ _ _ h2) (fun q => absurd rfl q)
theorem lc_4 (hi : i + 5 ≤ n) (hn : n ≤ 320) (h : lwR s b I L J M) (next : ∀ (s' : pS) (b' : Nat) (I' : fdI) (L' : fdL) (J' : fdI) (M' : fdL), lwR s' b' I' L' J' M' → LR αX αM a n xs 1196 (lwV αX αM a i) [] I' L' J' M') : LR αX αM a n xs 366 (lwV αX αM a i) [] I L J M := by
  refine L_aload_n dL_law_366 rfl ?_
  refine L_arg (q := 1) dL_law_367 dL_law_368 dL_law_369 dL_law_370 dL_law_371 (by decide) hi hn ?_
  refine L_arg (q := 2) dL_law_372 dL_law_373 dL_law_374 dL_law_375 dL_law_376 (by decide) hi hn ?_
  refine L_callX (As := [.int (xs (i + 1)), .int (xs (i + 2))]) (k := 0) (ci := 10) (c_X10_ahead s αX I L (xs (i + 1)) (xs (i + 2)) h.1.1 h.1.2.2.1) lk_L_32 rfl rfl (by decide) (by decide) rfl (Nat.le_of_ble_eq_true rfl) dL_law_377 (fun rv I2 L2 hq => ?_)
  obtain ⟨v, rfl, hx⟩ := hq
  have ev := hx.1
  subst ev
  refine L_aload_n dL_law_380 rfl ?_
  refine L_arg (q := 1) dL_law_381 dL_law_382 dL_law_383 dL_law_384 dL_law_385 (by decide) hi hn ?_
  refine L_arg (q := 2) dL_law_386 dL_law_387 dL_law_388 dL_law_389 dL_law_390 (by decide) hi hn ?_
  refine L_callM (As := [.int (xs (i + 1)), .int (xs (i + 2))]) (k := 0) (ci := 11) (m_ahead h.1.2.2.2 (xs (i + 1)) (xs (i + 2))) lk_L_35 rfl rfl (by decide) (by decide) rfl (Nat.le_of_ble_eq_true rfl) dL_law_391 (fun rv J2 M2 hq => ?_)
  obtain ⟨w, rfl, hm⟩ := hq
  obtain ⟨e, s2, b2, h2⟩ := h.go (sd_ahead (xs (i + 1)) (xs (i + 2)) h.1.2.1) hx hm
  subst e
  exact L_icmp_eq 1196 dL_law_394 (by decide) (fun _ => next _ _ _ _ _ _ h2) (fun q => absurd rfl q)
theorem lc_5 (hi : i + 5 ≤ n) (hn : n ≤ 320) (h : lwR s b I L J M) (next : ∀ (s' : pS) (b' : Nat) (I' : fdI) (L' : fdL) (J' : fdI) (M' : fdL), lwR s' b' I' L' J' M' → LR αX αM a n xs 1196 (lwV αX αM a i) [] I' L' J' M') : LR αX αM a n xs 399 (lwV αX αM a i) [] I L J M := by
  refine L_aload_n dL_law_399 rfl ?_
  refine L_arg (q := 1) dL_law_400 dL_law_401 dL_law_402 dL_law_403 dL_law_404 (by decide) hi hn ?_
  refine L_arg (q := 2) dL_law_405 dL_law_406 dL_law_407 dL_law_408 dL_law_409 (by decide) hi hn ?_
  refine L_callX (As := [.int (xs (i + 1)), .int (xs (i + 2))]) (k := 0) (ci := 10) (c_X10_at s αX I L (xs (i + 1)) (xs (i + 2)) h.1.1 h.1.2.2.1) lk_L_36 rfl rfl (by decide) (by decide) rfl (Nat.le_of_ble_eq_true rfl) dL_law_410 (fun rv I2 L2 hq => ?_)
  obtain ⟨v, rfl, hx⟩ := hq
  have ev := hx.1
  subst ev
  refine L_aload_n dL_law_413 rfl ?_
  refine L_arg (q := 1) dL_law_414 dL_law_415 dL_law_416 dL_law_417 dL_law_418 (by decide) hi hn ?_
  refine L_arg (q := 2) dL_law_419 dL_law_420 dL_law_421 dL_law_422 dL_law_423 (by decide) hi hn ?_
  refine L_callM (As := [.int (xs (i + 1)), .int (xs (i + 2))]) (k := 0) (ci := 11) (m_at h.1.2.2.2 (xs (i + 1)) (xs (i + 2))) lk_L_39 rfl rfl (by decide) (by decide) rfl (Nat.le_of_ble_eq_true rfl) dL_law_424 (fun rv J2 M2 hq => ?_)
  obtain ⟨w, rfl, hm⟩ := hq
  obtain ⟨e, s2, b2, h2⟩ := h.go (sd_at (xs (i + 1)) (xs (i + 2)) h.1.2.1) hx hm
  subst e
  exact L_icmp_eq 1196 dL_law_427 (by decide) (fun _ => next _ _ _ _ _ _ h2) (fun q => absurd rfl q)
theorem lc_6 (hi : i + 5 ≤ n) (hn : n ≤ 320) (h : lwR s b I L J M) (next : ∀ (s' : pS) (b' : Nat) (I' : fdI) (L' : fdL) (J' : fdI) (M' : fdL), lwR s' b' I' L' J' M' → LR αX αM a n xs 1196 (lwV αX αM a i) [] I' L' J' M') : LR αX αM a n xs 432 (lwV αX αM a i) [] I L J M := by
  refine L_aload_n dL_law_432 rfl ?_
  refine L_arg (q := 1) dL_law_433 dL_law_434 dL_law_435 dL_law_436 dL_law_437 (by decide) hi hn ?_
  refine L_callX (As := [.int (xs (i + 1))]) (k := 0) (ci := 10) (c_X10_tear s αX I L (xs (i + 1)) h.1.1 h.1.2.2.1) lk_L_40 rfl rfl (by decide) (by decide) rfl (Nat.le_of_ble_eq_true rfl) dL_law_438 (fun rv I2 L2 hq => ?_)
  obtain ⟨v, rfl, hx⟩ := hq
  have ev := hx.1
  subst ev
  refine L_aload_n dL_law_441 rfl ?_
  refine L_arg (q := 1) dL_law_442 dL_law_443 dL_law_444 dL_law_445 dL_law_446 (by decide) hi hn ?_
  refine L_callM (As := [.int (xs (i + 1))]) (k := 0) (ci := 11) (m_tear h.1.2.2.2 (xs (i + 1))) lk_L_43 rfl rfl (by decide) (by decide) rfl (Nat.le_of_ble_eq_true rfl) dL_law_447 (fun rv J2 M2 hq => ?_)
  obtain ⟨w, rfl, hm⟩ := hq
  obtain ⟨e, s2, b2, h2⟩ := h.go (sd_tear (xs (i + 1)) h.1.2.1) hx hm
  subst e
  exact L_icmp_eq 1196 dL_law_450 (by decide) (fun _ => next _ _ _ _ _ _ h2) (fun q => absurd rfl q)
theorem lc_7 (hi : i + 5 ≤ n) (hn : n ≤ 320) (h : lwR s b I L J M) (next : ∀ (s' : pS) (b' : Nat) (I' : fdI) (L' : fdL) (J' : fdI) (M' : fdL), lwR s' b' I' L' J' M' → LR αX αM a n xs 1196 (lwV αX αM a i) [] I' L' J' M') : LR αX αM a n xs 455 (lwV αX αM a i) [] I L J M := by
  refine L_aload_n dL_law_455 rfl ?_
  refine L_arg (q := 1) dL_law_456 dL_law_457 dL_law_458 dL_law_459 dL_law_460 (by decide) hi hn ?_
  refine L_callX (As := [.int (xs (i + 1))]) (k := 0) (ci := 10) (c_X10_order s αX I L (xs (i + 1)) h.1.1 h.1.2.2.1) lk_L_44 rfl rfl (by decide) (by decide) rfl (Nat.le_of_ble_eq_true rfl) dL_law_461 (fun rv I2 L2 hq => ?_)
  obtain ⟨v, rfl, hx⟩ := hq
  have ev := hx.1
  subst ev
  refine L_aload_n dL_law_464 rfl ?_
  refine L_arg (q := 1) dL_law_465 dL_law_466 dL_law_467 dL_law_468 dL_law_469 (by decide) hi hn ?_
  refine L_callM (As := [.int (xs (i + 1))]) (k := 0) (ci := 11) (m_order h.1.2.2.2 (xs (i + 1))) lk_L_47 rfl rfl (by decide) (by decide) rfl (Nat.le_of_ble_eq_true rfl) dL_law_470 (fun rv J2 M2 hq => ?_)
  obtain ⟨w, rfl, hm⟩ := hq
  obtain ⟨e, s2, b2, h2⟩ := h.go (sd_order (xs (i + 1)) h.1.2.1) hx hm
  subst e
  exact L_icmp_eq 1196 dL_law_473 (by decide) (fun _ => next _ _ _ _ _ _ h2) (fun q => absurd rfl q)
theorem lc_8 (hi : i + 5 ≤ n) (hn : n ≤ 320) (h : lwR s b I L J M) (next : ∀ (s' : pS) (b' : Nat) (I' : fdI) (L' : fdL) (J' : fdI) (M' : fdL), lwR s' b' I' L' J' M' → LR αX αM a n xs 1196 (lwV αX αM a i) [] I' L' J' M') : LR αX αM a n xs 478 (lwV αX αM a i) [] I L J M := by
  refine L_aload_n dL_law_478 rfl ?_
  refine L_arg (q := 1) dL_law_479 dL_law_480 dL_law_481 dL_law_482 dL_law_483 (by decide) hi hn ?_
  refine L_callX (As := [.int (xs (i + 1))]) (k := 0) (ci := 10) (c_X10_type αX I L (xs (i + 1)) h.2.1.2.1 h.2.1.1) lk_L_48 rfl rfl (by decide) (by decide) rfl (Nat.le_of_ble_eq_true rfl) dL_law_484 (fun rv I2 L2 hq => ?_)
  obtain ⟨rfl, rfl, rfl⟩ := hq
  refine L_aload_n dL_law_487 rfl ?_
  refine L_arg (q := 1) dL_law_488 dL_law_489 dL_law_490 dL_law_491 dL_law_492 (by decide) hi hn ?_
  refine L_callM (As := [.int (xs (i + 1))]) (k := 0) (ci := 11) (c_X11_type αM J M (xs (i + 1)) h.2.1.2.2.1 h.2.1.1) lk_L_51 rfl rfl (by decide) (by decide) rfl (Nat.le_of_ble_eq_true rfl) dL_law_493 (fun rv J2 M2 hq => ?_)
  obtain ⟨rfl, rfl, rfl⟩ := hq
  obtain ⟨e, s2, b2, h2⟩ := lw_type h (xs (i + 1))
  rw [Value.int.inj e]
  exact L_icmp_eq 1196 dL_law_496 (by decide) (fun _ => next _ _ _ _ _ _ h2) (fun q => absurd rfl q)
theorem lc_9 (hi : i + 5 ≤ n) (hn : n ≤ 320) (h : lwR s b I L J M) (next : ∀ (s' : pS) (b' : Nat) (I' : fdI) (L' : fdL) (J' : fdI) (M' : fdL), lwR s' b' I' L' J' M' → LR αX αM a n xs 1196 (lwV αX αM a i) [] I' L' J' M') : LR αX αM a n xs 501 (lwV αX αM a i) [] I L J M := by
  refine L_aload_n dL_law_501 rfl ?_
  refine L_callX (As := []) (k := 0) (ci := 10) (c_X10_clear αX I L ) lk_L_52 rfl rfl (by decide) (by decide) rfl (Nat.le_of_ble_eq_true rfl) dL_law_502 (fun rv I2 L2 hq => ?_)
  obtain ⟨rfl, rfl, rfl⟩ := hq
  refine L_aload_n dL_law_505 rfl ?_
  refine L_callM (As := []) (k := 0) (ci := 11) (c_X11_clear αM J M ) lk_L_56 rfl rfl (by decide) (by decide) rfl (Nat.le_of_ble_eq_true rfl) dL_law_506 (fun rv J2 M2 hq => ?_)
  obtain ⟨rfl, rfl, rfl⟩ := hq
  obtain ⟨e, s2, b2, h2⟩ := lw_clear h
  rw [Value.int.inj e]
  exact L_icmp_eq 1196 dL_law_509 (by decide) (fun _ => next _ _ _ _ _ _ h2) (fun q => absurd rfl q)
theorem lc_10 (hi : i + 5 ≤ n) (hn : n ≤ 320) (h : lwR s b I L J M) (next : ∀ (s' : pS) (b' : Nat) (I' : fdI) (L' : fdL) (J' : fdI) (M' : fdL), lwR s' b' I' L' J' M' → LR αX αM a n xs 1196 (lwV αX αM a i) [] I' L' J' M') : LR αX αM a n xs 514 (lwV αX αM a i) [] I L J M := by
  refine L_aload_n dL_law_514 rfl ?_
  refine L_callX (As := []) (k := 0) (ci := 10) (c_X10_read s (J 20) αX I L h.2.1.1 ⟨h.2.1.2.1, h.2.1.2.2.2⟩ h.1.1 h.1.2.1 h.1.2.2.1) lk_L_57 rfl rfl (by decide) (by decide) rfl (Nat.le_of_ble_eq_true rfl) dL_law_515 (fun rv I2 L2 hq => ?_)
  obtain ⟨v, rfl, hx⟩ := hq
  have ev := hx.2.1
  subst ev
  refine L_aload_n dL_law_518 rfl ?_
  refine L_callM (As := []) (k := 0) (ci := 11) (c_X11_read s αM J M h.1.2.2.2 h.2.1.2.2.1 h.2.1.1) lk_L_60 rfl rfl (by decide) (by decide) rfl (Nat.le_of_ble_eq_true rfl) dL_law_519 (fun rv J2 M2 hq => ?_)
  obtain ⟨w, rfl, hm⟩ := hq
  obtain ⟨e, s2, b2, h2⟩ := lw_read h hx hm
  subst e
  exact L_icmp_eq 1196 dL_law_522 (by decide) (fun _ => next _ _ _ _ _ _ h2) (fun q => absurd rfl q)
theorem lc_11 (hi : i + 5 ≤ n) (hn : n ≤ 320) (h : lwR s b I L J M) (next : ∀ (s' : pS) (b' : Nat) (I' : fdI) (L' : fdL) (J' : fdI) (M' : fdL), lwR s' b' I' L' J' M' → LR αX αM a n xs 1196 (lwV αX αM a i) [] I' L' J' M') : LR αX αM a n xs 527 (lwV αX αM a i) [] I L J M := by
  refine L_aload_n dL_law_527 rfl ?_
  refine L_arg (q := 1) dL_law_528 dL_law_529 dL_law_530 dL_law_531 dL_law_532 (by decide) hi hn ?_
  refine L_callX (As := [.int (xs (i + 1))]) (k := 0) (ci := 10) (c_X10_lived s αX I L (xs (i + 1)) h.1.1 h.1.2.2.1) lk_L_61 rfl rfl (by decide) (by decide) rfl (Nat.le_of_ble_eq_true rfl) dL_law_533 (fun rv I2 L2 hq => ?_)
  obtain ⟨v, rfl, hx⟩ := hq
  have ev := hx.1
  subst ev
  refine L_aload_n dL_law_536 rfl ?_
  refine L_arg (q := 1) dL_law_537 dL_law_538 dL_law_539 dL_law_540 dL_law_541 (by decide) hi hn ?_
  refine L_callM (As := [.int (xs (i + 1))]) (k := 0) (ci := 11) (m_lived h.1.2.2.2 (xs (i + 1))) lk_L_64 rfl rfl (by decide) (by decide) rfl (Nat.le_of_ble_eq_true rfl) dL_law_542 (fun rv J2 M2 hq => ?_)
  obtain ⟨w, rfl, hm⟩ := hq
  obtain ⟨e, s2, b2, h2⟩ := h.go (sd_lived (xs (i + 1)) h.1.2.1) hx hm
  subst e
  exact L_icmp_eq 1196 dL_law_545 (by decide) (fun _ => next _ _ _ _ _ _ h2) (fun q => absurd rfl q)
theorem lc_12 (hi : i + 5 ≤ n) (hn : n ≤ 320) (h : lwR s b I L J M) (next : ∀ (s' : pS) (b' : Nat) (I' : fdI) (L' : fdL) (J' : fdI) (M' : fdL), lwR s' b' I' L' J' M' → LR αX αM a n xs 1196 (lwV αX αM a i) [] I' L' J' M') : LR αX αM a n xs 550 (lwV αX αM a i) [] I L J M := by
  refine L_aload_n dL_law_550 rfl ?_
  refine L_arg (q := 1) dL_law_551 dL_law_552 dL_law_553 dL_law_554 dL_law_555 (by decide) hi hn ?_
  refine L_callX (As := [.int (xs (i + 1))]) (k := 0) (ci := 10) (c_X10_knows s αX I L (xs (i + 1)) h.1.1 h.1.2.2.1) lk_L_65 rfl rfl (by decide) (by decide) rfl (Nat.le_of_ble_eq_true rfl) dL_law_556 (fun rv I2 L2 hq => ?_)
  obtain ⟨v, rfl, hx⟩ := hq
  have ev := hx.1
  subst ev
  refine L_aload_n dL_law_559 rfl ?_
  refine L_arg (q := 1) dL_law_560 dL_law_561 dL_law_562 dL_law_563 dL_law_564 (by decide) hi hn ?_
  refine L_callM (As := [.int (xs (i + 1))]) (k := 0) (ci := 11) (m_knows h.1.2.2.2 (xs (i + 1))) lk_L_68 rfl rfl (by decide) (by decide) rfl (Nat.le_of_ble_eq_true rfl) dL_law_565 (fun rv J2 M2 hq => ?_)
  obtain ⟨w, rfl, hm⟩ := hq
  obtain ⟨e, s2, b2, h2⟩ := h.go (sd_knows (xs (i + 1)) h.1.2.1) hx hm
  subst e
  exact L_icmp_eq 1196 dL_law_568 (by decide) (fun _ => next _ _ _ _ _ _ h2) (fun q => absurd rfl q)
theorem lc_13 (hi : i + 5 ≤ n) (hn : n ≤ 320) (h : lwR s b I L J M) (next : ∀ (s' : pS) (b' : Nat) (I' : fdI) (L' : fdL) (J' : fdI) (M' : fdL), lwR s' b' I' L' J' M' → LR αX αM a n xs 1196 (lwV αX αM a i) [] I' L' J' M') : LR αX αM a n xs 573 (lwV αX αM a i) [] I L J M := by
  refine L_aload_n dL_law_573 rfl ?_
  refine L_arg (q := 1) dL_law_574 dL_law_575 dL_law_576 dL_law_577 dL_law_578 (by decide) hi hn ?_
  refine L_callX (As := [.int (xs (i + 1))]) (k := 0) (ci := 10) (c_X10_reads s αX I L (xs (i + 1)) h.1.1 h.1.2.2.1) lk_L_69 rfl rfl (by decide) (by decide) rfl (Nat.le_of_ble_eq_true rfl) dL_law_579 (fun rv I2 L2 hq => ?_)
  obtain ⟨v, rfl, hx⟩ := hq
  have ev := hx.1
  subst ev
  refine L_aload_n dL_law_582 rfl ?_
  refine L_arg (q := 1) dL_law_583 dL_law_584 dL_law_585 dL_law_586 dL_law_587 (by decide) hi hn ?_
  refine L_callM (As := [.int (xs (i + 1))]) (k := 0) (ci := 11) (m_reads h.1.2.2.2 (xs (i + 1))) lk_L_72 rfl rfl (by decide) (by decide) rfl (Nat.le_of_ble_eq_true rfl) dL_law_588 (fun rv J2 M2 hq => ?_)
  obtain ⟨w, rfl, hm⟩ := hq
  obtain ⟨e, s2, b2, h2⟩ := h.go (sd_reads (xs (i + 1)) h.1.2.1) hx hm
  subst e
  exact L_icmp_eq 1196 dL_law_591 (by decide) (fun _ => next _ _ _ _ _ _ h2) (fun q => absurd rfl q)
theorem lc_14 (hi : i + 5 ≤ n) (hn : n ≤ 320) (h : lwR s b I L J M) (next : ∀ (s' : pS) (b' : Nat) (I' : fdI) (L' : fdL) (J' : fdI) (M' : fdL), lwR s' b' I' L' J' M' → LR αX αM a n xs 1196 (lwV αX αM a i) [] I' L' J' M') : LR αX αM a n xs 596 (lwV αX αM a i) [] I L J M := by
  refine L_aload_n dL_law_596 rfl ?_
  refine L_arg (q := 1) dL_law_597 dL_law_598 dL_law_599 dL_law_600 dL_law_601 (by decide) hi hn ?_
  refine L_callX (As := [.int (xs (i + 1))]) (k := 0) (ci := 10) (c_X10_missing s αX I L (xs (i + 1)) h.1.1 h.1.2.2.1) lk_L_73 rfl rfl (by decide) (by decide) rfl (Nat.le_of_ble_eq_true rfl) dL_law_602 (fun rv I2 L2 hq => ?_)
  obtain ⟨v, rfl, hx⟩ := hq
  have ev := hx.1
  subst ev
  refine L_aload_n dL_law_605 rfl ?_
  refine L_arg (q := 1) dL_law_606 dL_law_607 dL_law_608 dL_law_609 dL_law_610 (by decide) hi hn ?_
  refine L_callM (As := [.int (xs (i + 1))]) (k := 0) (ci := 11) (m_missing h.1.2.2.2 (xs (i + 1))) lk_L_76 rfl rfl (by decide) (by decide) rfl (Nat.le_of_ble_eq_true rfl) dL_law_611 (fun rv J2 M2 hq => ?_)
  obtain ⟨w, rfl, hm⟩ := hq
  obtain ⟨e, s2, b2, h2⟩ := h.go (sd_missing (xs (i + 1)) h.1.2.1) hx hm
  subst e
  exact L_icmp_eq 1196 dL_law_614 (by decide) (fun _ => next _ _ _ _ _ _ h2) (fun q => absurd rfl q)
theorem lc_15 (hi : i + 5 ≤ n) (hn : n ≤ 320) (h : lwR s b I L J M) (next : ∀ (s' : pS) (b' : Nat) (I' : fdI) (L' : fdL) (J' : fdI) (M' : fdL), lwR s' b' I' L' J' M' → LR αX αM a n xs 1196 (lwV αX αM a i) [] I' L' J' M') : LR αX αM a n xs 619 (lwV αX αM a i) [] I L J M := by
  refine L_aload_n dL_law_619 rfl ?_
  refine L_arg (q := 1) dL_law_620 dL_law_621 dL_law_622 dL_law_623 dL_law_624 (by decide) hi hn ?_
  refine L_callX (As := [.int (xs (i + 1))]) (k := 0) (ci := 10) (c_X10_first s αX I L (xs (i + 1)) h.1.1 h.1.2.2.1) lk_L_77 rfl rfl (by decide) (by decide) rfl (Nat.le_of_ble_eq_true rfl) dL_law_625 (fun rv I2 L2 hq => ?_)
  obtain ⟨v, rfl, hx⟩ := hq
  have ev := hx.1
  subst ev
  refine L_aload_n dL_law_628 rfl ?_
  refine L_arg (q := 1) dL_law_629 dL_law_630 dL_law_631 dL_law_632 dL_law_633 (by decide) hi hn ?_
  refine L_callM (As := [.int (xs (i + 1))]) (k := 0) (ci := 11) (m_first h.1.2.2.2 (xs (i + 1))) lk_L_80 rfl rfl (by decide) (by decide) rfl (Nat.le_of_ble_eq_true rfl) dL_law_634 (fun rv J2 M2 hq => ?_)
  obtain ⟨w, rfl, hm⟩ := hq
  obtain ⟨e, s2, b2, h2⟩ := h.go (sd_first (xs (i + 1)) h.1.2.1) hx hm
  subst e
  exact L_icmp_eq 1196 dL_law_637 (by decide) (fun _ => next _ _ _ _ _ _ h2) (fun q => absurd rfl q)
theorem lc_16 (hi : i + 5 ≤ n) (hn : n ≤ 320) (h : lwR s b I L J M) (next : ∀ (s' : pS) (b' : Nat) (I' : fdI) (L' : fdL) (J' : fdI) (M' : fdL), lwR s' b' I' L' J' M' → LR αX αM a n xs 1196 (lwV αX αM a i) [] I' L' J' M') : LR αX αM a n xs 642 (lwV αX αM a i) [] I L J M := by
  refine L_aload_n dL_law_642 rfl ?_
  refine L_arg (q := 1) dL_law_643 dL_law_644 dL_law_645 dL_law_646 dL_law_647 (by decide) hi hn ?_
  refine L_callX (As := [.int (xs (i + 1))]) (k := 0) (ci := 10) (c_X10_cards s αX I L (xs (i + 1)) h.1.1 h.1.2.2.1) lk_L_81 rfl rfl (by decide) (by decide) rfl (Nat.le_of_ble_eq_true rfl) dL_law_648 (fun rv I2 L2 hq => ?_)
  obtain ⟨v, rfl, hx⟩ := hq
  have ev := hx.1
  subst ev
  refine L_aload_n dL_law_651 rfl ?_
  refine L_arg (q := 1) dL_law_652 dL_law_653 dL_law_654 dL_law_655 dL_law_656 (by decide) hi hn ?_
  refine L_callM (As := [.int (xs (i + 1))]) (k := 0) (ci := 11) (m_cards h.1.2.2.2 (xs (i + 1))) lk_L_84 rfl rfl (by decide) (by decide) rfl (Nat.le_of_ble_eq_true rfl) dL_law_657 (fun rv J2 M2 hq => ?_)
  obtain ⟨w, rfl, hm⟩ := hq
  obtain ⟨e, s2, b2, h2⟩ := h.go (sd_cards (xs (i + 1)) h.1.2.1) hx hm
  subst e
  exact L_icmp_eq 1196 dL_law_660 (by decide) (fun _ => next _ _ _ _ _ _ h2) (fun q => absurd rfl q)
theorem lc_17 (hi : i + 5 ≤ n) (hn : n ≤ 320) (h : lwR s b I L J M) (next : ∀ (s' : pS) (b' : Nat) (I' : fdI) (L' : fdL) (J' : fdI) (M' : fdL), lwR s' b' I' L' J' M' → LR αX αM a n xs 1196 (lwV αX αM a i) [] I' L' J' M') : LR αX αM a n xs 665 (lwV αX αM a i) [] I L J M := by
  refine L_aload_n dL_law_665 rfl ?_
  refine L_arg (q := 1) dL_law_666 dL_law_667 dL_law_668 dL_law_669 dL_law_670 (by decide) hi hn ?_
  refine L_callX (As := [.int (xs (i + 1))]) (k := 0) (ci := 10) (c_X10_hang s αX I L (xs (i + 1)) h.1.1 h.1.2.1 h.1.2.2.1) lk_L_85 rfl rfl (by decide) (by decide) rfl (Nat.le_of_ble_eq_true rfl) dL_law_671 (fun rv I2 L2 hq => ?_)
  obtain ⟨v, rfl, hx⟩ := hq
  have ev := hx.1
  subst ev
  refine L_aload_n dL_law_674 rfl ?_
  refine L_arg (q := 1) dL_law_675 dL_law_676 dL_law_677 dL_law_678 dL_law_679 (by decide) hi hn ?_
  refine L_callM (As := [.int (xs (i + 1))]) (k := 0) (ci := 11) (m_hang h.1.2.2.2 (xs (i + 1))) lk_L_88 rfl rfl (by decide) (by decide) rfl (Nat.le_of_ble_eq_true rfl) dL_law_680 (fun rv J2 M2 hq => ?_)
  obtain ⟨w, rfl, hm⟩ := hq
  obtain ⟨e, s2, b2, h2⟩ := h.go (sd_hang (xs (i + 1)) h.1.2.1) hx hm
  subst e
  exact L_icmp_eq 1196 dL_law_683 (by decide) (fun _ => next _ _ _ _ _ _ h2) (fun q => absurd rfl q)
theorem lc_18 (hi : i + 5 ≤ n) (hn : n ≤ 320) (h : lwR s b I L J M) (next : ∀ (s' : pS) (b' : Nat) (I' : fdI) (L' : fdL) (J' : fdI) (M' : fdL), lwR s' b' I' L' J' M' → LR αX αM a n xs 1196 (lwV αX αM a i) [] I' L' J' M') : LR αX αM a n xs 688 (lwV αX αM a i) [] I L J M := by
  refine L_aload_n dL_law_688 rfl ?_
  refine L_arg (q := 1) dL_law_689 dL_law_690 dL_law_691 dL_law_692 dL_law_693 (by decide) hi hn ?_
  refine L_callX (As := [.int (xs (i + 1))]) (k := 0) (ci := 10) (c_X10_must s αX I L (xs (i + 1)) h.1.1 h.1.2.1 h.1.2.2.1) lk_L_89 rfl rfl (by decide) (by decide) rfl (Nat.le_of_ble_eq_true rfl) dL_law_694 (fun rv I2 L2 hq => ?_)
  obtain ⟨v, rfl, hx⟩ := hq
  have ev := hx.1
  subst ev
  refine L_aload_n dL_law_697 rfl ?_
  refine L_arg (q := 1) dL_law_698 dL_law_699 dL_law_700 dL_law_701 dL_law_702 (by decide) hi hn ?_
  refine L_callM (As := [.int (xs (i + 1))]) (k := 0) (ci := 11) (m_must h.1.2.2.2 (xs (i + 1))) lk_L_92 rfl rfl (by decide) (by decide) rfl (Nat.le_of_ble_eq_true rfl) dL_law_703 (fun rv J2 M2 hq => ?_)
  obtain ⟨w, rfl, hm⟩ := hq
  obtain ⟨e, s2, b2, h2⟩ := h.go (sd_must (xs (i + 1)) h.1.2.1) hx hm
  subst e
  exact L_icmp_eq 1196 dL_law_706 (by decide) (fun _ => next _ _ _ _ _ _ h2) (fun q => absurd rfl q)
theorem lc_19 (hi : i + 5 ≤ n) (hn : n ≤ 320) (h : lwR s b I L J M) (next : ∀ (s' : pS) (b' : Nat) (I' : fdI) (L' : fdL) (J' : fdI) (M' : fdL), lwR s' b' I' L' J' M' → LR αX αM a n xs 1196 (lwV αX αM a i) [] I' L' J' M') : LR αX αM a n xs 711 (lwV αX αM a i) [] I L J M := by
  refine L_aload_n dL_law_711 rfl ?_
  refine L_arg (q := 1) dL_law_712 dL_law_713 dL_law_714 dL_law_715 dL_law_716 (by decide) hi hn ?_
  refine L_callX (As := [.int (xs (i + 1))]) (k := 0) (ci := 10) (c_X10_told s αX I L (xs (i + 1)) h.1.1 h.1.2.2.1) lk_L_93 rfl rfl (by decide) (by decide) rfl (Nat.le_of_ble_eq_true rfl) dL_law_717 (fun rv I2 L2 hq => ?_)
  obtain ⟨v, rfl, hx⟩ := hq
  have ev := hx.1
  subst ev
  refine L_aload_n dL_law_720 rfl ?_
  refine L_arg (q := 1) dL_law_721 dL_law_722 dL_law_723 dL_law_724 dL_law_725 (by decide) hi hn ?_
  refine L_callM (As := [.int (xs (i + 1))]) (k := 0) (ci := 11) (m_told h.1.2.2.2 (xs (i + 1))) lk_L_96 rfl rfl (by decide) (by decide) rfl (Nat.le_of_ble_eq_true rfl) dL_law_726 (fun rv J2 M2 hq => ?_)
  obtain ⟨w, rfl, hm⟩ := hq
  obtain ⟨e, s2, b2, h2⟩ := h.go (sd_told (xs (i + 1)) h.1.2.1) hx hm
  subst e
  exact L_icmp_eq 1196 dL_law_729 (by decide) (fun _ => next _ _ _ _ _ _ h2) (fun q => absurd rfl q)
theorem lc_20 (hi : i + 5 ≤ n) (hn : n ≤ 320) (h : lwR s b I L J M) (next : ∀ (s' : pS) (b' : Nat) (I' : fdI) (L' : fdL) (J' : fdI) (M' : fdL), lwR s' b' I' L' J' M' → LR αX αM a n xs 1196 (lwV αX αM a i) [] I' L' J' M') : LR αX αM a n xs 734 (lwV αX αM a i) [] I L J M := by
  refine L_aload_n dL_law_734 rfl ?_
  refine L_arg (q := 1) dL_law_735 dL_law_736 dL_law_737 dL_law_738 dL_law_739 (by decide) hi hn ?_
  refine L_callX (As := [.int (xs (i + 1))]) (k := 0) (ci := 10) (c_X10_notes s αX I L (xs (i + 1)) h.1.1 h.1.2.2.1) lk_L_97 rfl rfl (by decide) (by decide) rfl (Nat.le_of_ble_eq_true rfl) dL_law_740 (fun rv I2 L2 hq => ?_)
  obtain ⟨v, rfl, hx⟩ := hq
  have ev := hx.1
  subst ev
  refine L_aload_n dL_law_743 rfl ?_
  refine L_arg (q := 1) dL_law_744 dL_law_745 dL_law_746 dL_law_747 dL_law_748 (by decide) hi hn ?_
  refine L_callM (As := [.int (xs (i + 1))]) (k := 0) (ci := 11) (m_notes h.1.2.2.2 (xs (i + 1))) lk_L_100 rfl rfl (by decide) (by decide) rfl (Nat.le_of_ble_eq_true rfl) dL_law_749 (fun rv J2 M2 hq => ?_)
  obtain ⟨w, rfl, hm⟩ := hq
  obtain ⟨e, s2, b2, h2⟩ := h.go (sd_notes (xs (i + 1)) h.1.2.1) hx hm
  subst e
  exact L_icmp_eq 1196 dL_law_752 (by decide) (fun _ => next _ _ _ _ _ _ h2) (fun q => absurd rfl q)
theorem lc_21 (hi : i + 5 ≤ n) (hn : n ≤ 320) (h : lwR s b I L J M) (next : ∀ (s' : pS) (b' : Nat) (I' : fdI) (L' : fdL) (J' : fdI) (M' : fdL), lwR s' b' I' L' J' M' → LR αX αM a n xs 1196 (lwV αX αM a i) [] I' L' J' M') : LR αX αM a n xs 757 (lwV αX αM a i) [] I L J M := by
  refine L_aload_n dL_law_757 rfl ?_
  refine L_callX (As := []) (k := 0) (ci := 10) (c_X10_mean s αX I L  h.1.1 h.1.2.1 h.1.2.2.1) lk_L_101 rfl rfl (by decide) (by decide) rfl (Nat.le_of_ble_eq_true rfl) dL_law_758 (fun rv I2 L2 hq => ?_)
  obtain ⟨v, rfl, hx⟩ := hq
  have ev := hx.1.1
  subst ev
  refine L_aload_n dL_law_761 rfl ?_
  refine L_callM (As := []) (k := 0) (ci := 11) (m_mean h.1.2.2.2 ) lk_L_104 rfl rfl (by decide) (by decide) rfl (Nat.le_of_ble_eq_true rfl) dL_law_762 (fun rv J2 M2 hq => ?_)
  obtain ⟨w, rfl, hm⟩ := hq
  obtain ⟨e, s2, b2, h2⟩ := lw_outF h (sd_mean h.1.2.1) hx hm
  subst e
  exact L_icmp_eq 1196 dL_law_765 (by decide) (fun _ => next _ _ _ _ _ _ h2) (fun q => absurd rfl q)
theorem lc_22 (hi : i + 5 ≤ n) (hn : n ≤ 320) (h : lwR s b I L J M) (next : ∀ (s' : pS) (b' : Nat) (I' : fdI) (L' : fdL) (J' : fdI) (M' : fdL), lwR s' b' I' L' J' M' → LR αX αM a n xs 1196 (lwV αX αM a i) [] I' L' J' M') : LR αX αM a n xs 770 (lwV αX αM a i) [] I L J M := by
  refine L_aload_n dL_law_770 rfl ?_
  refine L_callX (As := []) (k := 0) (ci := 10) (c_X10_best s αX I L  h.1.1 h.1.2.1 h.1.2.2.1) lk_L_105 rfl rfl (by decide) (by decide) rfl (Nat.le_of_ble_eq_true rfl) dL_law_771 (fun rv I2 L2 hq => ?_)
  obtain ⟨v, rfl, hx⟩ := hq
  have ev := hx.1
  subst ev
  refine L_aload_n dL_law_774 rfl ?_
  refine L_callM (As := []) (k := 0) (ci := 11) (m_best h.1.2.2.2 ) lk_L_108 rfl rfl (by decide) (by decide) rfl (Nat.le_of_ble_eq_true rfl) dL_law_775 (fun rv J2 M2 hq => ?_)
  obtain ⟨w, rfl, hm⟩ := hq
  obtain ⟨e, s2, b2, h2⟩ := h.go (sd_best  h.1.2.1) hx hm
  subst e
  exact L_icmp_eq 1196 dL_law_778 (by decide) (fun _ => next _ _ _ _ _ _ h2) (fun q => absurd rfl q)
theorem lc_23 (hi : i + 5 ≤ n) (hn : n ≤ 320) (h : lwR s b I L J M) (next : ∀ (s' : pS) (b' : Nat) (I' : fdI) (L' : fdL) (J' : fdI) (M' : fdL), lwR s' b' I' L' J' M' → LR αX αM a n xs 1196 (lwV αX αM a i) [] I' L' J' M') : LR αX αM a n xs 783 (lwV αX αM a i) [] I L J M := by
  refine L_aload_n dL_law_783 rfl ?_
  refine L_arg (q := 1) dL_law_784 dL_law_785 dL_law_786 dL_law_787 dL_law_788 (by decide) hi hn ?_
  refine L_arg (q := 2) dL_law_789 dL_law_790 dL_law_791 dL_law_792 dL_law_793 (by decide) hi hn ?_
  refine L_callX (As := [.int (xs (i + 1)), .int (xs (i + 2))]) (k := 0) (ci := 10) (c_X10_when s αX I L (xs (i + 1)) (xs (i + 2)) h.1.1 h.1.2.1 h.1.2.2.1) lk_L_109 rfl rfl (by decide) (by decide) rfl (Nat.le_of_ble_eq_true rfl) dL_law_794 (fun rv I2 L2 hq => ?_)
  obtain ⟨v, rfl, hx⟩ := hq
  have ev := hx.1
  subst ev
  refine L_aload_n dL_law_797 rfl ?_
  refine L_arg (q := 1) dL_law_798 dL_law_799 dL_law_800 dL_law_801 dL_law_802 (by decide) hi hn ?_
  refine L_arg (q := 2) dL_law_803 dL_law_804 dL_law_805 dL_law_806 dL_law_807 (by decide) hi hn ?_
  refine L_callM (As := [.int (xs (i + 1)), .int (xs (i + 2))]) (k := 0) (ci := 11) (m_when h.1.2.2.2 (xs (i + 1)) (xs (i + 2))) lk_L_112 rfl rfl (by decide) (by decide) rfl (Nat.le_of_ble_eq_true rfl) dL_law_808 (fun rv J2 M2 hq => ?_)
  obtain ⟨w, rfl, hm⟩ := hq
  obtain ⟨e, s2, b2, h2⟩ := h.go (sd_when (xs (i + 1)) (xs (i + 2)) h.1.2.1) hx hm
  subst e
  exact L_icmp_eq 1196 dL_law_811 (by decide) (fun _ => next _ _ _ _ _ _ h2) (fun q => absurd rfl q)
theorem lc_24 (hi : i + 5 ≤ n) (hn : n ≤ 320) (h : lwR s b I L J M) (next : ∀ (s' : pS) (b' : Nat) (I' : fdI) (L' : fdL) (J' : fdI) (M' : fdL), lwR s' b' I' L' J' M' → LR αX αM a n xs 1196 (lwV αX αM a i) [] I' L' J' M') : LR αX αM a n xs 816 (lwV αX αM a i) [] I L J M := by
  refine L_aload_n dL_law_816 rfl ?_
  refine L_arg (q := 1) dL_law_817 dL_law_818 dL_law_819 dL_law_820 dL_law_821 (by decide) hi hn ?_
  refine L_arg (q := 2) dL_law_822 dL_law_823 dL_law_824 dL_law_825 dL_law_826 (by decide) hi hn ?_
  refine L_callX (As := [.int (xs (i + 1)), .int (xs (i + 2))]) (k := 0) (ci := 10) (c_X10_diary s αX I L (xs (i + 1)) (xs (i + 2)) h.1.1 h.1.2.2.1) lk_L_113 rfl rfl (by decide) (by decide) rfl (Nat.le_of_ble_eq_true rfl) dL_law_827 (fun rv I2 L2 hq => ?_)
  obtain ⟨v, rfl, hx⟩ := hq
  have ev := hx.1
  subst ev
  refine L_aload_n dL_law_830 rfl ?_
  refine L_arg (q := 1) dL_law_831 dL_law_832 dL_law_833 dL_law_834 dL_law_835 (by decide) hi hn ?_
  refine L_arg (q := 2) dL_law_836 dL_law_837 dL_law_838 dL_law_839 dL_law_840 (by decide) hi hn ?_
  refine L_callM (As := [.int (xs (i + 1)), .int (xs (i + 2))]) (k := 0) (ci := 11) (m_diary h.1.2.2.2 (xs (i + 1)) (xs (i + 2))) lk_L_116 rfl rfl (by decide) (by decide) rfl (Nat.le_of_ble_eq_true rfl) dL_law_841 (fun rv J2 M2 hq => ?_)
  obtain ⟨w, rfl, hm⟩ := hq
  obtain ⟨e, s2, b2, h2⟩ := h.go (sd_diary (xs (i + 1)) (xs (i + 2)) h.1.2.1) hx hm
  subst e
  exact L_icmp_eq 1196 dL_law_844 (by decide) (fun _ => next _ _ _ _ _ _ h2) (fun q => absurd rfl q)
theorem lc_25 (hi : i + 5 ≤ n) (hn : n ≤ 320) (h : lwR s b I L J M) (next : ∀ (s' : pS) (b' : Nat) (I' : fdI) (L' : fdL) (J' : fdI) (M' : fdL), lwR s' b' I' L' J' M' → LR αX αM a n xs 1196 (lwV αX αM a i) [] I' L' J' M') : LR αX αM a n xs 849 (lwV αX αM a i) [] I L J M := by
  refine L_aload_n dL_law_849 rfl ?_
  refine L_arg (q := 1) dL_law_850 dL_law_851 dL_law_852 dL_law_853 dL_law_854 (by decide) hi hn ?_
  refine L_callX (As := [.int (xs (i + 1))]) (k := 0) (ci := 10) (c_X10_torn s αX I L (xs (i + 1)) h.1.1 h.1.2.1 h.1.2.2.1) lk_L_117 rfl rfl (by decide) (by decide) rfl (Nat.le_of_ble_eq_true rfl) dL_law_855 (fun rv I2 L2 hq => ?_)
  obtain ⟨v, rfl, hx⟩ := hq
  have ev := hx.1
  subst ev
  refine L_aload_n dL_law_858 rfl ?_
  refine L_arg (q := 1) dL_law_859 dL_law_860 dL_law_861 dL_law_862 dL_law_863 (by decide) hi hn ?_
  refine L_callM (As := [.int (xs (i + 1))]) (k := 0) (ci := 11) (m_torn h.1.2.2.2 (xs (i + 1))) lk_L_120 rfl rfl (by decide) (by decide) rfl (Nat.le_of_ble_eq_true rfl) dL_law_864 (fun rv J2 M2 hq => ?_)
  obtain ⟨w, rfl, hm⟩ := hq
  obtain ⟨e, s2, b2, h2⟩ := h.go (sd_torn (xs (i + 1)) h.1.2.1) hx hm
  subst e
  exact L_icmp_eq 1196 dL_law_867 (by decide) (fun _ => next _ _ _ _ _ _ h2) (fun q => absurd rfl q)
theorem lc_26 (hi : i + 5 ≤ n) (hn : n ≤ 320) (h : lwR s b I L J M) (next : ∀ (s' : pS) (b' : Nat) (I' : fdI) (L' : fdL) (J' : fdI) (M' : fdL), lwR s' b' I' L' J' M' → LR αX αM a n xs 1196 (lwV αX αM a i) [] I' L' J' M') : LR αX αM a n xs 872 (lwV αX αM a i) [] I L J M := by
  refine L_aload_n dL_law_872 rfl ?_
  refine L_arg (q := 1) dL_law_873 dL_law_874 dL_law_875 dL_law_876 dL_law_877 (by decide) hi hn ?_
  refine L_arg (q := 2) dL_law_878 dL_law_879 dL_law_880 dL_law_881 dL_law_882 (by decide) hi hn ?_
  refine L_arg (q := 3) dL_law_883 dL_law_884 dL_law_885 dL_law_886 dL_law_887 (by decide) hi hn ?_
  refine L_callX (As := [.int (xs (i + 1)), .int (xs (i + 2)), .int (xs (i + 3))]) (k := 0) (ci := 10) (c_X10_promise s αX I L (xs (i + 1)) (xs (i + 2)) (xs (i + 3)) h.1.1 h.1.2.2.1) lk_L_121 rfl rfl (by decide) (by decide) rfl (Nat.le_of_ble_eq_true rfl) dL_law_888 (fun rv I2 L2 hq => ?_)
  obtain ⟨v, rfl, hx⟩ := hq
  have ev := hx.1.1
  subst ev
  refine L_aload_n dL_law_891 rfl ?_
  refine L_arg (q := 1) dL_law_892 dL_law_893 dL_law_894 dL_law_895 dL_law_896 (by decide) hi hn ?_
  refine L_arg (q := 2) dL_law_897 dL_law_898 dL_law_899 dL_law_900 dL_law_901 (by decide) hi hn ?_
  refine L_arg (q := 3) dL_law_902 dL_law_903 dL_law_904 dL_law_905 dL_law_906 (by decide) hi hn ?_
  refine L_callM (As := [.int (xs (i + 1)), .int (xs (i + 2)), .int (xs (i + 3))]) (k := 0) (ci := 11) (m_promise h.1.2.2.2 (xs (i + 1)) (xs (i + 2)) (xs (i + 3))) lk_L_125 rfl rfl (by decide) (by decide) rfl (Nat.le_of_ble_eq_true rfl) dL_law_907 (fun rv J2 M2 hq => ?_)
  obtain ⟨w, rfl, hm⟩ := hq
  obtain ⟨e, s2, b2, h2⟩ := lw_outF h (sd_promise (xs (i + 1)) (xs (i + 2)) (xs (i + 3)) h.1.2.1) hx hm
  subst e
  exact L_icmp_eq 1196 dL_law_910 (by decide) (fun _ => next _ _ _ _ _ _ h2) (fun q => absurd rfl q)
theorem lc_27 (hi : i + 5 ≤ n) (hn : n ≤ 320) (h : lwR s b I L J M) (next : ∀ (s' : pS) (b' : Nat) (I' : fdI) (L' : fdL) (J' : fdI) (M' : fdL), lwR s' b' I' L' J' M' → LR αX αM a n xs 1196 (lwV αX αM a i) [] I' L' J' M') : LR αX αM a n xs 915 (lwV αX αM a i) [] I L J M := by
  refine L_aload_n dL_law_915 rfl ?_
  refine L_arg (q := 1) dL_law_916 dL_law_917 dL_law_918 dL_law_919 dL_law_920 (by decide) hi hn ?_
  refine L_callX (As := [.int (xs (i + 1))]) (k := 0) (ci := 10) (c_X10_other s αX I L (xs (i + 1)) h.1.1 h.1.2.2.1) lk_L_126 rfl rfl (by decide) (by decide) rfl (Nat.le_of_ble_eq_true rfl) dL_law_921 (fun rv I2 L2 hq => ?_)
  obtain ⟨v, rfl, hx⟩ := hq
  have ev := hx.1
  subst ev
  refine L_aload_n dL_law_924 rfl ?_
  refine L_arg (q := 1) dL_law_925 dL_law_926 dL_law_927 dL_law_928 dL_law_929 (by decide) hi hn ?_
  refine L_callM (As := [.int (xs (i + 1))]) (k := 0) (ci := 11) (m_other h.1.2.2.2 (xs (i + 1))) lk_L_129 rfl rfl (by decide) (by decide) rfl (Nat.le_of_ble_eq_true rfl) dL_law_930 (fun rv J2 M2 hq => ?_)
  obtain ⟨w, rfl, hm⟩ := hq
  obtain ⟨e, s2, b2, h2⟩ := h.go (sd_other (xs (i + 1)) h.1.2.1) hx hm
  subst e
  exact L_icmp_eq 1196 dL_law_933 (by decide) (fun _ => next _ _ _ _ _ _ h2) (fun q => absurd rfl q)
theorem lc_28 (hi : i + 5 ≤ n) (hn : n ≤ 320) (h : lwR s b I L J M) (next : ∀ (s' : pS) (b' : Nat) (I' : fdI) (L' : fdL) (J' : fdI) (M' : fdL), lwR s' b' I' L' J' M' → LR αX αM a n xs 1196 (lwV αX αM a i) [] I' L' J' M') : LR αX αM a n xs 938 (lwV αX αM a i) [] I L J M := by
  refine L_aload_n dL_law_938 rfl ?_
  refine L_arg (q := 1) dL_law_939 dL_law_940 dL_law_941 dL_law_942 dL_law_943 (by decide) hi hn ?_
  refine L_callX (As := [.int (xs (i + 1))]) (k := 0) (ci := 10) (c_X10_two s αX I L (xs (i + 1)) h.1.1 h.1.2.2.1) lk_L_130 rfl rfl (by decide) (by decide) rfl (Nat.le_of_ble_eq_true rfl) dL_law_944 (fun rv I2 L2 hq => ?_)
  obtain ⟨v, rfl, hx⟩ := hq
  have ev := hx.1
  subst ev
  refine L_aload_n dL_law_947 rfl ?_
  refine L_arg (q := 1) dL_law_948 dL_law_949 dL_law_950 dL_law_951 dL_law_952 (by decide) hi hn ?_
  refine L_callM (As := [.int (xs (i + 1))]) (k := 0) (ci := 11) (m_two h.1.2.2.2 (xs (i + 1))) lk_L_133 rfl rfl (by decide) (by decide) rfl (Nat.le_of_ble_eq_true rfl) dL_law_953 (fun rv J2 M2 hq => ?_)
  obtain ⟨w, rfl, hm⟩ := hq
  obtain ⟨e, s2, b2, h2⟩ := h.go (sd_two (xs (i + 1)) h.1.2.1) hx hm
  subst e
  exact L_icmp_eq 1196 dL_law_956 (by decide) (fun _ => next _ _ _ _ _ _ h2) (fun q => absurd rfl q)
theorem lc_29 (hi : i + 5 ≤ n) (hn : n ≤ 320) (h : lwR s b I L J M) (next : ∀ (s' : pS) (b' : Nat) (I' : fdI) (L' : fdL) (J' : fdI) (M' : fdL), lwR s' b' I' L' J' M' → LR αX αM a n xs 1196 (lwV αX αM a i) [] I' L' J' M') : LR αX αM a n xs 961 (lwV αX αM a i) [] I L J M := by
  refine L_aload_n dL_law_961 rfl ?_
  refine L_arg (q := 1) dL_law_962 dL_law_963 dL_law_964 dL_law_965 dL_law_966 (by decide) hi hn ?_
  refine L_arg (q := 2) dL_law_967 dL_law_968 dL_law_969 dL_law_970 dL_law_971 (by decide) hi hn ?_
  refine L_callX (As := [.int (xs (i + 1)), .int (xs (i + 2))]) (k := 0) (ci := 10) (c_X10_settle s αX I L (xs (i + 1)) (xs (i + 2)) h.1.1 h.1.2.2.1) lk_L_134 rfl rfl (by decide) (by decide) rfl (Nat.le_of_ble_eq_true rfl) dL_law_972 (fun rv I2 L2 hq => ?_)
  obtain ⟨v, rfl, hx⟩ := hq
  have ev := hx.1
  subst ev
  refine L_aload_n dL_law_975 rfl ?_
  refine L_arg (q := 1) dL_law_976 dL_law_977 dL_law_978 dL_law_979 dL_law_980 (by decide) hi hn ?_
  refine L_arg (q := 2) dL_law_981 dL_law_982 dL_law_983 dL_law_984 dL_law_985 (by decide) hi hn ?_
  refine L_callM (As := [.int (xs (i + 1)), .int (xs (i + 2))]) (k := 0) (ci := 11) (m_settle h.1.2.2.2 (xs (i + 1)) (xs (i + 2))) lk_L_137 rfl rfl (by decide) (by decide) rfl (Nat.le_of_ble_eq_true rfl) dL_law_986 (fun rv J2 M2 hq => ?_)
  obtain ⟨w, rfl, hm⟩ := hq
  obtain ⟨e, s2, b2, h2⟩ := h.go (sd_settle (xs (i + 1)) (xs (i + 2)) h.1.2.1) hx hm
  subst e
  exact L_icmp_eq 1196 dL_law_989 (by decide) (fun _ => next _ _ _ _ _ _ h2) (fun q => absurd rfl q)
theorem lc_30 (hi : i + 5 ≤ n) (hn : n ≤ 320) (h : lwR s b I L J M) (next : ∀ (s' : pS) (b' : Nat) (I' : fdI) (L' : fdL) (J' : fdI) (M' : fdL), lwR s' b' I' L' J' M' → LR αX αM a n xs 1196 (lwV αX αM a i) [] I' L' J' M') : LR αX αM a n xs 994 (lwV αX αM a i) [] I L J M := by
  refine L_aload_n dL_law_994 rfl ?_
  refine L_arg (q := 1) dL_law_995 dL_law_996 dL_law_997 dL_law_998 dL_law_999 (by decide) hi hn ?_
  refine L_callX (As := [.int (xs (i + 1))]) (k := 0) (ci := 10) (c_X10_game s αX I L (xs (i + 1)) h.1.1 h.1.2.2.1) lk_L_138 rfl rfl (by decide) (by decide) rfl (Nat.le_of_ble_eq_true rfl) dL_law_1000 (fun rv I2 L2 hq => ?_)
  obtain ⟨v, rfl, hx⟩ := hq
  have ev := hx.1
  subst ev
  refine L_aload_n dL_law_1003 rfl ?_
  refine L_arg (q := 1) dL_law_1004 dL_law_1005 dL_law_1006 dL_law_1007 dL_law_1008 (by decide) hi hn ?_
  refine L_callM (As := [.int (xs (i + 1))]) (k := 0) (ci := 11) (m_game h.1.2.2.2 (xs (i + 1))) lk_L_141 rfl rfl (by decide) (by decide) rfl (Nat.le_of_ble_eq_true rfl) dL_law_1009 (fun rv J2 M2 hq => ?_)
  obtain ⟨w, rfl, hm⟩ := hq
  obtain ⟨e, s2, b2, h2⟩ := h.go (sd_game (xs (i + 1)) h.1.2.1) hx hm
  subst e
  exact L_icmp_eq 1196 dL_law_1012 (by decide) (fun _ => next _ _ _ _ _ _ h2) (fun q => absurd rfl q)
theorem lc_31 (hi : i + 5 ≤ n) (hn : n ≤ 320) (h : lwR s b I L J M) (next : ∀ (s' : pS) (b' : Nat) (I' : fdI) (L' : fdL) (J' : fdI) (M' : fdL), lwR s' b' I' L' J' M' → LR αX αM a n xs 1196 (lwV αX αM a i) [] I' L' J' M') : LR αX αM a n xs 1017 (lwV αX αM a i) [] I L J M := by
  refine L_aload_n dL_law_1017 rfl ?_
  refine L_callX (As := []) (k := 0) (ci := 10) (c_X10_live s αX I L  h.1.1 h.1.2.2.1) lk_L_142 rfl rfl (by decide) (by decide) rfl (Nat.le_of_ble_eq_true rfl) dL_law_1018 (fun rv I2 L2 hq => ?_)
  obtain ⟨v, rfl, hx⟩ := hq
  have ev := hx.1
  subst ev
  refine L_aload_n dL_law_1021 rfl ?_
  refine L_callM (As := []) (k := 0) (ci := 11) (m_live h.1.2.2.2 ) lk_L_145 rfl rfl (by decide) (by decide) rfl (Nat.le_of_ble_eq_true rfl) dL_law_1022 (fun rv J2 M2 hq => ?_)
  obtain ⟨w, rfl, hm⟩ := hq
  obtain ⟨e, s2, b2, h2⟩ := h.go (sd_live  h.1.2.1) hx hm
  subst e
  exact L_icmp_eq 1196 dL_law_1025 (by decide) (fun _ => next _ _ _ _ _ _ h2) (fun q => absurd rfl q)
theorem lc_32 (hi : i + 5 ≤ n) (hn : n ≤ 320) (h : lwR s b I L J M) (next : ∀ (s' : pS) (b' : Nat) (I' : fdI) (L' : fdL) (J' : fdI) (M' : fdL), lwR s' b' I' L' J' M' → LR αX αM a n xs 1196 (lwV αX αM a i) [] I' L' J' M') : LR αX αM a n xs 1030 (lwV αX αM a i) [] I L J M := by
  refine L_aload_n dL_law_1030 rfl ?_
  refine L_callX (As := []) (k := 0) (ci := 10) (c_X10_undo s αX I L  h.1.1 h.1.2.2.1) lk_L_146 rfl rfl (by decide) (by decide) rfl (Nat.le_of_ble_eq_true rfl) dL_law_1031 (fun rv I2 L2 hq => ?_)
  obtain ⟨v, rfl, hx⟩ := hq
  have ev := hx.1
  subst ev
  refine L_aload_n dL_law_1034 rfl ?_
  refine L_callM (As := []) (k := 0) (ci := 11) (m_undo h.1.2.2.2 ) lk_L_149 rfl rfl (by decide) (by decide) rfl (Nat.le_of_ble_eq_true rfl) dL_law_1035 (fun rv J2 M2 hq => ?_)
  obtain ⟨w, rfl, hm⟩ := hq
  obtain ⟨e, s2, b2, h2⟩ := h.go (sd_undo  h.1.2.1) hx hm
  subst e
  exact L_icmp_eq 1196 dL_law_1038 (by decide) (fun _ => next _ _ _ _ _ _ h2) (fun q => absurd rfl q)
theorem lc_33 (hi : i + 5 ≤ n) (hn : n ≤ 320) (h : lwR s b I L J M) (next : ∀ (s' : pS) (b' : Nat) (I' : fdI) (L' : fdL) (J' : fdI) (M' : fdL), lwR s' b' I' L' J' M' → LR αX αM a n xs 1196 (lwV αX αM a i) [] I' L' J' M') : LR αX αM a n xs 1043 (lwV αX αM a i) [] I L J M := by
  refine L_aload_n dL_law_1043 rfl ?_
  refine L_arg (q := 1) dL_law_1044 dL_law_1045 dL_law_1046 dL_law_1047 dL_law_1048 (by decide) hi hn ?_
  refine L_callX (As := [.int (xs (i + 1))]) (k := 0) (ci := 10) (c_X10_sofar s αX I L (xs (i + 1)) h.1.1 h.1.2.2.1) lk_L_150 rfl rfl (by decide) (by decide) rfl (Nat.le_of_ble_eq_true rfl) dL_law_1049 (fun rv I2 L2 hq => ?_)
  obtain ⟨v, rfl, hx⟩ := hq
  have ev := hx.1
  subst ev
  refine L_aload_n dL_law_1052 rfl ?_
  refine L_arg (q := 1) dL_law_1053 dL_law_1054 dL_law_1055 dL_law_1056 dL_law_1057 (by decide) hi hn ?_
  refine L_callM (As := [.int (xs (i + 1))]) (k := 0) (ci := 11) (m_sofar h.1.2.2.2 (xs (i + 1))) lk_L_153 rfl rfl (by decide) (by decide) rfl (Nat.le_of_ble_eq_true rfl) dL_law_1058 (fun rv J2 M2 hq => ?_)
  obtain ⟨w, rfl, hm⟩ := hq
  obtain ⟨e, s2, b2, h2⟩ := h.go (sd_sofar (xs (i + 1)) h.1.2.1) hx hm
  subst e
  exact L_icmp_eq 1196 dL_law_1061 (by decide) (fun _ => next _ _ _ _ _ _ h2) (fun q => absurd rfl q)
theorem lc_34 (hi : i + 5 ≤ n) (hn : n ≤ 320) (h : lwR s b I L J M) (next : ∀ (s' : pS) (b' : Nat) (I' : fdI) (L' : fdL) (J' : fdI) (M' : fdL), lwR s' b' I' L' J' M' → LR αX αM a n xs 1196 (lwV αX αM a i) [] I' L' J' M') : LR αX αM a n xs 1066 (lwV αX αM a i) [] I L J M := by
  refine L_aload_n dL_law_1066 rfl ?_
  refine L_arg (q := 1) dL_law_1067 dL_law_1068 dL_law_1069 dL_law_1070 dL_law_1071 (by decide) hi hn ?_
  refine L_callX (As := [.int (xs (i + 1))]) (k := 0) (ci := 10) (c_X10_part αX I L (xs (i + 1))) lk_L_154 rfl rfl (by decide) (by decide) rfl (Nat.le_of_ble_eq_true rfl) dL_law_1072 (fun rv I2 L2 hq => ?_)
  obtain ⟨rfl, rfl, rfl⟩ := hq
  refine L_aload_n dL_law_1075 rfl ?_
  refine L_arg (q := 1) dL_law_1076 dL_law_1077 dL_law_1078 dL_law_1079 dL_law_1080 (by decide) hi hn ?_
  refine L_callM (As := [.int (xs (i + 1))]) (k := 0) (ci := 11) (c_X11_part αM J M (xs (i + 1))) lk_L_158 rfl rfl (by decide) (by decide) rfl (Nat.le_of_ble_eq_true rfl) dL_law_1081 (fun rv J2 M2 hq => ?_)
  obtain ⟨rfl, rfl, rfl⟩ := hq
  obtain ⟨e, s2, b2, h2⟩ := lw_part h (xs (i + 1))
  rw [Value.long.inj e]
  refine L_lcmp dL_law_1084 ?_
  refine L_if_eq 1196 dL_law_1085 (by decide) (fun _ => next _ _ _ _ _ _ h2) (fun q => absurd (lwC _) q)
theorem lc_35 (hi : i + 5 ≤ n) (hn : n ≤ 320) (h : lwR s b I L J M) (next : ∀ (s' : pS) (b' : Nat) (I' : fdI) (L' : fdL) (J' : fdI) (M' : fdL), lwR s' b' I' L' J' M' → LR αX αM a n xs 1196 (lwV αX αM a i) [] I' L' J' M') : LR αX αM a n xs 1090 (lwV αX αM a i) [] I L J M := by
  refine L_aload_n dL_law_1090 rfl ?_
  refine L_arg (q := 1) dL_law_1091 dL_law_1092 dL_law_1093 dL_law_1094 dL_law_1095 (by decide) hi hn ?_
  refine L_callX (As := [.int (xs (i + 1))]) (k := 0) (ci := 10) (c_X10_image αX I L (xs (i + 1))) lk_L_159 rfl rfl (by decide) (by decide) rfl (Nat.le_of_ble_eq_true rfl) dL_law_1096 (fun rv I2 L2 hq => ?_)
  obtain ⟨v, rfl, hx⟩ := hq
  obtain ⟨x, rfl⟩ : ∃ x : Int32, v = .int x := by
    by_cases q : dayP (xs (i + 1)) 2
    · exact ⟨_, (hx.2.1 q).1⟩
    · exact ⟨_, (hx.2.2 q).1⟩
  refine L_aload_n dL_law_1099 rfl ?_
  refine L_arg (q := 1) dL_law_1100 dL_law_1101 dL_law_1102 dL_law_1103 dL_law_1104 (by decide) hi hn ?_
  refine L_callM (As := [.int (xs (i + 1))]) (k := 0) (ci := 11) (c_X11_image αM J M (xs (i + 1))) lk_L_162 rfl rfl (by decide) (by decide) rfl (Nat.le_of_ble_eq_true rfl) dL_law_1105 (fun rv J2 M2 hq => ?_)
  obtain ⟨rfl, rfl, rfl⟩ := hq
  obtain ⟨e, s2, b2, h2⟩ := lw_image h (xs (i + 1)) hx
  have e := Value.int.inj e
  subst e
  exact L_icmp_eq 1196 dL_law_1108 (by decide) (fun _ => next _ _ _ _ _ _ h2) (fun q => absurd rfl q)
theorem lc_36 (hi : i + 5 ≤ n) (hn : n ≤ 320) (h : lwR s b I L J M) (next : ∀ (s' : pS) (b' : Nat) (I' : fdI) (L' : fdL) (J' : fdI) (M' : fdL), lwR s' b' I' L' J' M' → LR αX αM a n xs 1196 (lwV αX αM a i) [] I' L' J' M') : LR αX αM a n xs 1113 (lwV αX αM a i) [] I L J M := by
  refine L_aload_n dL_law_1113 rfl ?_
  refine L_arg (q := 1) dL_law_1114 dL_law_1115 dL_law_1116 dL_law_1117 dL_law_1118 (by decide) hi hn ?_
  refine L_callX (As := [.int (xs (i + 1))]) (k := 0) (ci := 10) (c_X10_from αX I L (xs (i + 1))) lk_L_163 rfl rfl (by decide) (by decide) rfl (Nat.le_of_ble_eq_true rfl) dL_law_1119 (fun rv I2 L2 hq => ?_)
  obtain ⟨v, rfl, hx⟩ := hq
  obtain ⟨x, rfl⟩ : ∃ x : Int32, v = .int x := by
    by_cases q : dayP (xs (i + 1)) 2
    · by_cases q2 : I 53 (xs (i + 1)).toNatClampNeg = 0
      · exact ⟨_, ((hx.2.1 q).1 q2).1⟩
      · exact ⟨_, ((hx.2.1 q).2 q2).1⟩
    · exact ⟨_, (hx.2.2 q).1⟩
  refine L_aload_n dL_law_1122 rfl ?_
  refine L_arg (q := 1) dL_law_1123 dL_law_1124 dL_law_1125 dL_law_1126 dL_law_1127 (by decide) hi hn ?_
  refine L_callM (As := [.int (xs (i + 1))]) (k := 0) (ci := 11) (c_X11_from αM J M (xs (i + 1))) lk_L_166 rfl rfl (by decide) (by decide) rfl (Nat.le_of_ble_eq_true rfl) dL_law_1128 (fun rv J2 M2 hq => ?_)
  obtain ⟨rfl, rfl, rfl⟩ := hq
  obtain ⟨e, s2, b2, h2⟩ := lw_from h (xs (i + 1)) hx
  have e := Value.int.inj e
  subst e
  exact L_icmp_eq 1196 dL_law_1131 (by decide) (fun _ => next _ _ _ _ _ _ h2) (fun q => absurd rfl q)
theorem lc_37 (hi : i + 5 ≤ n) (hn : n ≤ 320) (h : lwR s b I L J M) (next : ∀ (s' : pS) (b' : Nat) (I' : fdI) (L' : fdL) (J' : fdI) (M' : fdL), lwR s' b' I' L' J' M' → LR αX αM a n xs 1196 (lwV αX αM a i) [] I' L' J' M') : LR αX αM a n xs 1136 (lwV αX αM a i) [] I L J M := by
  refine L_aload_n dL_law_1136 rfl ?_
  refine L_arg (q := 1) dL_law_1137 dL_law_1138 dL_law_1139 dL_law_1140 dL_law_1141 (by decide) hi hn ?_
  refine L_callX (As := [.int (xs (i + 1))]) (k := 0) (ci := 10) (c_X10_status αX I L (xs (i + 1))) lk_L_167 rfl rfl (by decide) (by decide) rfl (Nat.le_of_ble_eq_true rfl) dL_law_1142 (fun rv I2 L2 hq => ?_)
  obtain ⟨rfl, rfl, rfl⟩ := hq
  refine L_aload_n dL_law_1145 rfl ?_
  refine L_arg (q := 1) dL_law_1146 dL_law_1147 dL_law_1148 dL_law_1149 dL_law_1150 (by decide) hi hn ?_
  refine L_callM (As := [.int (xs (i + 1))]) (k := 0) (ci := 11) (c_X11_status αM J M (xs (i + 1))) lk_L_170 rfl rfl (by decide) (by decide) rfl (Nat.le_of_ble_eq_true rfl) dL_law_1151 (fun rv J2 M2 hq => ?_)
  obtain ⟨rfl, rfl, rfl⟩ := hq
  obtain ⟨e, s2, b2, h2⟩ := lw_status h (xs (i + 1))
  rw [Value.int.inj e]
  exact L_icmp_eq 1196 dL_law_1154 (by decide) (fun _ => next _ _ _ _ _ _ h2) (fun q => absurd rfl q)
theorem lc_38 (hi : i + 5 ≤ n) (hn : n ≤ 320) (h : lwR s b I L J M) (next : ∀ (s' : pS) (b' : Nat) (I' : fdI) (L' : fdL) (J' : fdI) (M' : fdL), lwR s' b' I' L' J' M' → LR αX αM a n xs 1196 (lwV αX αM a i) [] I' L' J' M') : LR αX αM a n xs 1159 (lwV αX αM a i) [] I L J M := by
  refine L_aload_n dL_law_1159 rfl ?_
  refine L_arg (q := 1) dL_law_1160 dL_law_1161 dL_law_1162 dL_law_1163 dL_law_1164 (by decide) hi hn ?_
  refine L_callX (As := [.int (xs (i + 1))]) (k := 0) (ci := 10) (c_X10_count s αX I L (xs (i + 1)) h.2.1.2.1 h.2.1.1 h.1.1 h.1.2.2.1) lk_L_171 rfl rfl (by decide) (by decide) rfl (Nat.le_of_ble_eq_true rfl) dL_law_1165 (fun rv I2 L2 hq => ?_)
  obtain ⟨v, rfl, hx⟩ := hq
  have ev := hx.1
  subst ev
  refine L_aload_n dL_law_1168 rfl ?_
  refine L_arg (q := 1) dL_law_1169 dL_law_1170 dL_law_1171 dL_law_1172 dL_law_1173 (by decide) hi hn ?_
  refine L_callM (As := [.int (xs (i + 1))]) (k := 0) (ci := 11) (m_count h.1.2.2.2 b h.2.1.2.2.1 (xs (i + 1))) lk_L_174 rfl rfl (by decide) (by decide) rfl (Nat.le_of_ble_eq_true rfl) dL_law_1174 (fun rv J2 M2 hq => ?_)
  obtain ⟨w, rfl, hm⟩ := hq
  obtain ⟨e, s2, b2, h2⟩ := h.go (sd_count b (xs (i + 1)) h.1.2.1) hx hm
  subst e
  exact L_icmp_eq 1196 dL_law_1177 (by decide) (fun _ => next _ _ _ _ _ _ h2) (fun q => absurd rfl q)
theorem lc_39 (hi : i + 5 ≤ n) (hn : n ≤ 320) (h : lwR s b I L J M) (next : ∀ (s' : pS) (b' : Nat) (I' : fdI) (L' : fdL) (J' : fdI) (M' : fdL), lwR s' b' I' L' J' M' → LR αX αM a n xs 1196 (lwV αX αM a i) [] I' L' J' M') : LR αX αM a n xs 1182 (lwV αX αM a i) [] I L J M := by
  refine L_aload_n dL_law_1182 rfl ?_
  refine L_callX (As := []) (k := 0) (ci := 10) (c_X10_digest s αX I L h.1.1 h.1.2.2.1) lk_L_175 rfl rfl (by decide) (by decide) rfl (Nat.le_of_ble_eq_true rfl) dL_law_1183 (fun rv I2 L2 hq => ?_)
  obtain ⟨rfl, rfl, rfl⟩ := hq
  refine L_aload_n dL_law_1186 rfl ?_
  refine L_callM (As := []) (k := 0) (ci := 11) (c_X11_digest s.1 αM J M h.1.2.2.2.mk'.1 h.1.2.2.2.mk'.2.1 h.1.1.num.2.2.2.1) lk_L_179 rfl rfl (by decide) (by decide) rfl (Nat.le_of_ble_eq_true rfl) dL_law_1187 (fun rv J2 M2 hq => ?_)
  obtain ⟨w, rfl, hm⟩ := hq
  obtain ⟨e, s2, b2, h2⟩ := lw_digest h hm
  subst e
  refine L_lcmp dL_law_1190 ?_
  refine L_if_eq 1196 dL_law_1191 (by decide) (fun _ => next _ _ _ _ _ _ h2) (fun q => absurd (lwC _) q)
end LAWC
