set_option maxRecDepth 20000 in
theorem gl_X5_init : GoodIn lw_tbl wsX5_init := goodIn_sub in_wsX5_init (by decide +kernel)
set_option maxRecDepth 20000 in
theorem gl_X6_init : GoodIn lw_tbl wsX6_init := goodIn_sub in_wsX6_init (by decide +kernel)
set_option maxRecDepth 20000 in
theorem gl_X5_count : GoodIn lw_tbl (wsV RL 13 RX5 yX5_count wsX5_count) := goodIn_sub (fa (fc tw_148 (fc tw_149 (fc tw_150 (fc tw_151 fz)))) in_wsX5_count) (by decide +kernel)
set_option maxRecDepth 20000 in
theorem gl_X6_count : GoodIn lw_tbl (wsV RL 17 RX6 yX6_count wsX6_count) := goodIn_sub (fa (fc tw_167 (fc tw_168 (fc tw_169 (fc tw_105 fz)))) in_wsX6_count) (by decide +kernel)
set_option maxRecDepth 20000 in
theorem gl_X5_court : GoodIn lw_tbl (wsV RL 18 RX5 yX5_court wsX5_court) := goodIn_sub (fa (fc tw_183 (fc tw_184 (fc tw_185 (fc tw_151 fz)))) in_wsX5_court) (by decide +kernel)
set_option maxRecDepth 20000 in
theorem gl_X6_court : GoodIn lw_tbl (wsV RL 22 RX6 yX6_court wsX6_court) := goodIn_sub (fa (fc tw_191 (fc tw_192 (fc tw_193 (fc tw_105 fz)))) in_wsX6_court) (by decide +kernel)
set_option maxRecDepth 20000 in
theorem gl_X5_bench : GoodIn lw_tbl (wsV RL 23 RX5 yX5_bench wsX5_bench) := goodIn_sub (fa (fc tw_204 (fc tw_205 (fc tw_206 (fc tw_151 fz)))) in_wsX5_bench) (by decide +kernel)
set_option maxRecDepth 20000 in
theorem gl_X6_bench : GoodIn lw_tbl (wsV RL 27 RX6 yX6_bench wsX6_bench) := goodIn_sub (fa (fc tw_212 (fc tw_213 (fc tw_214 (fc tw_105 fz)))) in_wsX6_bench) (by decide +kernel)
set_option maxRecDepth 20000 in
theorem gl_X5_feed : GoodIn lw_tbl (wsV RL 28 RX5 yX5_feed wsX5_feed) := goodIn_sub (fa (fc tw_224 (fc tw_225 (fc tw_226 (fc tw_151 fz)))) in_wsX5_feed) (by decide +kernel)
set_option maxRecDepth 20000 in
theorem gl_X6_feed : GoodIn lw_tbl (wsV RL 32 RX6 yX6_feed wsX6_feed) := goodIn_sub (fa (fc tw_231 (fc tw_232 (fc tw_233 (fc tw_105 fz)))) in_wsX6_feed) (by decide +kernel)
set_option maxRecDepth 20000 in
theorem gl_X5_text : GoodIn lw_tbl (wsV RL 33 RX5 yX5_text wsX5_text) := goodIn_sub (fa (fc tw_436 (fc tw_437 (fc tw_438 (fc tw_151 fz)))) in_wsX5_text) (by decide +kernel)
set_option maxRecDepth 20000 in
theorem gl_X6_text : GoodIn lw_tbl (wsV RL 37 RX6 yX6_text wsX6_text) := goodIn_sub (fa (fc tw_439 (fc tw_107 (fc tw_106 (fc tw_105 fz)))) in_wsX6_text) (by decide +kernel)
set_option maxRecDepth 20000 in
theorem gl_X5_force : GoodIn lw_tbl (wsV RL 38 RX5 yX5_force wsX5_force) := goodIn_sub (fa (fc tw_441 (fc tw_442 (fc tw_443 (fc tw_151 fz)))) in_wsX5_force) (by decide +kernel)
set_option maxRecDepth 20000 in
theorem gl_X6_force : GoodIn lw_tbl (wsV RL 41 RX6 yX6_force wsX6_force) := goodIn_sub (fa (fc tw_445 (fc tw_446 (fc tw_447 (fc tw_105 fz)))) in_wsX6_force) (by decide +kernel)
set_option maxRecDepth 20000 in
theorem gl_X5_asks : GoodIn lw_tbl (wsV RL 42 RX5 yX5_asks wsX5_asks) := goodIn_sub (fa (fc tw_481 (fc tw_482 (fc tw_483 (fc tw_151 fz)))) in_wsX5_asks) (by decide +kernel)
set_option maxRecDepth 20000 in
theorem gl_X6_asks : GoodIn lw_tbl (wsV RL 45 RX6 yX6_asks wsX6_asks) := goodIn_sub (fa (fc tw_503 (fc tw_504 (fc tw_505 (fc tw_105 fz)))) in_wsX6_asks) (by decide +kernel)
set_option maxRecDepth 20000 in
theorem gl_X5_witness : GoodIn lw_tbl (wsV RL 46 RX5 yX5_witness wsX5_witness) := goodIn_sub (fa (fc tw_511 (fc tw_512 (fc tw_513 (fc tw_151 fz)))) in_wsX5_witness) (by decide +kernel)
set_option maxRecDepth 20000 in
theorem gl_X6_witness : GoodIn lw_tbl (wsV RL 49 RX6 yX6_witness wsX6_witness) := goodIn_sub (fa (fc tw_515 (fc tw_516 (fc tw_517 (fc tw_105 fz)))) in_wsX6_witness) (by decide +kernel)
set_option maxRecDepth 20000 in
theorem gl_X5_put : GoodIn lw_tbl (wsV RL 50 RX5 yX5_put wsX5_put) := goodIn_sub (fa (fc tw_519 (fc tw_520 (fc tw_521 (fc tw_151 fz)))) in_wsX5_put) (by decide +kernel)
set_option maxRecDepth 20000 in
theorem gl_X6_put : GoodIn lw_tbl (wsV RL 53 RX6 yX6_put wsX6_put) := goodIn_sub (fa (fc tw_523 (fc tw_524 (fc tw_525 (fc tw_105 fz)))) in_wsX6_put) (by decide +kernel)
set_option maxRecDepth 20000 in
theorem gl_X5_told : GoodIn lw_tbl (wsV RL 54 RX5 yX5_told wsX5_told) := goodIn_sub (fa (fc tw_569 (fc tw_570 (fc tw_571 (fc tw_151 fz)))) in_wsX5_told) (by decide +kernel)
set_option maxRecDepth 20000 in
theorem gl_X6_told : GoodIn lw_tbl (wsV RL 57 RX6 yX6_told wsX6_told) := goodIn_sub (fa (fc tw_600 (fc tw_601 (fc tw_602 (fc tw_105 fz)))) in_wsX6_told) (by decide +kernel)
set_option maxRecDepth 20000 in
theorem gl_X5_regard : GoodIn lw_tbl (wsV RL 58 RX5 yX5_regard wsX5_regard) := goodIn_sub (fa (fc tw_606 (fc tw_607 (fc tw_608 (fc tw_151 fz)))) in_wsX5_regard) (by decide +kernel)
set_option maxRecDepth 20000 in
theorem gl_X6_regard : GoodIn lw_tbl (wsV RL 61 RX6 yX6_regard wsX6_regard) := goodIn_sub (fa (fc tw_610 (fc tw_611 (fc tw_612 (fc tw_105 fz)))) in_wsX6_regard) (by decide +kernel)
set_option maxRecDepth 20000 in
theorem gl_X5_linen : GoodIn lw_tbl (wsV RL 62 RX5 yX5_linen wsX5_linen) := goodIn_sub (fa (fc tw_618 (fc tw_619 (fc tw_620 (fc tw_151 fz)))) in_wsX5_linen) (by decide +kernel)
set_option maxRecDepth 20000 in
theorem gl_X6_linen : GoodIn lw_tbl (wsV RL 65 RX6 yX6_linen wsX6_linen) := goodIn_sub (fa (fc tw_622 (fc tw_623 (fc tw_624 (fc tw_105 fz)))) in_wsX6_linen) (by decide +kernel)
set_option maxRecDepth 20000 in
theorem gl_X5_drop : GoodIn lw_tbl (wsV RL 66 RX5 yX5_drop wsX5_drop) := goodIn_sub (fa (fc tw_636 (fc tw_637 (fc tw_638 (fc tw_151 fz)))) in_wsX5_drop) (by decide +kernel)
set_option maxRecDepth 20000 in
theorem gl_X6_drop : GoodIn lw_tbl (wsV RL 69 RX6 yX6_drop wsX6_drop) := goodIn_sub (fa (fc tw_644 (fc tw_645 (fc tw_646 (fc tw_105 fz)))) in_wsX6_drop) (by decide +kernel)
set_option maxRecDepth 20000 in
theorem gl_X5_hour : GoodIn lw_tbl (wsV RL 70 RX5 yX5_hour wsX5_hour) := goodIn_sub (fa (fc tw_657 (fc tw_658 (fc tw_659 (fc tw_151 fz)))) in_wsX5_hour) (by decide +kernel)
set_option maxRecDepth 20000 in
theorem gl_X6_hour : GoodIn lw_tbl (wsV RL 73 RX6 yX6_hour wsX6_hour) := goodIn_sub (fa (fc tw_665 (fc tw_666 (fc tw_667 (fc tw_105 fz)))) in_wsX6_hour) (by decide +kernel)
set_option maxRecDepth 20000 in
theorem gl_X5_burn : GoodIn lw_tbl (wsV RL 74 RX5 yX5_burn wsX5_burn) := goodIn_sub (fa (fc tw_669 (fc tw_670 (fc tw_671 (fc tw_151 fz)))) in_wsX5_burn) (by decide +kernel)
set_option maxRecDepth 20000 in
theorem gl_X6_burn : GoodIn lw_tbl (wsV RL 77 RX6 yX6_burn wsX6_burn) := goodIn_sub (fa (fc tw_673 (fc tw_674 (fc tw_675 (fc tw_105 fz)))) in_wsX6_burn) (by decide +kernel)
set_option maxRecDepth 20000 in
theorem gl_X5_run : GoodIn lw_tbl (wsV RL 78 RX5 yX5_run wsX5_run) := goodIn_sub (fa (fc tw_682 (fc tw_683 (fc tw_684 (fc tw_151 fz)))) in_wsX5_run) (by decide +kernel)
set_option maxRecDepth 20000 in
theorem gl_X6_run : GoodIn lw_tbl (wsV RL 81 RX6 yX6_run wsX6_run) := goodIn_sub (fa (fc tw_698 (fc tw_699 (fc tw_700 (fc tw_105 fz)))) in_wsX6_run) (by decide +kernel)
set_option maxRecDepth 20000 in
theorem gl_X5_when : GoodIn lw_tbl (wsV RL 82 RX5 yX5_when wsX5_when) := goodIn_sub (fa (fc tw_706 (fc tw_707 (fc tw_708 (fc tw_151 fz)))) in_wsX5_when) (by decide +kernel)
set_option maxRecDepth 20000 in
theorem gl_X6_when : GoodIn lw_tbl (wsV RL 85 RX6 yX6_when wsX6_when) := goodIn_sub (fa (fc tw_710 (fc tw_711 (fc tw_712 (fc tw_105 fz)))) in_wsX6_when) (by decide +kernel)
set_option maxRecDepth 20000 in
theorem gl_X5_fate : GoodIn lw_tbl (wsV RL 86 RX5 yX5_fate wsX5_fate) := goodIn_sub (fa (fc tw_714 (fc tw_715 (fc tw_716 (fc tw_151 fz)))) in_wsX5_fate) (by decide +kernel)
set_option maxRecDepth 20000 in
theorem gl_X6_fate : GoodIn lw_tbl (wsV RL 89 RX6 yX6_fate wsX6_fate) := goodIn_sub (fa (fc tw_723 (fc tw_724 (fc tw_725 (fc tw_105 fz)))) in_wsX6_fate) (by decide +kernel)
set_option maxRecDepth 20000 in
theorem gl_X5_advise : GoodIn lw_tbl (wsV RL 90 RX5 yX5_advise wsX5_advise) := goodIn_sub (fa (fc tw_727 (fc tw_728 (fc tw_729 (fc tw_151 fz)))) in_wsX5_advise) (by decide +kernel)
set_option maxRecDepth 20000 in
theorem gl_X6_advise : GoodIn lw_tbl (wsV RL 93 RX6 yX6_advise wsX6_advise) := goodIn_sub (fa (fc tw_735 (fc tw_736 (fc tw_737 (fc tw_105 fz)))) in_wsX6_advise) (by decide +kernel)
set_option maxRecDepth 20000 in
theorem gl_X5_turn : GoodIn lw_tbl (wsV RL 94 RX5 yX5_turn wsX5_turn) := goodIn_sub (fa (fc tw_741 (fc tw_742 (fc tw_743 (fc tw_151 fz)))) in_wsX5_turn) (by decide +kernel)
set_option maxRecDepth 20000 in
theorem gl_X6_turn : GoodIn lw_tbl (wsV RL 97 RX6 yX6_turn wsX6_turn) := goodIn_sub (fa (fc tw_745 (fc tw_746 (fc tw_747 (fc tw_105 fz)))) in_wsX6_turn) (by decide +kernel)
set_option maxRecDepth 20000 in
theorem gl_X5_gallant : GoodIn lw_tbl (wsV RL 98 RX5 yX5_gallant wsX5_gallant) := goodIn_sub (fa (fc tw_749 (fc tw_750 (fc tw_751 (fc tw_151 fz)))) in_wsX5_gallant) (by decide +kernel)
set_option maxRecDepth 20000 in
theorem gl_X6_gallant : GoodIn lw_tbl (wsV RL 101 RX6 yX6_gallant wsX6_gallant) := goodIn_sub (fa (fc tw_757 (fc tw_758 (fc tw_759 (fc tw_105 fz)))) in_wsX6_gallant) (by decide +kernel)
set_option maxRecDepth 20000 in
theorem gl_X5_cast : GoodIn lw_tbl (wsV RL 102 RX5 yX5_cast wsX5_cast) := goodIn_sub (fa (fc tw_772 (fc tw_773 (fc tw_774 (fc tw_151 fz)))) in_wsX5_cast) (by decide +kernel)
set_option maxRecDepth 20000 in
theorem gl_X6_cast : GoodIn lw_tbl (wsV RL 105 RX6 yX6_cast wsX6_cast) := goodIn_sub (fa (fc tw_782 (fc tw_783 (fc tw_784 (fc tw_105 fz)))) in_wsX6_cast) (by decide +kernel)
set_option maxRecDepth 20000 in
theorem gl_X5_mean : GoodIn lw_tbl (wsV RL 106 RX5 yX5_mean wsX5_mean) := goodIn_sub (fa (fc tw_796 (fc tw_797 (fc tw_798 (fc tw_151 fz)))) in_wsX5_mean) (by decide +kernel)
set_option maxRecDepth 20000 in
theorem gl_X6_mean : GoodIn lw_tbl (wsV RL 110 RX6 yX6_mean wsX6_mean) := goodIn_sub (fa (fc tw_804 (fc tw_805 (fc tw_806 (fc tw_105 fz)))) in_wsX6_mean) (by decide +kernel)
set_option maxRecDepth 20000 in
theorem gl_X5_judge : GoodIn lw_tbl (wsV RL 111 RX5 yX5_judge wsX5_judge) := goodIn_sub (fa (fc tw_820 (fc tw_821 (fc tw_822 (fc tw_151 fz)))) in_wsX5_judge) (by decide +kernel)
set_option maxRecDepth 20000 in
theorem gl_X6_judge : GoodIn lw_tbl (wsV RL 114 RX6 yX6_judge wsX6_judge) := goodIn_sub (fa (fc tw_832 (fc tw_833 (fc tw_834 (fc tw_105 fz)))) in_wsX6_judge) (by decide +kernel)
set_option maxRecDepth 20000 in
theorem gl_X5_kinds : GoodIn lw_tbl (wsV RL 115 RX5 yX5_kinds wsX5_kinds) := goodIn_sub (fa (fc tw_840 (fc tw_841 (fc tw_842 (fc tw_151 fz)))) in_wsX5_kinds) (by decide +kernel)
set_option maxRecDepth 20000 in
theorem gl_X6_kinds : GoodIn lw_tbl (wsV RL 118 RX6 yX6_kinds wsX6_kinds) := goodIn_sub (fa (fc tw_844 (fc tw_845 (fc tw_846 (fc tw_105 fz)))) in_wsX6_kinds) (by decide +kernel)
set_option maxRecDepth 20000 in
theorem gl_X5_faces : GoodIn lw_tbl (wsV RL 119 RX5 yX5_faces wsX5_faces) := goodIn_sub (fa (fc tw_852 (fc tw_853 (fc tw_854 (fc tw_151 fz)))) in_wsX5_faces) (by decide +kernel)
set_option maxRecDepth 20000 in
theorem gl_X6_faces : GoodIn lw_tbl (wsV RL 122 RX6 yX6_faces wsX6_faces) := goodIn_sub (fa (fc tw_856 (fc tw_857 (fc tw_858 (fc tw_105 fz)))) in_wsX6_faces) (by decide +kernel)
set_option maxRecDepth 20000 in
theorem gl_X5_keens : GoodIn lw_tbl (wsV RL 123 RX5 yX5_keens wsX5_keens) := goodIn_sub (fa (fc tw_860 (fc tw_861 (fc tw_862 (fc tw_151 fz)))) in_wsX5_keens) (by decide +kernel)
set_option maxRecDepth 20000 in
theorem gl_X6_keens : GoodIn lw_tbl (wsV RL 126 RX6 yX6_keens wsX6_keens) := goodIn_sub (fa (fc tw_864 (fc tw_865 (fc tw_866 (fc tw_105 fz)))) in_wsX6_keens) (by decide +kernel)
set_option maxRecDepth 20000 in
theorem gl_X5_burnt : GoodIn lw_tbl (wsV RL 127 RX5 yX5_burnt wsX5_burnt) := goodIn_sub (fa (fc tw_868 (fc tw_869 (fc tw_870 (fc tw_151 fz)))) in_wsX5_burnt) (by decide +kernel)
set_option maxRecDepth 20000 in
theorem gl_X6_burnt : GoodIn lw_tbl (wsV RL 130 RX6 yX6_burnt wsX6_burnt) := goodIn_sub (fa (fc tw_872 (fc tw_873 (fc tw_874 (fc tw_105 fz)))) in_wsX6_burnt) (by decide +kernel)
set_option maxRecDepth 20000 in
theorem gl_X5_laws : GoodIn lw_tbl (wsV RL 131 RX5 yX5_laws wsX5_laws) := goodIn_sub (fa (fc tw_876 (fc tw_877 (fc tw_878 (fc tw_151 fz)))) in_wsX5_laws) (by decide +kernel)
set_option maxRecDepth 20000 in
theorem gl_X6_laws : GoodIn lw_tbl (wsV RL 134 RX6 yX6_laws wsX6_laws) := goodIn_sub (fa (fc tw_880 (fc tw_881 (fc tw_882 (fc tw_105 fz)))) in_wsX6_laws) (by decide +kernel)
set_option maxRecDepth 20000 in
theorem gl_X5_film : GoodIn lw_tbl (wsV RL 135 RX5 yX5_film wsX5_film) := goodIn_sub (fa (fc tw_894 (fc tw_895 (fc tw_896 (fc tw_151 fz)))) in_wsX5_film) (by decide +kernel)
set_option maxRecDepth 20000 in
theorem gl_X6_film : GoodIn lw_tbl (wsV RL 138 RX6 yX6_film wsX6_film) := goodIn_sub (fa (fc tw_898 (fc tw_899 (fc tw_900 (fc tw_105 fz)))) in_wsX6_film) (by decide +kernel)
set_option maxRecDepth 20000 in
theorem gl_X5_drawn : GoodIn lw_tbl (wsV RL 139 RX5 yX5_drawn wsX5_drawn) := goodIn_sub (fa (fc tw_910 (fc tw_911 (fc tw_912 (fc tw_151 fz)))) in_wsX5_drawn) (by decide +kernel)
set_option maxRecDepth 20000 in
theorem gl_X6_drawn : GoodIn lw_tbl (wsV RL 142 RX6 yX6_drawn wsX6_drawn) := goodIn_sub (fa (fc tw_923 (fc tw_924 (fc tw_925 (fc tw_105 fz)))) in_wsX6_drawn) (by decide +kernel)
set_option maxRecDepth 20000 in
theorem gl_X5_odds : GoodIn lw_tbl (wsV RL 143 RX5 yX5_odds wsX5_odds) := goodIn_sub (fa (fc tw_927 (fc tw_928 (fc tw_929 (fc tw_151 fz)))) in_wsX5_odds) (by decide +kernel)
set_option maxRecDepth 20000 in
theorem gl_X6_odds : GoodIn lw_tbl (wsV RL 147 RX6 yX6_odds wsX6_odds) := goodIn_sub (fa (fc tw_931 (fc tw_932 (fc tw_933 (fc tw_105 fz)))) in_wsX6_odds) (by decide +kernel)
set_option maxRecDepth 20000 in
theorem gl_X5_image : GoodIn lw_tbl (wsV RL 148 RX5 yX5_image wsX5_image) := goodIn_sub (fa (fc tw_936 (fc tw_937 (fc tw_938 (fc tw_151 fz)))) in_wsX5_image) (by decide +kernel)
set_option maxRecDepth 20000 in
theorem gl_X6_image : GoodIn lw_tbl (wsV RL 151 RX6 yX6_image wsX6_image) := goodIn_sub (fa (fc tw_941 (fc tw_942 (fc tw_943 (fc tw_105 fz)))) in_wsX6_image) (by decide +kernel)
set_option maxRecDepth 20000 in
theorem gl_X5_back : GoodIn lw_tbl (wsV RL 152 RX5 yX5_back wsX5_back) := goodIn_sub (fa (fc tw_945 (fc tw_946 (fc tw_947 (fc tw_151 fz)))) in_wsX5_back) (by decide +kernel)
set_option maxRecDepth 20000 in
theorem gl_X6_back : GoodIn lw_tbl (wsV RL 155 RX6 yX6_back wsX6_back) := goodIn_sub (fa (fc tw_949 (fc tw_950 (fc tw_951 (fc tw_105 fz)))) in_wsX6_back) (by decide +kernel)
set_option maxRecDepth 20000 in
theorem gl_X5_sheet : GoodIn lw_tbl (wsV RL 156 RX5 yX5_sheet wsX5_sheet) := goodIn_sub (fa (fc tw_953 (fc tw_954 (fc tw_955 (fc tw_151 fz)))) in_wsX5_sheet) (by decide +kernel)
set_option maxRecDepth 20000 in
theorem gl_X6_sheet : GoodIn lw_tbl (wsV RL 159 RX6 yX6_sheet wsX6_sheet) := goodIn_sub (fa (fc tw_957 (fc tw_958 (fc tw_959 (fc tw_105 fz)))) in_wsX6_sheet) (by decide +kernel)
set_option maxRecDepth 20000 in
theorem gl_X5_cell : GoodIn lw_tbl (wsV RL 160 RX5 yX5_cell wsX5_cell) := goodIn_sub (fa (fc tw_961 (fc tw_962 (fc tw_963 (fc tw_151 fz)))) in_wsX5_cell) (by decide +kernel)
set_option maxRecDepth 20000 in
theorem gl_X6_cell : GoodIn lw_tbl (wsV RL 163 RX6 yX6_cell wsX6_cell) := goodIn_sub (fa (fc tw_965 (fc tw_966 (fc tw_967 (fc tw_105 fz)))) in_wsX6_cell) (by decide +kernel)
set_option maxRecDepth 20000 in
theorem gl_X5_copy : GoodIn lw_tbl (wsV RL 164 RX5 yX5_copy wsX5_copy) := goodIn_sub (fa (fc tw_974 (fc tw_975 (fc tw_976 (fc tw_151 fz)))) in_wsX5_copy) (by decide +kernel)
set_option maxRecDepth 20000 in
theorem gl_X6_copy : GoodIn lw_tbl (wsV RL 168 RX6 yX6_copy wsX6_copy) := goodIn_sub (fa (fc tw_978 (fc tw_979 (fc tw_980 (fc tw_105 fz)))) in_wsX6_copy) (by decide +kernel)
set_option maxRecDepth 20000 in
theorem gl_X5_witnessesBy : GoodIn lw_tbl (wsV RL 169 RX5 yX5_witnessesBy wsX5_witnessesBy) := goodIn_sub (fa (fc tw_983 (fc tw_984 (fc tw_985 (fc tw_151 fz)))) in_wsX5_witnessesBy) (by decide +kernel)
set_option maxRecDepth 20000 in
theorem gl_X6_witnessesBy : GoodIn lw_tbl (wsV RL 173 RX6 yX6_witnessesBy wsX6_witnessesBy) := goodIn_sub (fa (fc tw_988 (fc tw_989 (fc tw_990 (fc tw_105 fz)))) in_wsX6_witnessesBy) (by decide +kernel)
set_option maxRecDepth 20000 in
theorem gl_X5_taken : GoodIn lw_tbl (wsV RL 174 RX5 yX5_taken wsX5_taken) := goodIn_sub (fa (fc tw_995 (fc tw_996 (fc tw_997 (fc tw_151 fz)))) in_wsX5_taken) (by decide +kernel)
set_option maxRecDepth 20000 in
theorem gl_X6_taken : GoodIn lw_tbl (wsV RL 177 RX6 yX6_taken wsX6_taken) := goodIn_sub (fa (fc tw_1002 (fc tw_1003 (fc tw_1004 (fc tw_105 fz)))) in_wsX6_taken) (by decide +kernel)
