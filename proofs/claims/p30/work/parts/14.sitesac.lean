theorem tb_895 : Cond.methodLink RL 107 yX10_send ∈ aTb := tm_4_21 (List.mem_of_getElem? (i := 7) rfl) rfl
theorem tb_896 : Cond.instanceMethod yX10_send ∈ aTb := tm_4_22 (List.mem_of_getElem? (i := 0) rfl) rfl
theorem tb_897 : Cond.selects RX10 yX10_send yX10_send ∈ aTb := tm_4_22 (List.mem_of_getElem? (i := 1) rfl) rfl
theorem tb_899 : Cond.methodLink RX10 242 yJ6_bitCount_0f7a4 ∈ aTb := tm_4_22 (List.mem_of_getElem? (i := 3) rfl) rfl
theorem tb_900 : Cond.methodLink RL 111 yX10_dawn ∈ aTb := tm_4_22 (List.mem_of_getElem? (i := 4) rfl) rfl
theorem tb_901 : Cond.instanceMethod yX10_dawn ∈ aTb := tm_4_22 (List.mem_of_getElem? (i := 5) rfl) rfl
theorem tb_902 : Cond.selects RX10 yX10_dawn yX10_dawn ∈ aTb := tm_4_22 (List.mem_of_getElem? (i := 6) rfl) rfl
theorem tb_904 : Cond.methodLink RL 115 yX10_log ∈ aTb := tm_4_23 (List.mem_of_getElem? (i := 0) rfl) rfl
theorem tb_905 : Cond.instanceMethod yX10_log ∈ aTb := tm_4_23 (List.mem_of_getElem? (i := 1) rfl) rfl
theorem tb_906 : Cond.selects RX10 yX10_log yX10_log ∈ aTb := tm_4_23 (List.mem_of_getElem? (i := 2) rfl) rfl
theorem tb_908 : Cond.methodLink RL 119 yX10_burnt ∈ aTb := tm_4_23 (List.mem_of_getElem? (i := 4) rfl) rfl
theorem tb_909 : Cond.instanceMethod yX10_burnt ∈ aTb := tm_4_23 (List.mem_of_getElem? (i := 5) rfl) rfl
theorem tb_910 : Cond.selects RX10 yX10_burnt yX10_burnt ∈ aTb := tm_4_23 (List.mem_of_getElem? (i := 6) rfl) rfl
theorem tb_912 : Cond.methodLink RX10 250 yX4_oilOf ∈ aTb := tm_4_24 (List.mem_of_getElem? (i := 0) rfl) rfl
theorem tb_913 : Cond.instanceMethod yX4_oilOf ∈ aTb := tm_4_24 (List.mem_of_getElem? (i := 1) rfl) rfl
theorem tb_914 : Cond.selects RX4 yX4_oilOf yX4_oilOf ∈ aTb := tm_4_24 (List.mem_of_getElem? (i := 2) rfl) rfl
theorem tb_916 : Cond.methodLink RL 123 yX10_trail ∈ aTb := tm_4_24 (List.mem_of_getElem? (i := 4) rfl) rfl
theorem tb_917 : Cond.instanceMethod yX10_trail ∈ aTb := tm_4_24 (List.mem_of_getElem? (i := 5) rfl) rfl
theorem tb_918 : Cond.selects RX10 yX10_trail yX10_trail ∈ aTb := tm_4_24 (List.mem_of_getElem? (i := 6) rfl) rfl
theorem tb_920 : Cond.methodLink RX10 253 Lib.Math.min.name ∈ aTb := tm_4_25 (List.mem_of_getElem? (i := 0) rfl) rfl
theorem tb_921 : Cond.methodLink RL 127 yX10_judge ∈ aTb := tm_4_25 (List.mem_of_getElem? (i := 1) rfl) rfl
theorem tb_922 : Cond.instanceMethod yX10_judge ∈ aTb := tm_4_25 (List.mem_of_getElem? (i := 2) rfl) rfl
theorem tb_923 : Cond.selects RX10 yX10_judge yX10_judge ∈ aTb := tm_4_25 (List.mem_of_getElem? (i := 3) rfl) rfl
theorem tb_925 : Cond.methodLink RX10 259 yX4_wouldLight ∈ aTb := tm_4_25 (List.mem_of_getElem? (i := 5) rfl) rfl
theorem tb_926 : Cond.instanceMethod yX4_wouldLight ∈ aTb := tm_4_25 (List.mem_of_getElem? (i := 6) rfl) rfl
theorem tb_927 : Cond.selects RX4 yX4_wouldLight yX4_wouldLight ∈ aTb := tm_4_25 (List.mem_of_getElem? (i := 7) rfl) rfl
theorem tb_929 : Cond.methodLink RX4 119 yX1_isState ∈ aTb := tm_4_26 (List.mem_of_getElem? (i := 1) rfl) rfl
theorem tb_930 : Cond.methodLink RX4 123 yX4_choose ∈ aTb := tm_4_26 (List.mem_of_getElem? (i := 2) rfl) rfl
theorem tb_931 : Cond.methodLink RL 131 yX10_rows ∈ aTb := tm_4_26 (List.mem_of_getElem? (i := 3) rfl) rfl
theorem tb_932 : Cond.instanceMethod yX10_rows ∈ aTb := tm_4_26 (List.mem_of_getElem? (i := 4) rfl) rfl
theorem tb_933 : Cond.selects RX10 yX10_rows yX10_rows ∈ aTb := tm_4_26 (List.mem_of_getElem? (i := 5) rfl) rfl
theorem tb_935 : Cond.methodLink RX10 262 yX10_isRowTo ∈ aTb := tm_4_26 (List.mem_of_getElem? (i := 7) rfl) rfl
theorem tb_937 : Cond.instanceMethod yX10_isRowTo ∈ aTb := tm_4_27 (List.mem_of_getElem? (i := 1) rfl) rfl
theorem tb_939 : Cond.methodLink RX10 265 yX8_countRows ∈ aTb := tm_4_27 (List.mem_of_getElem? (i := 3) rfl) rfl
theorem tb_940 : Cond.instanceMethod yX8_countRows ∈ aTb := tm_4_27 (List.mem_of_getElem? (i := 4) rfl) rfl
theorem tb_941 : Cond.selects RX8 yX8_countRows yX8_countRows ∈ aTb := tm_4_27 (List.mem_of_getElem? (i := 5) rfl) rfl
theorem tb_943 : Cond.methodLink RX8 19 yX4_prepare ∈ aTb := tm_4_27 (List.mem_of_getElem? (i := 7) rfl) rfl
theorem tb_944 : Cond.methodLink RX8 25 yJ7_fill_bad5a ∈ aTb := tm_4_28 (List.mem_of_getElem? (i := 0) rfl) rfl
theorem tb_945 : Cond.static yJ7_fill_bad5a ∈ aTb := tm_4_28 (List.mem_of_getElem? (i := 1) rfl) rfl
theorem tb_947 : Cond.methodLink RJ7 13 yJ7_rangeCheck_23922 ∈ aTb := tm_4_28 (List.mem_of_getElem? (i := 3) rfl) rfl
theorem tb_948 : Cond.static yJ7_rangeCheck_23922 ∈ aTb := tm_4_28 (List.mem_of_getElem? (i := 4) rfl) rfl
theorem tb_950 : Cond.methodLink RX8 31 yX8_isMet ∈ aTb := tm_4_28 (List.mem_of_getElem? (i := 6) rfl) rfl
theorem tb_952 : Cond.instanceMethod yX8_isMet ∈ aTb := tm_4_29 (List.mem_of_getElem? (i := 0) rfl) rfl
theorem tb_954 : Cond.methodLink RX8 35 yX8_spread ∈ aTb := tm_4_29 (List.mem_of_getElem? (i := 2) rfl) rfl
theorem tb_956 : Cond.instanceMethod yX8_spread ∈ aTb := tm_4_29 (List.mem_of_getElem? (i := 4) rfl) rfl
theorem tb_958 : Cond.methodLink RX8 39 yX4_chooseAll ∈ aTb := tm_4_29 (List.mem_of_getElem? (i := 6) rfl) rfl
theorem tb_959 : Cond.methodLink RL 136 yX10_could ∈ aTb := tm_4_29 (List.mem_of_getElem? (i := 7) rfl) rfl
theorem tb_960 : Cond.instanceMethod yX10_could ∈ aTb := tm_5_0 (List.mem_of_getElem? (i := 0) rfl) rfl
theorem tb_961 : Cond.selects RX10 yX10_could yX10_could ∈ aTb := tm_5_0 (List.mem_of_getElem? (i := 1) rfl) rfl
theorem tb_963 : Cond.methodLink RL 141 yX10_maybe ∈ aTb := tm_5_0 (List.mem_of_getElem? (i := 3) rfl) rfl
theorem tb_964 : Cond.instanceMethod yX10_maybe ∈ aTb := tm_5_0 (List.mem_of_getElem? (i := 4) rfl) rfl
theorem tb_965 : Cond.selects RX10 yX10_maybe yX10_maybe ∈ aTb := tm_5_0 (List.mem_of_getElem? (i := 5) rfl) rfl
theorem tb_967 : Cond.methodLink RX10 269 yX1_newsBit ∈ aTb := tm_5_0 (List.mem_of_getElem? (i := 7) rfl) rfl
theorem tb_968 : Cond.instanceMethod yX1_newsBit ∈ aTb := tm_5_1 (List.mem_of_getElem? (i := 0) rfl) rfl
theorem tb_969 : Cond.selects RX1 yX1_newsBit yX1_newsBit ∈ aTb := tm_5_1 (List.mem_of_getElem? (i := 1) rfl) rfl
theorem tb_971 : Cond.methodLink RL 145 yX10_safe ∈ aTb := tm_5_1 (List.mem_of_getElem? (i := 3) rfl) rfl
theorem tb_972 : Cond.instanceMethod yX10_safe ∈ aTb := tm_5_1 (List.mem_of_getElem? (i := 4) rfl) rfl
theorem tb_973 : Cond.selects RX10 yX10_safe yX10_safe ∈ aTb := tm_5_1 (List.mem_of_getElem? (i := 5) rfl) rfl
theorem tb_975 : Cond.methodLink RX10 272 yX4_findSafe ∈ aTb := tm_5_1 (List.mem_of_getElem? (i := 7) rfl) rfl
theorem tb_976 : Cond.instanceMethod yX4_findSafe ∈ aTb := tm_5_2 (List.mem_of_getElem? (i := 0) rfl) rfl
theorem tb_977 : Cond.selects RX4 yX4_findSafe yX4_findSafe ∈ aTb := tm_5_2 (List.mem_of_getElem? (i := 1) rfl) rfl
theorem tb_979 : Cond.methodLink RX4 131 yX4_firstDoubt ∈ aTb := tm_5_2 (List.mem_of_getElem? (i := 3) rfl) rfl
theorem tb_981 : Cond.instanceMethod yX4_firstDoubt ∈ aTb := tm_5_2 (List.mem_of_getElem? (i := 5) rfl) rfl
theorem tb_983 : Cond.methodLink RX4 143 yX1_newsBit ∈ aTb := tm_5_2 (List.mem_of_getElem? (i := 7) rfl) rfl
theorem tb_984 : Cond.methodLink RX4 135 Lib.Math.min.name ∈ aTb := tm_5_3 (List.mem_of_getElem? (i := 0) rfl) rfl
theorem tb_985 : Cond.methodLink RL 149 yX10_spy ∈ aTb := tm_5_3 (List.mem_of_getElem? (i := 1) rfl) rfl
theorem tb_986 : Cond.instanceMethod yX10_spy ∈ aTb := tm_5_3 (List.mem_of_getElem? (i := 2) rfl) rfl
theorem tb_987 : Cond.selects RX10 yX10_spy yX10_spy ∈ aTb := tm_5_3 (List.mem_of_getElem? (i := 3) rfl) rfl
theorem tb_989 : Cond.methodLink RL 153 yX10_want ∈ aTb := tm_5_3 (List.mem_of_getElem? (i := 5) rfl) rfl
theorem tb_990 : Cond.instanceMethod yX10_want ∈ aTb := tm_5_3 (List.mem_of_getElem? (i := 6) rfl) rfl
theorem tb_991 : Cond.selects RX10 yX10_want yX10_want ∈ aTb := tm_5_3 (List.mem_of_getElem? (i := 7) rfl) rfl
theorem tb_993 : Cond.methodLink RL 157 yX10_unwant ∈ aTb := tm_5_4 (List.mem_of_getElem? (i := 1) rfl) rfl
theorem tb_994 : Cond.instanceMethod yX10_unwant ∈ aTb := tm_5_4 (List.mem_of_getElem? (i := 2) rfl) rfl
theorem tb_995 : Cond.selects RX10 yX10_unwant yX10_unwant ∈ aTb := tm_5_4 (List.mem_of_getElem? (i := 3) rfl) rfl
theorem tb_997 : Cond.methodLink RL 161 yX10_cheap ∈ aTb := tm_5_4 (List.mem_of_getElem? (i := 5) rfl) rfl
theorem tb_998 : Cond.instanceMethod yX10_cheap ∈ aTb := tm_5_4 (List.mem_of_getElem? (i := 6) rfl) rfl
theorem tb_999 : Cond.selects RX10 yX10_cheap yX10_cheap ∈ aTb := tm_5_4 (List.mem_of_getElem? (i := 7) rfl) rfl
theorem tb_1001 : Cond.methodLink RX10 281 yX3_solve ∈ aTb := tm_5_5 (List.mem_of_getElem? (i := 1) rfl) rfl
theorem tb_1002 : Cond.instanceMethod yX3_solve ∈ aTb := tm_5_5 (List.mem_of_getElem? (i := 2) rfl) rfl
theorem tb_1003 : Cond.selects RX3 yX3_solve yX3_solve ∈ aTb := tm_5_5 (List.mem_of_getElem? (i := 3) rfl) rfl
theorem tb_1005 : Cond.methodLink RX3 37 yX4_fillOil ∈ aTb := tm_5_5 (List.mem_of_getElem? (i := 5) rfl) rfl
theorem tb_1006 : Cond.methodLink RX3 40 yX3_countWays ∈ aTb := tm_5_5 (List.mem_of_getElem? (i := 6) rfl) rfl
theorem tb_1008 : Cond.instanceMethod yX3_countWays ∈ aTb := tm_5_6 (List.mem_of_getElem? (i := 0) rfl) rfl
theorem tb_1010 : Cond.methodLink RX3 56 yJ7_fill_d0a16 ∈ aTb := tm_5_6 (List.mem_of_getElem? (i := 2) rfl) rfl
theorem tb_1011 : Cond.methodLink RX3 62 yX1_full ∈ aTb := tm_5_6 (List.mem_of_getElem? (i := 3) rfl) rfl
theorem tb_1012 : Cond.methodLink RX3 74 yX3_spreadUp ∈ aTb := tm_5_6 (List.mem_of_getElem? (i := 4) rfl) rfl
theorem tb_1014 : Cond.instanceMethod yX3_spreadUp ∈ aTb := tm_5_6 (List.mem_of_getElem? (i := 6) rfl) rfl
theorem tb_1016 : Cond.methodLink RX3 43 yX3_findLeast ∈ aTb := tm_5_7 (List.mem_of_getElem? (i := 0) rfl) rfl
theorem tb_1018 : Cond.instanceMethod yX3_findLeast ∈ aTb := tm_5_7 (List.mem_of_getElem? (i := 2) rfl) rfl
theorem tb_1020 : Cond.constantLong RX3 90 (Int64.ofInt (1000000000)) ∈ aTb := tm_5_7 (List.mem_of_getElem? (i := 4) rfl) rfl
theorem tb_1021 : Cond.methodLink RX3 92 Lib.MathLoose.min_long.x ∈ aTb := tm_5_7 (List.mem_of_getElem? (i := 5) rfl) rfl
theorem tb_1022 : Cond.static Lib.MathLoose.min_long.x ∈ aTb := tm_5_7 (List.mem_of_getElem? (i := 6) rfl) rfl
theorem tb_1023 : Cond.code Lib.MathLoose.min_long.x Lib.MathLoose.min_long.code 4 (some .long) ∈ aTb := tm_5_7 (List.mem_of_getElem? (i := 7) rfl) rfl
theorem tb_1024 : Cond.methodLink RX3 50 yX3_findOpen ∈ aTb := tm_5_8 (List.mem_of_getElem? (i := 0) rfl) rfl
theorem tb_1026 : Cond.instanceMethod yX3_findOpen ∈ aTb := tm_5_8 (List.mem_of_getElem? (i := 2) rfl) rfl
theorem tb_1028 : Cond.methodLink RX3 101 yX3_goesOn ∈ aTb := tm_5_8 (List.mem_of_getElem? (i := 4) rfl) rfl
theorem tb_1030 : Cond.instanceMethod yX3_goesOn ∈ aTb := tm_5_8 (List.mem_of_getElem? (i := 6) rfl) rfl
theorem tb_1032 : Cond.methodLink RX3 105 yX3_spreadDown ∈ aTb := tm_5_9 (List.mem_of_getElem? (i := 0) rfl) rfl
theorem tb_1034 : Cond.instanceMethod yX3_spreadDown ∈ aTb := tm_5_9 (List.mem_of_getElem? (i := 2) rfl) rfl
theorem tb_1036 : Cond.methodLink RX3 53 yX3_findStates ∈ aTb := tm_5_9 (List.mem_of_getElem? (i := 4) rfl) rfl
theorem tb_1038 : Cond.instanceMethod yX3_findStates ∈ aTb := tm_5_9 (List.mem_of_getElem? (i := 6) rfl) rfl
theorem tb_1040 : Cond.methodLink RX3 109 yX1_canLight ∈ aTb := tm_5_10 (List.mem_of_getElem? (i := 0) rfl) rfl
theorem tb_1041 : Cond.methodLink RL 165 yX10_plan ∈ aTb := tm_5_10 (List.mem_of_getElem? (i := 1) rfl) rfl
theorem tb_1042 : Cond.instanceMethod yX10_plan ∈ aTb := tm_5_10 (List.mem_of_getElem? (i := 2) rfl) rfl
theorem tb_1043 : Cond.selects RX10 yX10_plan yX10_plan ∈ aTb := tm_5_10 (List.mem_of_getElem? (i := 3) rfl) rfl
theorem tb_1045 : Cond.methodLink RL 169 yX10_night ∈ aTb := tm_5_10 (List.mem_of_getElem? (i := 5) rfl) rfl
theorem tb_1046 : Cond.instanceMethod yX10_night ∈ aTb := tm_5_10 (List.mem_of_getElem? (i := 6) rfl) rfl
theorem tb_1047 : Cond.selects RX10 yX10_night yX10_night ∈ aTb := tm_5_10 (List.mem_of_getElem? (i := 7) rfl) rfl
theorem tb_1049 : Cond.constant RX10 293 (Int32.ofInt (1000000)) ∈ aTb := tm_5_11 (List.mem_of_getElem? (i := 1) rfl) rfl
theorem tb_1050 : Cond.methodLink RX10 294 yX10_drawNight ∈ aTb := tm_5_11 (List.mem_of_getElem? (i := 2) rfl) rfl
theorem tb_1052 : Cond.instanceMethod yX10_drawNight ∈ aTb := tm_5_11 (List.mem_of_getElem? (i := 4) rfl) rfl
theorem tb_1054 : Cond.constantLong RX10 310 (Int64.ofInt (1103)) ∈ aTb := tm_5_11 (List.mem_of_getElem? (i := 6) rfl) rfl
theorem tb_1055 : Cond.constantLong RX10 312 (Int64.ofInt (12345)) ∈ aTb := tm_5_11 (List.mem_of_getElem? (i := 7) rfl) rfl
theorem tb_1056 : Cond.constantLong RX10 314 (Int64.ofInt (1000003)) ∈ aTb := tm_5_12 (List.mem_of_getElem? (i := 0) rfl) rfl
theorem tb_1057 : Cond.methodLink RL 173 yX10_drawn ∈ aTb := tm_5_12 (List.mem_of_getElem? (i := 1) rfl) rfl
theorem tb_1058 : Cond.instanceMethod yX10_drawn ∈ aTb := tm_5_12 (List.mem_of_getElem? (i := 2) rfl) rfl
theorem tb_1059 : Cond.selects RX10 yX10_drawn yX10_drawn ∈ aTb := tm_5_12 (List.mem_of_getElem? (i := 3) rfl) rfl
theorem tb_1061 : Cond.methodLink RL 177 yX10_image ∈ aTb := tm_5_12 (List.mem_of_getElem? (i := 5) rfl) rfl
theorem tb_1062 : Cond.instanceMethod yX10_image ∈ aTb := tm_5_12 (List.mem_of_getElem? (i := 6) rfl) rfl
theorem tb_1063 : Cond.selects RX10 yX10_image yX10_image ∈ aTb := tm_5_12 (List.mem_of_getElem? (i := 7) rfl) rfl
theorem tb_1065 : Cond.methodLink RX10 301 yX1_copyFrom ∈ aTb := tm_5_13 (List.mem_of_getElem? (i := 1) rfl) rfl
theorem tb_1066 : Cond.instanceMethod yX1_copyFrom ∈ aTb := tm_5_13 (List.mem_of_getElem? (i := 2) rfl) rfl
theorem tb_1067 : Cond.selects RX1 yX1_copyFrom yX1_copyFrom ∈ aTb := tm_5_13 (List.mem_of_getElem? (i := 3) rfl) rfl
theorem tb_1069 : Cond.methodLink RX1 67 arraycopyName ∈ aTb := tm_5_13 (List.mem_of_getElem? (i := 5) rfl) rfl
theorem tb_1070 : Cond.methodLink RL 181 yX10_back ∈ aTb := tm_5_13 (List.mem_of_getElem? (i := 6) rfl) rfl
theorem tb_1071 : Cond.instanceMethod yX10_back ∈ aTb := tm_5_13 (List.mem_of_getElem? (i := 7) rfl) rfl
theorem tb_1072 : Cond.selects RX10 yX10_back yX10_back ∈ aTb := tm_5_14 (List.mem_of_getElem? (i := 0) rfl) rfl
theorem tb_1074 : Cond.methodLink RL 185 yX10_count ∈ aTb := tm_5_14 (List.mem_of_getElem? (i := 2) rfl) rfl
theorem tb_1075 : Cond.instanceMethod yX10_count ∈ aTb := tm_5_14 (List.mem_of_getElem? (i := 3) rfl) rfl
theorem tb_1076 : Cond.selects RX10 yX10_count yX10_count ∈ aTb := tm_5_14 (List.mem_of_getElem? (i := 4) rfl) rfl
theorem tb_1078 : Cond.methodLink RL 189 yX10_status ∈ aTb := tm_5_14 (List.mem_of_getElem? (i := 6) rfl) rfl
theorem tb_1079 : Cond.instanceMethod yX10_status ∈ aTb := tm_5_14 (List.mem_of_getElem? (i := 7) rfl) rfl
theorem tb_1080 : Cond.selects RX10 yX10_status yX10_status ∈ aTb := tm_5_15 (List.mem_of_getElem? (i := 0) rfl) rfl
theorem tb_1082 : Cond.classLink RL 10 RX11 ∈ aTb := tm_5_15 (List.mem_of_getElem? (i := 2) rfl) rfl
theorem tb_1084 : Cond.methodLink RL 12 yX11_init ∈ aTb := tm_5_15 (List.mem_of_getElem? (i := 4) rfl) rfl
theorem tb_1085 : Cond.instanceMethod yX11_init ∈ aTb := tm_5_15 (List.mem_of_getElem? (i := 5) rfl) rfl
theorem tb_1087 : Cond.methodLink RX11 14 objectInit ∈ aTb := tm_5_15 (List.mem_of_getElem? (i := 7) rfl) rfl
theorem tb_1088 : Cond.methodLink RX11 98 yX11_empties ∈ aTb := tm_5_16 (List.mem_of_getElem? (i := 0) rfl) rfl
theorem tb_1090 : Cond.instanceMethod yX11_empties ∈ aTb := tm_5_16 (List.mem_of_getElem? (i := 2) rfl) rfl
theorem tb_1092 : Cond.fieldLink RX11 3 "LitCoastModel" "status" "I" ∈ aTb := tm_5_16 (List.mem_of_getElem? (i := 4) rfl) rfl
theorem tb_1093 : Cond.fieldLink RX11 11 "LitCoastModel" "version" "I" ∈ aTb := tm_5_16 (List.mem_of_getElem? (i := 5) rfl) rfl
theorem tb_1094 : Cond.fieldLink RX11 7 "LitCoastModel" "refused" "[I" ∈ aTb := tm_5_16 (List.mem_of_getElem? (i := 6) rfl) rfl
theorem tb_1095 : Cond.fieldLink RX11 20 "LitCoastModel" "kept" "[I" ∈ aTb := tm_5_16 (List.mem_of_getElem? (i := 7) rfl) rfl
theorem tb_1096 : Cond.fieldLink RX11 23 "LitCoastModel" "images" "[I" ∈ aTb := tm_5_17 (List.mem_of_getElem? (i := 0) rfl) rfl
theorem tb_1097 : Cond.fieldLink RX11 26 "LitCoastModel" "hasImage" "[Z" ∈ aTb := tm_5_17 (List.mem_of_getElem? (i := 1) rfl) rfl
theorem tb_1098 : Cond.fieldLink RX11 136 "LitCoastModel" "torn" "I" ∈ aTb := tm_5_17 (List.mem_of_getElem? (i := 2) rfl) rfl
theorem tb_1099 : Cond.fieldLink RX11 30 "LitCoastModel" "words" "[B" ∈ aTb := tm_5_17 (List.mem_of_getElem? (i := 3) rfl) rfl
theorem tb_1100 : Cond.fieldLink RX11 34 "LitCoastModel" "tape" "[B" ∈ aTb := tm_5_17 (List.mem_of_getElem? (i := 4) rfl) rfl
theorem tb_1101 : Cond.fieldLink RX11 37 "LitCoastModel" "five" "[I" ∈ aTb := tm_5_17 (List.mem_of_getElem? (i := 5) rfl) rfl
theorem tb_1102 : Cond.fieldLink RX11 129 "LitCoastModel" "taped" "I" ∈ aTb := tm_5_17 (List.mem_of_getElem? (i := 6) rfl) rfl
theorem tb_1103 : Cond.fieldLink RX11 40 "LitCoastModel" "fault" "I" ∈ aTb := tm_5_17 (List.mem_of_getElem? (i := 7) rfl) rfl
theorem tb_1104 : Cond.fieldLink RX11 43 "LitCoastModel" "code" "[I" ∈ aTb := tm_5_18 (List.mem_of_getElem? (i := 0) rfl) rfl
theorem tb_1105 : Cond.fieldLink RX11 46 "LitCoastModel" "value" "[I" ∈ aTb := tm_5_18 (List.mem_of_getElem? (i := 1) rfl) rfl
theorem tb_1106 : Cond.fieldLink RX11 49 "LitCoastModel" "placed" "[I" ∈ aTb := tm_5_18 (List.mem_of_getElem? (i := 2) rfl) rfl
theorem tb_1107 : Cond.fieldLink RX11 142 "LitCoastModel" "tokens" "I" ∈ aTb := tm_5_18 (List.mem_of_getElem? (i := 3) rfl) rfl
theorem tb_1108 : Cond.fieldLink RX11 162 "LitCoastModel" "token" "I" ∈ aTb := tm_5_18 (List.mem_of_getElem? (i := 4) rfl) rfl
theorem tb_1109 : Cond.fieldLink RX11 171 "LitCoastModel" "leaves" "I" ∈ aTb := tm_5_18 (List.mem_of_getElem? (i := 5) rfl) rfl
theorem tb_1110 : Cond.fieldLink RX11 155 "LitCoastModel" "bad" "I" ∈ aTb := tm_5_18 (List.mem_of_getElem? (i := 6) rfl) rfl
theorem tb_1111 : Cond.fieldLink RX11 215 "LitCoastModel" "go" "I" ∈ aTb := tm_5_18 (List.mem_of_getElem? (i := 7) rfl) rfl
theorem tb_1112 : Cond.fieldLink RX11 212 "LitCoastModel" "goEnd" "I" ∈ aTb := tm_5_19 (List.mem_of_getElem? (i := 0) rfl) rfl
theorem tb_1113 : Cond.fieldLink RX11 225 "LitCoastModel" "broken" "Z" ∈ aTb := tm_5_19 (List.mem_of_getElem? (i := 1) rfl) rfl
theorem tb_1114 : Cond.fieldLink RX11 52 "LitCoastModel" "asked" "[I" ∈ aTb := tm_5_19 (List.mem_of_getElem? (i := 2) rfl) rfl
theorem tb_1115 : Cond.fieldLink RX11 55 "LitCoastModel" "lasting" "[I" ∈ aTb := tm_5_19 (List.mem_of_getElem? (i := 3) rfl) rfl
theorem tb_1116 : Cond.fieldLink RX11 58 "LitCoastModel" "means" "[J" ∈ aTb := tm_5_19 (List.mem_of_getElem? (i := 4) rfl) rfl
theorem tb_1117 : Cond.fieldLink RX11 62 "LitCoastModel" "madeBy" "I" ∈ aTb := tm_5_19 (List.mem_of_getElem? (i := 5) rfl) rfl
theorem tb_1118 : Cond.fieldLink RX11 65 "LitCoastModel" "can" "[Z" ∈ aTb := tm_5_19 (List.mem_of_getElem? (i := 6) rfl) rfl
theorem tb_1119 : Cond.fieldLink RX11 68 "LitCoastModel" "fails" "[I" ∈ aTb := tm_5_19 (List.mem_of_getElem? (i := 7) rfl) rfl
theorem tb_1120 : Cond.fieldLink RX11 318 "LitCoastModel" "failMany" "I" ∈ aTb := tm_5_20 (List.mem_of_getElem? (i := 0) rfl) rfl
theorem tb_1121 : Cond.fieldLink RX11 71 "LitCoastModel" "saved" "[I" ∈ aTb := tm_5_20 (List.mem_of_getElem? (i := 1) rfl) rfl
theorem tb_1122 : Cond.fieldLink RX11 74 "LitCoastModel" "found" "[I" ∈ aTb := tm_5_20 (List.mem_of_getElem? (i := 2) rfl) rfl
theorem tb_1123 : Cond.fieldLink RX11 324 "LitCoastModel" "codesMany" "I" ∈ aTb := tm_5_20 (List.mem_of_getElem? (i := 3) rfl) rfl
theorem tb_1124 : Cond.fieldLink RX11 77 "LitCoastModel" "trail" "[I" ∈ aTb := tm_5_20 (List.mem_of_getElem? (i := 4) rfl) rfl
theorem tb_1125 : Cond.fieldLink RX11 334 "LitCoastModel" "trailMany" "I" ∈ aTb := tm_5_20 (List.mem_of_getElem? (i := 5) rfl) rfl
theorem tb_1126 : Cond.fieldLink RX11 80 "LitCoastModel" "count0" "[J" ∈ aTb := tm_5_20 (List.mem_of_getElem? (i := 6) rfl) rfl
theorem tb_1127 : Cond.fieldLink RX11 83 "LitCoastModel" "count1" "[J" ∈ aTb := tm_5_20 (List.mem_of_getElem? (i := 7) rfl) rfl
theorem tb_1128 : Cond.fieldLink RX11 86 "LitCoastModel" "least" "[I" ∈ aTb := tm_5_21 (List.mem_of_getElem? (i := 0) rfl) rfl
theorem tb_1129 : Cond.fieldLink RX11 89 "LitCoastModel" "many" "[I" ∈ aTb := tm_5_21 (List.mem_of_getElem? (i := 1) rfl) rfl
theorem tb_1130 : Cond.fieldLink RX11 92 "LitCoastModel" "drawnRow" "[I" ∈ aTb := tm_5_21 (List.mem_of_getElem? (i := 2) rfl) rfl
theorem tb_1131 : Cond.fieldLink RX11 95 "LitCoastModel" "drawnMany" "I" ∈ aTb := tm_5_21 (List.mem_of_getElem? (i := 3) rfl) rfl
theorem tb_1132 : Cond.fieldLink RX11 347 "LitCoastModel" "drawnFails" "I" ∈ aTb := tm_5_21 (List.mem_of_getElem? (i := 4) rfl) rfl
theorem tb_1133 : Cond.fieldLink RX11 344 "LitCoastModel" "latest" "I" ∈ aTb := tm_5_21 (List.mem_of_getElem? (i := 5) rfl) rfl
theorem tb_1219 : Cond.methodLink RL 180 yX11_image ∈ aTb := tm_6_2 (List.mem_of_getElem? (i := 3) rfl) rfl
theorem tb_1220 : Cond.instanceMethod yX11_image ∈ aTb := tm_6_2 (List.mem_of_getElem? (i := 4) rfl) rfl
theorem tb_1221 : Cond.selects RX11 yX11_image yX11_image ∈ aTb := tm_6_2 (List.mem_of_getElem? (i := 5) rfl) rfl
theorem tb_1223 : Cond.methodLink RX11 101 yX11_lies ∈ aTb := tm_6_2 (List.mem_of_getElem? (i := 7) rfl) rfl
theorem tb_1224 : Cond.static yX11_lies ∈ aTb := tm_6_3 (List.mem_of_getElem? (i := 0) rfl) rfl
theorem tb_1226 : Cond.methodLink RX11 105 yX11_refuses ∈ aTb := tm_6_3 (List.mem_of_getElem? (i := 2) rfl) rfl
theorem tb_1228 : Cond.instanceMethod yX11_refuses ∈ aTb := tm_6_3 (List.mem_of_getElem? (i := 4) rfl) rfl
theorem tb_1230 : Cond.methodLink RX11 109 yX11_good ∈ aTb := tm_6_3 (List.mem_of_getElem? (i := 6) rfl) rfl
theorem tb_1232 : Cond.instanceMethod yX11_good ∈ aTb := tm_6_4 (List.mem_of_getElem? (i := 0) rfl) rfl
theorem tb_1234 : Cond.methodLink RL 184 yX11_back ∈ aTb := tm_6_4 (List.mem_of_getElem? (i := 2) rfl) rfl
theorem tb_1235 : Cond.instanceMethod yX11_back ∈ aTb := tm_6_4 (List.mem_of_getElem? (i := 3) rfl) rfl
theorem tb_1236 : Cond.selects RX11 yX11_back yX11_back ∈ aTb := tm_6_4 (List.mem_of_getElem? (i := 4) rfl) rfl
theorem tb_1238 : Cond.methodLink RL 17 yX11_lamps ∈ aTb := tm_6_4 (List.mem_of_getElem? (i := 6) rfl) rfl
theorem tb_1239 : Cond.instanceMethod yX11_lamps ∈ aTb := tm_6_4 (List.mem_of_getElem? (i := 7) rfl) rfl
theorem tb_1240 : Cond.selects RX11 yX11_lamps yX11_lamps ∈ aTb := tm_6_5 (List.mem_of_getElem? (i := 0) rfl) rfl
theorem tb_1242 : Cond.methodLink RL 21 yX11_news ∈ aTb := tm_6_5 (List.mem_of_getElem? (i := 2) rfl) rfl
theorem tb_1243 : Cond.instanceMethod yX11_news ∈ aTb := tm_6_5 (List.mem_of_getElem? (i := 3) rfl) rfl
theorem tb_1244 : Cond.selects RX11 yX11_news yX11_news ∈ aTb := tm_6_5 (List.mem_of_getElem? (i := 4) rfl) rfl
theorem tb_1246 : Cond.methodLink RL 26 yX11_oil ∈ aTb := tm_6_5 (List.mem_of_getElem? (i := 6) rfl) rfl
theorem tb_1247 : Cond.instanceMethod yX11_oil ∈ aTb := tm_6_5 (List.mem_of_getElem? (i := 7) rfl) rfl
theorem tb_1248 : Cond.selects RX11 yX11_oil yX11_oil ∈ aTb := tm_6_6 (List.mem_of_getElem? (i := 0) rfl) rfl
theorem tb_1250 : Cond.methodLink RX11 116 yX11_isLamp ∈ aTb := tm_6_6 (List.mem_of_getElem? (i := 2) rfl) rfl
theorem tb_1252 : Cond.instanceMethod yX11_isLamp ∈ aTb := tm_6_6 (List.mem_of_getElem? (i := 4) rfl) rfl
theorem tb_1254 : Cond.methodLink RL 30 yX11_broken ∈ aTb := tm_6_6 (List.mem_of_getElem? (i := 6) rfl) rfl
theorem tb_1255 : Cond.instanceMethod yX11_broken ∈ aTb := tm_6_6 (List.mem_of_getElem? (i := 7) rfl) rfl
theorem tb_1256 : Cond.selects RX11 yX11_broken yX11_broken ∈ aTb := tm_6_7 (List.mem_of_getElem? (i := 0) rfl) rfl
theorem tb_1258 : Cond.methodLink RL 34 yX11_read ∈ aTb := tm_6_7 (List.mem_of_getElem? (i := 2) rfl) rfl
theorem tb_1259 : Cond.instanceMethod yX11_read ∈ aTb := tm_6_7 (List.mem_of_getElem? (i := 3) rfl) rfl
theorem tb_1260 : Cond.selects RX11 yX11_read yX11_read ∈ aTb := tm_6_7 (List.mem_of_getElem? (i := 4) rfl) rfl
theorem tb_1262 : Cond.methodLink RX11 120 yX11_isState ∈ aTb := tm_6_7 (List.mem_of_getElem? (i := 6) rfl) rfl
theorem tb_1264 : Cond.instanceMethod yX11_isState ∈ aTb := tm_6_8 (List.mem_of_getElem? (i := 0) rfl) rfl
theorem tb_1266 : Cond.methodLink RX11 112 yX11_states ∈ aTb := tm_6_8 (List.mem_of_getElem? (i := 2) rfl) rfl
theorem tb_1268 : Cond.instanceMethod yX11_states ∈ aTb := tm_6_8 (List.mem_of_getElem? (i := 4) rfl) rfl
theorem tb_1270 : Cond.methodLink RX11 123 yX11_isNews ∈ aTb := tm_6_8 (List.mem_of_getElem? (i := 6) rfl) rfl
theorem tb_1272 : Cond.instanceMethod yX11_isNews ∈ aTb := tm_6_9 (List.mem_of_getElem? (i := 0) rfl) rfl
theorem tb_1274 : Cond.methodLink RX11 126 yX11_readOf ∈ aTb := tm_6_9 (List.mem_of_getElem? (i := 2) rfl) rfl
theorem tb_1276 : Cond.instanceMethod yX11_readOf ∈ aTb := tm_6_9 (List.mem_of_getElem? (i := 4) rfl) rfl
theorem tb_1278 : Cond.methodLink RL 38 yX11_of ∈ aTb := tm_6_9 (List.mem_of_getElem? (i := 6) rfl) rfl
theorem tb_1279 : Cond.instanceMethod yX11_of ∈ aTb := tm_6_9 (List.mem_of_getElem? (i := 7) rfl) rfl
theorem tb_1280 : Cond.selects RX11 yX11_of yX11_of ∈ aTb := tm_6_10 (List.mem_of_getElem? (i := 0) rfl) rfl
theorem tb_1282 : Cond.methodLink RL 52 yX11_row ∈ aTb := tm_6_10 (List.mem_of_getElem? (i := 2) rfl) rfl
theorem tb_1283 : Cond.instanceMethod yX11_row ∈ aTb := tm_6_10 (List.mem_of_getElem? (i := 3) rfl) rfl
theorem tb_1284 : Cond.selects RX11 yX11_row yX11_row ∈ aTb := tm_6_10 (List.mem_of_getElem? (i := 4) rfl) rfl
theorem tb_1286 : Cond.methodLink RX11 132 yX11_greater ∈ aTb := tm_6_10 (List.mem_of_getElem? (i := 6) rfl) rfl
theorem tb_1287 : Cond.static yX11_greater ∈ aTb := tm_6_10 (List.mem_of_getElem? (i := 7) rfl) rfl
theorem tb_1289 : Cond.methodLink RX11 139 yX11_readMany ∈ aTb := tm_6_11 (List.mem_of_getElem? (i := 1) rfl) rfl
theorem tb_1291 : Cond.instanceMethod yX11_readMany ∈ aTb := tm_6_11 (List.mem_of_getElem? (i := 3) rfl) rfl
theorem tb_1293 : Cond.methodLink RL 56 yX11_torn ∈ aTb := tm_6_11 (List.mem_of_getElem? (i := 5) rfl) rfl
theorem tb_1294 : Cond.instanceMethod yX11_torn ∈ aTb := tm_6_11 (List.mem_of_getElem? (i := 6) rfl) rfl
theorem tb_1295 : Cond.selects RX11 yX11_torn yX11_torn ∈ aTb := tm_6_11 (List.mem_of_getElem? (i := 7) rfl) rfl
theorem tb_1297 : Cond.methodLink RL 43 yX11_feed ∈ aTb := tm_6_12 (List.mem_of_getElem? (i := 1) rfl) rfl
theorem tb_1298 : Cond.instanceMethod yX11_feed ∈ aTb := tm_6_12 (List.mem_of_getElem? (i := 2) rfl) rfl
theorem tb_1299 : Cond.selects RX11 yX11_feed yX11_feed ∈ aTb := tm_6_12 (List.mem_of_getElem? (i := 3) rfl) rfl
theorem tb_1301 : Cond.methodLink RL 47 yX11_end ∈ aTb := tm_6_12 (List.mem_of_getElem? (i := 5) rfl) rfl
theorem tb_1302 : Cond.instanceMethod yX11_end ∈ aTb := tm_6_12 (List.mem_of_getElem? (i := 6) rfl) rfl
theorem tb_1303 : Cond.selects RX11 yX11_end yX11_end ∈ aTb := tm_6_12 (List.mem_of_getElem? (i := 7) rfl) rfl
theorem tb_1305 : Cond.methodLink RL 60 yX11_law ∈ aTb := tm_6_13 (List.mem_of_getElem? (i := 1) rfl) rfl
theorem tb_1306 : Cond.instanceMethod yX11_law ∈ aTb := tm_6_13 (List.mem_of_getElem? (i := 2) rfl) rfl
theorem tb_1307 : Cond.selects RX11 yX11_law yX11_law ∈ aTb := tm_6_13 (List.mem_of_getElem? (i := 3) rfl) rfl
theorem tb_1309 : Cond.methodLink RX11 209 yX11_reads ∈ aTb := tm_6_13 (List.mem_of_getElem? (i := 5) rfl) rfl
theorem tb_1311 : Cond.instanceMethod yX11_reads ∈ aTb := tm_6_13 (List.mem_of_getElem? (i := 7) rfl) rfl
theorem tb_1313 : Cond.methodLink RX11 203 yX11_splits ∈ aTb := tm_6_14 (List.mem_of_getElem? (i := 1) rfl) rfl
theorem tb_1315 : Cond.instanceMethod yX11_splits ∈ aTb := tm_6_14 (List.mem_of_getElem? (i := 3) rfl) rfl
theorem tb_1317 : Cond.methodLink RX11 145 yX11_isSmall ∈ aTb := tm_6_14 (List.mem_of_getElem? (i := 5) rfl) rfl
theorem tb_1318 : Cond.static yX11_isSmall ∈ aTb := tm_6_14 (List.mem_of_getElem? (i := 6) rfl) rfl
theorem tb_1320 : Cond.methodLink RX11 148 yX11_isDigit ∈ aTb := tm_6_15 (List.mem_of_getElem? (i := 0) rfl) rfl
theorem tb_1321 : Cond.static yX11_isDigit ∈ aTb := tm_6_15 (List.mem_of_getElem? (i := 1) rfl) rfl
theorem tb_1323 : Cond.methodLink RX11 151 yX11_wordOf ∈ aTb := tm_6_15 (List.mem_of_getElem? (i := 3) rfl) rfl
theorem tb_1325 : Cond.instanceMethod yX11_wordOf ∈ aTb := tm_6_15 (List.mem_of_getElem? (i := 5) rfl) rfl
theorem tb_1327 : Cond.constant RX11 154 (Int32.ofInt (1000000)) ∈ aTb := tm_6_15 (List.mem_of_getElem? (i := 7) rfl) rfl
theorem tb_1328 : Cond.methodLink RX11 206 yX11_readClause ∈ aTb := tm_6_16 (List.mem_of_getElem? (i := 0) rfl) rfl
theorem tb_1330 : Cond.instanceMethod yX11_readClause ∈ aTb := tm_6_16 (List.mem_of_getElem? (i := 2) rfl) rfl
theorem tb_1332 : Cond.methodLink RX11 174 yX11_must ∈ aTb := tm_6_16 (List.mem_of_getElem? (i := 4) rfl) rfl
theorem tb_1334 : Cond.instanceMethod yX11_must ∈ aTb := tm_6_16 (List.mem_of_getElem? (i := 6) rfl) rfl
theorem tb_1336 : Cond.methodLink RX11 165 yX11_takes0 ∈ aTb := tm_6_17 (List.mem_of_getElem? (i := 0) rfl) rfl
theorem tb_1338 : Cond.instanceMethod yX11_takes0 ∈ aTb := tm_6_17 (List.mem_of_getElem? (i := 2) rfl) rfl
theorem tb_1340 : Cond.methodLink RX11 158 yX11_fine ∈ aTb := tm_6_17 (List.mem_of_getElem? (i := 4) rfl) rfl
theorem tb_1342 : Cond.instanceMethod yX11_fine ∈ aTb := tm_6_17 (List.mem_of_getElem? (i := 6) rfl) rfl
theorem tb_1344 : Cond.methodLink RX11 168 yX11_faults ∈ aTb := tm_6_18 (List.mem_of_getElem? (i := 0) rfl) rfl
theorem tb_1346 : Cond.instanceMethod yX11_faults ∈ aTb := tm_6_18 (List.mem_of_getElem? (i := 2) rfl) rfl
theorem tb_1348 : Cond.methodLink RX11 178 yX11_readSum ∈ aTb := tm_6_18 (List.mem_of_getElem? (i := 4) rfl) rfl
theorem tb_1350 : Cond.instanceMethod yX11_readSum ∈ aTb := tm_6_18 (List.mem_of_getElem? (i := 6) rfl) rfl
theorem tb_1352 : Cond.methodLink RX11 194 yX11_readTerm ∈ aTb := tm_6_19 (List.mem_of_getElem? (i := 0) rfl) rfl
theorem tb_1354 : Cond.instanceMethod yX11_readTerm ∈ aTb := tm_6_19 (List.mem_of_getElem? (i := 2) rfl) rfl
theorem tb_1356 : Cond.methodLink RX11 197 yX11_readPart ∈ aTb := tm_6_19 (List.mem_of_getElem? (i := 4) rfl) rfl
theorem tb_1358 : Cond.instanceMethod yX11_readPart ∈ aTb := tm_6_19 (List.mem_of_getElem? (i := 6) rfl) rfl
theorem tb_1360 : Cond.methodLink RX11 190 yX11_sign ∈ aTb := tm_6_20 (List.mem_of_getElem? (i := 0) rfl) rfl
theorem tb_1361 : Cond.static yX11_sign ∈ aTb := tm_6_20 (List.mem_of_getElem? (i := 1) rfl) rfl
theorem tb_1363 : Cond.methodLink RX11 200 yX11_leaf ∈ aTb := tm_6_20 (List.mem_of_getElem? (i := 3) rfl) rfl
theorem tb_1365 : Cond.instanceMethod yX11_leaf ∈ aTb := tm_6_20 (List.mem_of_getElem? (i := 5) rfl) rfl
theorem tb_1367 : Cond.methodLink RX11 181 yX11_readTest ∈ aTb := tm_6_20 (List.mem_of_getElem? (i := 7) rfl) rfl
theorem tb_1369 : Cond.instanceMethod yX11_readTest ∈ aTb := tm_6_21 (List.mem_of_getElem? (i := 1) rfl) rfl
theorem tb_1371 : Cond.methodLink RX11 184 yX11_readBoth ∈ aTb := tm_6_21 (List.mem_of_getElem? (i := 3) rfl) rfl
theorem tb_1373 : Cond.instanceMethod yX11_readBoth ∈ aTb := tm_6_21 (List.mem_of_getElem? (i := 5) rfl) rfl
theorem tb_1375 : Cond.methodLink RX11 187 yX11_readPlain ∈ aTb := tm_6_21 (List.mem_of_getElem? (i := 7) rfl) rfl
theorem tb_1377 : Cond.instanceMethod yX11_readPlain ∈ aTb := tm_6_22 (List.mem_of_getElem? (i := 1) rfl) rfl
theorem tb_1379 : Cond.methodLink RL 64 yX11_fault ∈ aTb := tm_6_22 (List.mem_of_getElem? (i := 3) rfl) rfl
theorem tb_1380 : Cond.instanceMethod yX11_fault ∈ aTb := tm_6_22 (List.mem_of_getElem? (i := 4) rfl) rfl
theorem tb_1381 : Cond.selects RX11 yX11_fault yX11_fault ∈ aTb := tm_6_22 (List.mem_of_getElem? (i := 5) rfl) rfl
theorem tb_1383 : Cond.methodLink RL 68 yX11_learn ∈ aTb := tm_6_22 (List.mem_of_getElem? (i := 7) rfl) rfl
theorem tb_1384 : Cond.instanceMethod yX11_learn ∈ aTb := tm_6_23 (List.mem_of_getElem? (i := 0) rfl) rfl
theorem tb_1385 : Cond.selects RX11 yX11_learn yX11_learn ∈ aTb := tm_6_23 (List.mem_of_getElem? (i := 1) rfl) rfl
theorem tb_1387 : Cond.methodLink RX11 264 yX11_asksOf ∈ aTb := tm_6_23 (List.mem_of_getElem? (i := 3) rfl) rfl
theorem tb_1389 : Cond.instanceMethod yX11_asksOf ∈ aTb := tm_6_23 (List.mem_of_getElem? (i := 5) rfl) rfl
theorem tb_1391 : Cond.methodLink RX11 259 yX11_ones ∈ aTb := tm_6_23 (List.mem_of_getElem? (i := 7) rfl) rfl
theorem tb_1392 : Cond.static yX11_ones ∈ aTb := tm_6_24 (List.mem_of_getElem? (i := 0) rfl) rfl
theorem tb_1394 : Cond.methodLink RX11 267 yX11_toldBy ∈ aTb := tm_6_24 (List.mem_of_getElem? (i := 2) rfl) rfl
theorem tb_1396 : Cond.instanceMethod yX11_toldBy ∈ aTb := tm_6_24 (List.mem_of_getElem? (i := 4) rfl) rfl
theorem tb_1398 : Cond.constantLong RX11 262 (Int64.ofInt (-1)) ∈ aTb := tm_6_24 (List.mem_of_getElem? (i := 6) rfl) rfl
theorem tb_1399 : Cond.methodLink RX11 243 yX11_sumOf ∈ aTb := tm_6_24 (List.mem_of_getElem? (i := 7) rfl) rfl
theorem tb_1401 : Cond.instanceMethod yX11_sumOf ∈ aTb := tm_6_25 (List.mem_of_getElem? (i := 1) rfl) rfl
theorem tb_1403 : Cond.methodLink RX11 229 yX11_termOf ∈ aTb := tm_6_25 (List.mem_of_getElem? (i := 3) rfl) rfl
theorem tb_1405 : Cond.instanceMethod yX11_termOf ∈ aTb := tm_6_25 (List.mem_of_getElem? (i := 5) rfl) rfl
theorem tb_1407 : Cond.methodLink RX11 237 yX11_partOf ∈ aTb := tm_6_25 (List.mem_of_getElem? (i := 7) rfl) rfl
theorem tb_1409 : Cond.instanceMethod yX11_partOf ∈ aTb := tm_6_26 (List.mem_of_getElem? (i := 1) rfl) rfl
theorem tb_1411 : Cond.methodLink RX11 240 yX11_passes0 ∈ aTb := tm_6_26 (List.mem_of_getElem? (i := 3) rfl) rfl
theorem tb_1413 : Cond.instanceMethod yX11_passes0 ∈ aTb := tm_6_26 (List.mem_of_getElem? (i := 5) rfl) rfl
theorem tb_1415 : Cond.methodLink RX11 218 yX11_codeAt ∈ aTb := tm_6_26 (List.mem_of_getElem? (i := 7) rfl) rfl
theorem tb_1417 : Cond.instanceMethod yX11_codeAt ∈ aTb := tm_6_27 (List.mem_of_getElem? (i := 1) rfl) rfl
theorem tb_1419 : Cond.methodLink RX11 233 yX11_bounded ∈ aTb := tm_6_27 (List.mem_of_getElem? (i := 3) rfl) rfl
theorem tb_1421 : Cond.instanceMethod yX11_bounded ∈ aTb := tm_6_27 (List.mem_of_getElem? (i := 5) rfl) rfl
theorem tb_1423 : Cond.constantLong RX11 221 (Int64.ofInt (1000000000)) ∈ aTb := tm_6_27 (List.mem_of_getElem? (i := 7) rfl) rfl
theorem tb_1424 : Cond.constantLong RX11 223 (Int64.ofInt (-1000000000)) ∈ aTb := tm_6_28 (List.mem_of_getElem? (i := 0) rfl) rfl
theorem tb_1425 : Cond.methodLink RX11 256 yX11_testOf ∈ aTb := tm_6_28 (List.mem_of_getElem? (i := 1) rfl) rfl
theorem tb_1427 : Cond.instanceMethod yX11_testOf ∈ aTb := tm_6_28 (List.mem_of_getElem? (i := 3) rfl) rfl
theorem tb_1429 : Cond.methodLink RX11 246 yX11_bothOf ∈ aTb := tm_6_28 (List.mem_of_getElem? (i := 5) rfl) rfl
theorem tb_1431 : Cond.instanceMethod yX11_bothOf ∈ aTb := tm_6_28 (List.mem_of_getElem? (i := 7) rfl) rfl
theorem tb_1433 : Cond.methodLink RX11 250 yX11_plainOf ∈ aTb := tm_6_29 (List.mem_of_getElem? (i := 1) rfl) rfl
theorem tb_1435 : Cond.instanceMethod yX11_plainOf ∈ aTb := tm_6_29 (List.mem_of_getElem? (i := 3) rfl) rfl
theorem tb_1437 : Cond.methodLink RX11 253 yX11_positiveOf ∈ aTb := tm_6_29 (List.mem_of_getElem? (i := 5) rfl) rfl
theorem tb_1439 : Cond.instanceMethod yX11_positiveOf ∈ aTb := tm_6_29 (List.mem_of_getElem? (i := 7) rfl) rfl
theorem tb_1441 : Cond.methodLink RL 81 yX11_lasts ∈ aTb := tm_7_0 (List.mem_of_getElem? (i := 1) rfl) rfl
theorem tb_1442 : Cond.instanceMethod yX11_lasts ∈ aTb := tm_7_0 (List.mem_of_getElem? (i := 2) rfl) rfl
theorem tb_1443 : Cond.selects RX11 yX11_lasts yX11_lasts ∈ aTb := tm_7_0 (List.mem_of_getElem? (i := 3) rfl) rfl
theorem tb_1445 : Cond.methodLink RX11 294 yX11_looks ∈ aTb := tm_7_0 (List.mem_of_getElem? (i := 5) rfl) rfl
theorem tb_1447 : Cond.instanceMethod yX11_looks ∈ aTb := tm_7_0 (List.mem_of_getElem? (i := 7) rfl) rfl
theorem tb_1449 : Cond.methodLink RX11 285 yX11_lasts0 ∈ aTb := tm_7_1 (List.mem_of_getElem? (i := 1) rfl) rfl
theorem tb_1451 : Cond.instanceMethod yX11_lasts0 ∈ aTb := tm_7_1 (List.mem_of_getElem? (i := 3) rfl) rfl
theorem tb_1453 : Cond.methodLink RX11 291 yX11_lastingOf ∈ aTb := tm_7_1 (List.mem_of_getElem? (i := 5) rfl) rfl
theorem tb_1455 : Cond.instanceMethod yX11_lastingOf ∈ aTb := tm_7_1 (List.mem_of_getElem? (i := 7) rfl) rfl
theorem tb_1457 : Cond.constant RX11 270 (Int32.ofInt (1000000000)) ∈ aTb := tm_7_2 (List.mem_of_getElem? (i := 1) rfl) rfl
theorem tb_1458 : Cond.methodLink RX11 271 yX11_canCome ∈ aTb := tm_7_2 (List.mem_of_getElem? (i := 2) rfl) rfl
theorem tb_1460 : Cond.instanceMethod yX11_canCome ∈ aTb := tm_7_2 (List.mem_of_getElem? (i := 4) rfl) rfl
theorem tb_1462 : Cond.methodLink RX11 288 yX11_meanOf ∈ aTb := tm_7_2 (List.mem_of_getElem? (i := 6) rfl) rfl
theorem tb_1464 : Cond.instanceMethod yX11_meanOf ∈ aTb := tm_7_3 (List.mem_of_getElem? (i := 0) rfl) rfl
theorem tb_1466 : Cond.methodLink RX11 274 yX11_dark ∈ aTb := tm_7_3 (List.mem_of_getElem? (i := 2) rfl) rfl
theorem tb_1468 : Cond.instanceMethod yX11_dark ∈ aTb := tm_7_3 (List.mem_of_getElem? (i := 4) rfl) rfl
theorem tb_1470 : Cond.methodLink RX11 277 yX11_power ∈ aTb := tm_7_3 (List.mem_of_getElem? (i := 6) rfl) rfl
theorem tb_1472 : Cond.instanceMethod yX11_power ∈ aTb := tm_7_4 (List.mem_of_getElem? (i := 0) rfl) rfl
theorem tb_1474 : Cond.methodLink RX11 281 yX11_meanIn ∈ aTb := tm_7_4 (List.mem_of_getElem? (i := 2) rfl) rfl
theorem tb_1476 : Cond.instanceMethod yX11_meanIn ∈ aTb := tm_7_4 (List.mem_of_getElem? (i := 4) rfl) rfl
theorem tb_1478 : Cond.methodLink RL 86 yX11_mean ∈ aTb := tm_7_4 (List.mem_of_getElem? (i := 6) rfl) rfl
theorem tb_1479 : Cond.instanceMethod yX11_mean ∈ aTb := tm_7_4 (List.mem_of_getElem? (i := 7) rfl) rfl
theorem tb_1480 : Cond.selects RX11 yX11_mean yX11_mean ∈ aTb := tm_7_5 (List.mem_of_getElem? (i := 0) rfl) rfl
theorem tb_1482 : Cond.methodLink RX11 297 yX11_gcd ∈ aTb := tm_7_5 (List.mem_of_getElem? (i := 2) rfl) rfl
theorem tb_1483 : Cond.static yX11_gcd ∈ aTb := tm_7_5 (List.mem_of_getElem? (i := 3) rfl) rfl
theorem tb_1485 : Cond.methodLink RL 73 yX11_next ∈ aTb := tm_7_5 (List.mem_of_getElem? (i := 5) rfl) rfl
theorem tb_1486 : Cond.instanceMethod yX11_next ∈ aTb := tm_7_5 (List.mem_of_getElem? (i := 6) rfl) rfl
theorem tb_1487 : Cond.selects RX11 yX11_next yX11_next ∈ aTb := tm_7_5 (List.mem_of_getElem? (i := 7) rfl) rfl
theorem tb_1489 : Cond.methodLink RX11 308 yX11_isManner ∈ aTb := tm_7_6 (List.mem_of_getElem? (i := 1) rfl) rfl
theorem tb_1490 : Cond.static yX11_isManner ∈ aTb := tm_7_6 (List.mem_of_getElem? (i := 2) rfl) rfl
theorem tb_1492 : Cond.methodLink RX11 311 yX11_nextOf ∈ aTb := tm_7_6 (List.mem_of_getElem? (i := 4) rfl) rfl
theorem tb_1494 : Cond.instanceMethod yX11_nextOf ∈ aTb := tm_7_6 (List.mem_of_getElem? (i := 6) rfl) rfl
theorem tb_1496 : Cond.methodLink RX11 304 yX11_isBetter ∈ aTb := tm_7_7 (List.mem_of_getElem? (i := 0) rfl) rfl
theorem tb_1498 : Cond.instanceMethod yX11_isBetter ∈ aTb := tm_7_7 (List.mem_of_getElem? (i := 2) rfl) rfl
theorem tb_1500 : Cond.methodLink RX11 301 yX11_oilOf ∈ aTb := tm_7_7 (List.mem_of_getElem? (i := 4) rfl) rfl
theorem tb_1502 : Cond.instanceMethod yX11_oilOf ∈ aTb := tm_7_7 (List.mem_of_getElem? (i := 6) rfl) rfl
theorem tb_1504 : Cond.methodLink RL 77 yX11_ways ∈ aTb := tm_7_8 (List.mem_of_getElem? (i := 0) rfl) rfl
theorem tb_1505 : Cond.instanceMethod yX11_ways ∈ aTb := tm_7_8 (List.mem_of_getElem? (i := 1) rfl) rfl
theorem tb_1506 : Cond.selects RX11 yX11_ways yX11_ways ∈ aTb := tm_7_8 (List.mem_of_getElem? (i := 2) rfl) rfl
theorem tb_1508 : Cond.methodLink RL 90 yX11_reached ∈ aTb := tm_7_8 (List.mem_of_getElem? (i := 4) rfl) rfl
theorem tb_1509 : Cond.instanceMethod yX11_reached ∈ aTb := tm_7_8 (List.mem_of_getElem? (i := 5) rfl) rfl
theorem tb_1510 : Cond.selects RX11 yX11_reached yX11_reached ∈ aTb := tm_7_8 (List.mem_of_getElem? (i := 6) rfl) rfl
theorem tb_1512 : Cond.methodLink RX11 315 yX11_reaches ∈ aTb := tm_7_9 (List.mem_of_getElem? (i := 0) rfl) rfl
theorem tb_1514 : Cond.instanceMethod yX11_reaches ∈ aTb := tm_7_9 (List.mem_of_getElem? (i := 2) rfl) rfl
theorem tb_1516 : Cond.methodLink RL 94 yX11_failing ∈ aTb := tm_7_9 (List.mem_of_getElem? (i := 4) rfl) rfl
theorem tb_1517 : Cond.instanceMethod yX11_failing ∈ aTb := tm_7_9 (List.mem_of_getElem? (i := 5) rfl) rfl
theorem tb_1518 : Cond.selects RX11 yX11_failing yX11_failing ∈ aTb := tm_7_9 (List.mem_of_getElem? (i := 6) rfl) rfl
theorem tb_1520 : Cond.methodLink RX11 321 yX11_failing0 ∈ aTb := tm_7_10 (List.mem_of_getElem? (i := 0) rfl) rfl
theorem tb_1522 : Cond.instanceMethod yX11_failing0 ∈ aTb := tm_7_10 (List.mem_of_getElem? (i := 2) rfl) rfl
theorem tb_1524 : Cond.methodLink RL 98 yX11_hurts ∈ aTb := tm_7_10 (List.mem_of_getElem? (i := 4) rfl) rfl
theorem tb_1525 : Cond.instanceMethod yX11_hurts ∈ aTb := tm_7_10 (List.mem_of_getElem? (i := 5) rfl) rfl
theorem tb_1526 : Cond.selects RX11 yX11_hurts yX11_hurts ∈ aTb := tm_7_10 (List.mem_of_getElem? (i := 6) rfl) rfl
theorem tb_1528 : Cond.methodLink RL 102 yX11_codes ∈ aTb := tm_7_11 (List.mem_of_getElem? (i := 0) rfl) rfl
theorem tb_1529 : Cond.instanceMethod yX11_codes ∈ aTb := tm_7_11 (List.mem_of_getElem? (i := 1) rfl) rfl
theorem tb_1530 : Cond.selects RX11 yX11_codes yX11_codes ∈ aTb := tm_7_11 (List.mem_of_getElem? (i := 2) rfl) rfl
theorem tb_1532 : Cond.methodLink RX11 327 yX11_areCodes ∈ aTb := tm_7_11 (List.mem_of_getElem? (i := 4) rfl) rfl
theorem tb_1533 : Cond.static yX11_areCodes ∈ aTb := tm_7_11 (List.mem_of_getElem? (i := 5) rfl) rfl
theorem tb_1535 : Cond.methodLink RX11 330 yX11_codes0 ∈ aTb := tm_7_11 (List.mem_of_getElem? (i := 7) rfl) rfl
theorem tb_1537 : Cond.instanceMethod yX11_codes0 ∈ aTb := tm_7_12 (List.mem_of_getElem? (i := 1) rfl) rfl
theorem tb_1539 : Cond.methodLink RL 106 yX11_make ∈ aTb := tm_7_12 (List.mem_of_getElem? (i := 3) rfl) rfl
theorem tb_1540 : Cond.instanceMethod yX11_make ∈ aTb := tm_7_12 (List.mem_of_getElem? (i := 4) rfl) rfl
theorem tb_1541 : Cond.selects RX11 yX11_make yX11_make ∈ aTb := tm_7_12 (List.mem_of_getElem? (i := 5) rfl) rfl
theorem tb_1543 : Cond.methodLink RL 110 yX11_send ∈ aTb := tm_7_12 (List.mem_of_getElem? (i := 7) rfl) rfl
theorem tb_1544 : Cond.instanceMethod yX11_send ∈ aTb := tm_7_13 (List.mem_of_getElem? (i := 0) rfl) rfl
theorem tb_1545 : Cond.selects RX11 yX11_send yX11_send ∈ aTb := tm_7_13 (List.mem_of_getElem? (i := 1) rfl) rfl
theorem tb_1547 : Cond.methodLink RL 114 yX11_dawn ∈ aTb := tm_7_13 (List.mem_of_getElem? (i := 3) rfl) rfl
theorem tb_1548 : Cond.instanceMethod yX11_dawn ∈ aTb := tm_7_13 (List.mem_of_getElem? (i := 4) rfl) rfl
theorem tb_1549 : Cond.selects RX11 yX11_dawn yX11_dawn ∈ aTb := tm_7_13 (List.mem_of_getElem? (i := 5) rfl) rfl
theorem tb_1551 : Cond.methodLink RL 118 yX11_log ∈ aTb := tm_7_13 (List.mem_of_getElem? (i := 7) rfl) rfl
theorem tb_1552 : Cond.instanceMethod yX11_log ∈ aTb := tm_7_14 (List.mem_of_getElem? (i := 0) rfl) rfl
theorem tb_1553 : Cond.selects RX11 yX11_log yX11_log ∈ aTb := tm_7_14 (List.mem_of_getElem? (i := 1) rfl) rfl
theorem tb_1555 : Cond.methodLink RL 122 yX11_burnt ∈ aTb := tm_7_14 (List.mem_of_getElem? (i := 3) rfl) rfl
theorem tb_1556 : Cond.instanceMethod yX11_burnt ∈ aTb := tm_7_14 (List.mem_of_getElem? (i := 4) rfl) rfl
theorem tb_1557 : Cond.selects RX11 yX11_burnt yX11_burnt ∈ aTb := tm_7_14 (List.mem_of_getElem? (i := 5) rfl) rfl
theorem tb_1559 : Cond.methodLink RL 126 yX11_trail ∈ aTb := tm_7_14 (List.mem_of_getElem? (i := 7) rfl) rfl
theorem tb_1560 : Cond.instanceMethod yX11_trail ∈ aTb := tm_7_15 (List.mem_of_getElem? (i := 0) rfl) rfl
theorem tb_1561 : Cond.selects RX11 yX11_trail yX11_trail ∈ aTb := tm_7_15 (List.mem_of_getElem? (i := 1) rfl) rfl
theorem tb_1563 : Cond.methodLink RL 130 yX11_judge ∈ aTb := tm_7_15 (List.mem_of_getElem? (i := 3) rfl) rfl
theorem tb_1564 : Cond.instanceMethod yX11_judge ∈ aTb := tm_7_15 (List.mem_of_getElem? (i := 4) rfl) rfl
theorem tb_1565 : Cond.selects RX11 yX11_judge yX11_judge ∈ aTb := tm_7_15 (List.mem_of_getElem? (i := 5) rfl) rfl
theorem tb_1567 : Cond.methodLink RL 135 yX11_rows ∈ aTb := tm_7_15 (List.mem_of_getElem? (i := 7) rfl) rfl
theorem tb_1568 : Cond.instanceMethod yX11_rows ∈ aTb := tm_7_16 (List.mem_of_getElem? (i := 0) rfl) rfl
theorem tb_1569 : Cond.selects RX11 yX11_rows yX11_rows ∈ aTb := tm_7_16 (List.mem_of_getElem? (i := 1) rfl) rfl
theorem tb_1571 : Cond.methodLink RX11 337 yX11_rowsOf ∈ aTb := tm_7_16 (List.mem_of_getElem? (i := 3) rfl) rfl
theorem tb_1573 : Cond.instanceMethod yX11_rowsOf ∈ aTb := tm_7_16 (List.mem_of_getElem? (i := 5) rfl) rfl
theorem tb_1575 : Cond.methodLink RL 140 yX11_could ∈ aTb := tm_7_16 (List.mem_of_getElem? (i := 7) rfl) rfl
theorem tb_1576 : Cond.instanceMethod yX11_could ∈ aTb := tm_7_17 (List.mem_of_getElem? (i := 0) rfl) rfl
theorem tb_1577 : Cond.selects RX11 yX11_could yX11_could ∈ aTb := tm_7_17 (List.mem_of_getElem? (i := 1) rfl) rfl
theorem tb_1579 : Cond.methodLink RL 144 yX11_maybe ∈ aTb := tm_7_17 (List.mem_of_getElem? (i := 3) rfl) rfl
theorem tb_1580 : Cond.instanceMethod yX11_maybe ∈ aTb := tm_7_17 (List.mem_of_getElem? (i := 4) rfl) rfl
theorem tb_1581 : Cond.selects RX11 yX11_maybe yX11_maybe ∈ aTb := tm_7_17 (List.mem_of_getElem? (i := 5) rfl) rfl
theorem tb_1583 : Cond.methodLink RL 148 yX11_safe ∈ aTb := tm_7_17 (List.mem_of_getElem? (i := 7) rfl) rfl
theorem tb_1584 : Cond.instanceMethod yX11_safe ∈ aTb := tm_7_18 (List.mem_of_getElem? (i := 0) rfl) rfl
theorem tb_1585 : Cond.selects RX11 yX11_safe yX11_safe ∈ aTb := tm_7_18 (List.mem_of_getElem? (i := 1) rfl) rfl
theorem tb_1587 : Cond.methodLink RL 152 yX11_spy ∈ aTb := tm_7_18 (List.mem_of_getElem? (i := 3) rfl) rfl
theorem tb_1588 : Cond.instanceMethod yX11_spy ∈ aTb := tm_7_18 (List.mem_of_getElem? (i := 4) rfl) rfl
theorem tb_1589 : Cond.selects RX11 yX11_spy yX11_spy ∈ aTb := tm_7_18 (List.mem_of_getElem? (i := 5) rfl) rfl
theorem tb_1591 : Cond.methodLink RL 156 yX11_want ∈ aTb := tm_7_18 (List.mem_of_getElem? (i := 7) rfl) rfl
theorem tb_1592 : Cond.instanceMethod yX11_want ∈ aTb := tm_7_19 (List.mem_of_getElem? (i := 0) rfl) rfl
theorem tb_1593 : Cond.selects RX11 yX11_want yX11_want ∈ aTb := tm_7_19 (List.mem_of_getElem? (i := 1) rfl) rfl
theorem tb_1595 : Cond.methodLink RL 160 yX11_unwant ∈ aTb := tm_7_19 (List.mem_of_getElem? (i := 3) rfl) rfl
theorem tb_1596 : Cond.instanceMethod yX11_unwant ∈ aTb := tm_7_19 (List.mem_of_getElem? (i := 4) rfl) rfl
theorem tb_1597 : Cond.selects RX11 yX11_unwant yX11_unwant ∈ aTb := tm_7_19 (List.mem_of_getElem? (i := 5) rfl) rfl
theorem tb_1599 : Cond.methodLink RL 164 yX11_cheap ∈ aTb := tm_7_19 (List.mem_of_getElem? (i := 7) rfl) rfl
theorem tb_1600 : Cond.instanceMethod yX11_cheap ∈ aTb := tm_7_20 (List.mem_of_getElem? (i := 0) rfl) rfl
theorem tb_1601 : Cond.selects RX11 yX11_cheap yX11_cheap ∈ aTb := tm_7_20 (List.mem_of_getElem? (i := 1) rfl) rfl
theorem tb_1603 : Cond.methodLink RX11 341 yX11_plans ∈ aTb := tm_7_20 (List.mem_of_getElem? (i := 3) rfl) rfl
theorem tb_1605 : Cond.instanceMethod yX11_plans ∈ aTb := tm_7_20 (List.mem_of_getElem? (i := 5) rfl) rfl
theorem tb_1607 : Cond.methodLink RL 168 yX11_plan ∈ aTb := tm_7_20 (List.mem_of_getElem? (i := 7) rfl) rfl
theorem tb_1608 : Cond.instanceMethod yX11_plan ∈ aTb := tm_7_21 (List.mem_of_getElem? (i := 0) rfl) rfl
theorem tb_1609 : Cond.selects RX11 yX11_plan yX11_plan ∈ aTb := tm_7_21 (List.mem_of_getElem? (i := 1) rfl) rfl
theorem tb_1611 : Cond.methodLink RL 172 yX11_night ∈ aTb := tm_7_21 (List.mem_of_getElem? (i := 3) rfl) rfl
theorem tb_1612 : Cond.instanceMethod yX11_night ∈ aTb := tm_7_21 (List.mem_of_getElem? (i := 4) rfl) rfl
theorem tb_1613 : Cond.selects RX11 yX11_night yX11_night ∈ aTb := tm_7_21 (List.mem_of_getElem? (i := 5) rfl) rfl
theorem tb_1615 : Cond.constantLong RX11 350 (Int64.ofInt (1103)) ∈ aTb := tm_7_21 (List.mem_of_getElem? (i := 7) rfl) rfl
theorem tb_1616 : Cond.constantLong RX11 352 (Int64.ofInt (12345)) ∈ aTb := tm_7_22 (List.mem_of_getElem? (i := 0) rfl) rfl
theorem tb_1617 : Cond.constantLong RX11 354 (Int64.ofInt (1000003)) ∈ aTb := tm_7_22 (List.mem_of_getElem? (i := 1) rfl) rfl
theorem tb_1618 : Cond.methodLink RL 176 yX11_drawn ∈ aTb := tm_7_22 (List.mem_of_getElem? (i := 2) rfl) rfl
theorem tb_1619 : Cond.instanceMethod yX11_drawn ∈ aTb := tm_7_22 (List.mem_of_getElem? (i := 3) rfl) rfl
theorem tb_1620 : Cond.selects RX11 yX11_drawn yX11_drawn ∈ aTb := tm_7_22 (List.mem_of_getElem? (i := 4) rfl) rfl
theorem tb_1622 : Cond.methodLink RL 188 yX11_count ∈ aTb := tm_7_22 (List.mem_of_getElem? (i := 6) rfl) rfl
theorem tb_1623 : Cond.instanceMethod yX11_count ∈ aTb := tm_7_22 (List.mem_of_getElem? (i := 7) rfl) rfl
theorem tb_1624 : Cond.selects RX11 yX11_count yX11_count ∈ aTb := tm_7_23 (List.mem_of_getElem? (i := 0) rfl) rfl
theorem tb_1626 : Cond.methodLink RL 192 yX11_status ∈ aTb := tm_7_23 (List.mem_of_getElem? (i := 2) rfl) rfl
theorem tb_1627 : Cond.instanceMethod yX11_status ∈ aTb := tm_7_23 (List.mem_of_getElem? (i := 3) rfl) rfl
theorem tb_1628 : Cond.selects RX11 yX11_status yX11_status ∈ aTb := tm_7_23 (List.mem_of_getElem? (i := 4) rfl) rfl
theorem tb_1630 : Cond.fieldLink RJ0 9 "java/lang/String" "value" "[B" ∈ aTb := tm_7_23 (List.mem_of_getElem? (i := 6) rfl) rfl
theorem tb_1631 : Cond.fieldLink RJ0 15 "java/lang/String" "coder" "B" ∈ aTb := tm_7_23 (List.mem_of_getElem? (i := 7) rfl) rfl
theorem tk_link : Cond.methodLink RJ7 316 ⟨"[I", "clone", "()Ljava/lang/Object;"⟩ ∈ aTb := tm_3_21 (List.mem_of_getElem? (i := 5) rfl) rfl
theorem tk_same : Cond.sameMethod "[I" "java/lang/Object" "clone" "()Ljava/lang/Object;" ∈ aTb := tm_3_21 (List.mem_of_getElem? (i := 6) rfl) rfl
theorem tk_nat : Cond.native ⟨"java/lang/Object", "clone", "()Ljava/lang/Object;"⟩ ∈ aTb := tm_3_21 (List.mem_of_getElem? (i := 7) rfl) rfl
theorem tk_inst : Cond.instanceMethod ⟨"java/lang/Object", "clone", "()Ljava/lang/Object;"⟩ ∈ aTb := tm_3_22 (List.mem_of_getElem? (i := 0) rfl) rfl
theorem tk_sel : Cond.selects "[I" ⟨"[I", "clone", "()Ljava/lang/Object;"⟩ ⟨"java/lang/Object", "clone", "()Ljava/lang/Object;"⟩ ∈ aTb := tm_3_22 (List.mem_of_getElem? (i := 1) rfl) rfl
abbrev mX0_init : aM := (yX0_init, cX0_init, 1, none)
theorem tc_X0_init : Cond.code yX0_init cX0_init 1 none ∈ aTb := tm_1_21 (List.mem_of_getElem? (i := 0) rfl) rfl
abbrev mX0_ask : aM := (yX0_ask, cX0_ask, 10, (some .int))
