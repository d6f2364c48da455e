theorem q_f_X1_11 : Cond.fieldLink RX1 11 "StrawButts$Field" "cells" "[I" ∈ kGW := kin1 (i := 91) rfl rfl
theorem q_z_X11 : Cond.initialized RX11 ∈ kGW := kin1 (i := 1) rfl rfl
theorem q_c_X11_within : Cond.code yX11_within cX11_within 3 (some .boolean) ∈ kGW := kin2 (i := 97) rfl rfl
theorem q_s_X11_within : Cond.static yX11_within ∈ kGW := kin2 (i := 96) rfl rfl
theorem q_f_X11_43 : Cond.fieldLink RX11 43 "StrawButts" "now" "LStrawButts$Moment;" ∈ kGW := kin2 (i := 50) rfl rfl
theorem q_f_X11_111 : Cond.fieldLink RX11 111 "StrawButts$Moment" "field" "LStrawButts$Field;" ∈ kGW := kin1 (i := 153) rfl rfl
theorem q_m_X11_136 : Cond.methodLink RX11 136 yX1_hasRing ∈ kGW := kin3 (i := 107) rfl rfl
theorem q_z_X1 : Cond.initialized RX1 ∈ kGW := kin1 (i := 4) rfl rfl
theorem q_c_X1_hasRing : Cond.code yX1_hasRing cX1_hasRing 2 (some .boolean) ∈ kGW := kin3 (i := 110) rfl rfl
theorem q_i_X1_hasRing : Cond.instanceMethod yX1_hasRing ∈ kGW := kin3 (i := 108) rfl rfl
theorem q_s_X1_hasRing : Cond.selects RX1 yX1_hasRing yX1_hasRing ∈ kGW := kin3 (i := 109) rfl rfl
theorem q_m_X11_139 : Cond.methodLink RX11 139 yX1_hasArcher ∈ kGW := kin3 (i := 116) rfl rfl
theorem q_c_X1_hasArcher : Cond.code yX1_hasArcher cX1_hasArcher 2 (some .boolean) ∈ kGW := kin3 (i := 119) rfl rfl
theorem q_i_X1_hasArcher : Cond.instanceMethod yX1_hasArcher ∈ kGW := kin3 (i := 117) rfl rfl
theorem q_s_X1_hasArcher : Cond.selects RX1 yX1_hasArcher yX1_hasArcher ∈ kGW := kin3 (i := 118) rfl rfl
theorem q_f_X11_124 : Cond.fieldLink RX11 124 "StrawButts$Field" "cells" "[I" ∈ kGW := kin1 (i := 96) rfl rfl
theorem q_m_X11_90 : Cond.methodLink RX11 90 yX11_within ∈ kGW := kin2 (i := 95) rfl rfl
theorem q_m_X11_152 : Cond.methodLink RX11 152 yX1_isTold ∈ kGW := kin3 (i := 140) rfl rfl
theorem q_c_X1_isTold : Cond.code yX1_isTold cX1_isTold 1 (some .boolean) ∈ kGW := kin3 (i := 143) rfl rfl
theorem q_i_X1_isTold : Cond.instanceMethod yX1_isTold ∈ kGW := kin3 (i := 141) rfl rfl
theorem q_s_X1_isTold : Cond.selects RX1 yX1_isTold yX1_isTold ∈ kGW := kin3 (i := 142) rfl rfl
theorem q_f_X11_54 : Cond.fieldLink RX11 54 "StrawButts" "acts" "LStrawButts$Acts;" ∈ kGW := kin2 (i := 52) rfl rfl
theorem q_f_X11_123 : Cond.fieldLink RX11 123 "StrawButts$Acts" "size" "I" ∈ kGW := kin1 (i := 191) rfl rfl
theorem q_f_X11_36 : Cond.fieldLink RX11 36 "StrawButts" "ruleCount" "I" ∈ kGW := kin2 (i := 49) rfl rfl
theorem q_f_X11_133 : Cond.fieldLink RX11 133 "StrawButts$Moment" "inForce" "I" ∈ kGW := kin1 (i := 161) rfl rfl
theorem q_m_X11_146 : Cond.methodLink RX11 146 yX1_sumOfArchers ∈ kGW := kin3 (i := 132) rfl rfl
theorem q_c_X1_sumOfArchers : Cond.code yX1_sumOfArchers cX1_sumOfArchers 4 (some .int) ∈ kGW := kin3 (i := 135) rfl rfl
theorem q_i_X1_sumOfArchers : Cond.instanceMethod yX1_sumOfArchers ∈ kGW := kin3 (i := 133) rfl rfl
theorem q_s_X1_sumOfArchers : Cond.selects RX1 yX1_sumOfArchers yX1_sumOfArchers ∈ kGW := kin3 (i := 134) rfl rfl
theorem q_f_X11_114 : Cond.fieldLink RX11 114 "StrawButts$Moment" "notes" "LStrawButts$Notes;" ∈ kGW := kin1 (i := 159) rfl rfl
theorem q_f_X11_118 : Cond.fieldLink RX11 118 "StrawButts$Notes" "size" "I" ∈ kGW := kin1 (i := 142) rfl rfl
theorem q_f_X11_149 : Cond.fieldLink RX11 149 "StrawButts$Moment" "x" "I" ∈ kGW := kin1 (i := 163) rfl rfl
theorem q_f_X11_10 : Cond.fieldLink RX11 10 "StrawButts" "tape" "LStrawButts$Tape;" ∈ kGW := kin2 (i := 45) rfl rfl
theorem q_f_X11_87 : Cond.fieldLink RX11 87 "StrawButts$Tape" "length" "I" ∈ kGW := kin1 (i := 37) rfl rfl
theorem q_f_X11_47 : Cond.fieldLink RX11 47 "StrawButts" "images" "[LStrawButts$Moment;" ∈ kGW := kin2 (i := 51) rfl rfl
theorem q_f_X11_273 : Cond.fieldLink RX11 273 "StrawButts$Moment" "isMade" "Z" ∈ kGW := kin1 (i := 165) rfl rfl
theorem q_f_X10_15 : Cond.fieldLink RX10 15 "StrawButts$Tape" "length" "I" ∈ kGW := kin1 (i := 36) rfl rfl
theorem q_f_X10_11 : Cond.fieldLink RX10 11 "StrawButts$Tape" "bytes" "[I" ∈ kGW := kin1 (i := 35) rfl rfl
theorem q_m_X11_79 : Cond.methodLink RX11 79 yX10_hasRoom ∈ kGW := kin2 (i := 83) rfl rfl
theorem q_z_X10 : Cond.initialized RX10 ∈ kGW := kin1 (i := 2) rfl rfl
theorem q_c_X10_hasRoom : Cond.code yX10_hasRoom cX10_hasRoom 2 (some .boolean) ∈ kGW := kin2 (i := 86) rfl rfl
theorem q_i_X10_hasRoom : Cond.instanceMethod yX10_hasRoom ∈ kGW := kin2 (i := 84) rfl rfl
theorem q_s_X10_hasRoom : Cond.selects RX10 yX10_hasRoom yX10_hasRoom ∈ kGW := kin2 (i := 85) rfl rfl
theorem q_m_X11_83 : Cond.methodLink RX11 83 yX10_addBytes ∈ kGW := kin2 (i := 87) rfl rfl
theorem q_c_X10_addBytes : Cond.code yX10_addBytes cX10_addBytes 3 none ∈ kGW := kin2 (i := 90) rfl rfl
theorem q_i_X10_addBytes : Cond.instanceMethod yX10_addBytes ∈ kGW := kin2 (i := 88) rfl rfl
theorem q_s_X10_addBytes : Cond.selects RX10 yX10_addBytes yX10_addBytes ∈ kGW := kin2 (i := 89) rfl rfl
theorem q_f_X10_28 : Cond.fieldLink RX10 28 "StrawButts$Tape" "tokens" "I" ∈ kGW := kin1 (i := 41) rfl rfl
theorem q_f_X10_19 : Cond.fieldLink RX10 19 "StrawButts$Tape" "kinds" "[I" ∈ kGW := kin1 (i := 38) rfl rfl
theorem q_f_X10_22 : Cond.fieldLink RX10 22 "StrawButts$Tape" "values" "[I" ∈ kGW := kin1 (i := 39) rfl rfl
theorem q_f_X10_25 : Cond.fieldLink RX10 25 "StrawButts$Tape" "places" "[I" ∈ kGW := kin1 (i := 40) rfl rfl
theorem q_f_X10_31 : Cond.fieldLink RX10 31 "StrawButts$Tape" "at" "I" ∈ kGW := kin1 (i := 42) rfl rfl
theorem q_f_X10_34 : Cond.fieldLink RX10 34 "StrawButts$Tape" "kind" "I" ∈ kGW := kin1 (i := 43) rfl rfl
theorem q_f_X10_37 : Cond.fieldLink RX10 37 "StrawButts$Tape" "value" "I" ∈ kGW := kin1 (i := 46) rfl rfl
theorem q_f_X10_40 : Cond.fieldLink RX10 40 "StrawButts$Tape" "place" "I" ∈ kGW := kin1 (i := 49) rfl rfl
theorem q_m_X10_50 : Cond.methodLink RX10 50 yX10_addToken ∈ kGW := kin2 (i := 122) rfl rfl
theorem q_c_X10_addToken : Cond.code yX10_addToken cX10_addToken 4 none ∈ kGW := kin2 (i := 125) rfl rfl
theorem q_i_X10_addToken : Cond.instanceMethod yX10_addToken ∈ kGW := kin2 (i := 124) rfl rfl
theorem q_s_X10_addToken : Cond.selects RX10 yX10_addToken yX10_addToken ∈ kGW := kinp (i := 3) rfl rfl
theorem q_f_X10_43 : Cond.fieldLink RX10 43 "StrawButts$Tape" "fault" "I" ∈ kGW := kin1 (i := 52) rfl rfl
theorem q_m_X10_54 : Cond.methodLink RX10 54 yX10_advance ∈ kGW := kin2 (i := 191) rfl rfl
theorem q_c_X10_advance : Cond.code yX10_advance cX10_advance 1 none ∈ kGW := kin2 (i := 194) rfl rfl
theorem q_i_X10_advance : Cond.instanceMethod yX10_advance ∈ kGW := kin2 (i := 192) rfl rfl
theorem q_s_X10_advance : Cond.selects RX10 yX10_advance yX10_advance ∈ kGW := kin2 (i := 193) rfl rfl
theorem q_m_X10_57 : Cond.methodLink RX10 57 yX10_isSign ∈ kGW := kin2 (i := 239) rfl rfl
theorem q_c_X10_isSign : Cond.code yX10_isSign cX10_isSign 2 (some .boolean) ∈ kGW := kin3 (i := 2) rfl rfl
theorem q_i_X10_isSign : Cond.instanceMethod yX10_isSign ∈ kGW := kin3 (i := 0) rfl rfl
theorem q_s_X10_isSign : Cond.selects RX10 yX10_isSign yX10_isSign ∈ kGW := kin3 (i := 1) rfl rfl
theorem q_m_X1_21 : Cond.methodLink RX1 21 yJ7_fill_53178 ∈ kGW := kin2 (i := 199) rfl rfl
theorem q_z_J7 : Cond.initialized RJ7 ∈ kGW := kin1 (i := 17) rfl rfl
theorem q_c_J7_fill_53178 : Cond.code yJ7_fill_53178 cJ7_fill_53178 4 none ∈ kGW := kin2 (i := 201) rfl rfl
theorem q_s_J7_fill_53178 : Cond.static yJ7_fill_53178 ∈ kGW := kin2 (i := 200) rfl rfl
theorem q_f_X3_41 : Cond.fieldLink RX3 41 "StrawButts$Tape" "kind" "I" ∈ kGW := kin1 (i := 44) rfl rfl
theorem q_m_X3_47 : Cond.methodLink RX3 47 yX3_opensClause ∈ kGW := kin2 (i := 206) rfl rfl
theorem q_z_X3 : Cond.initialized RX3 ∈ kGW := kin1 (i := 3) rfl rfl
theorem q_c_X3_opensClause : Cond.code yX3_opensClause cX3_opensClause 1 (some .boolean) ∈ kGW := kin2 (i := 208) rfl rfl
theorem q_s_X3_opensClause : Cond.static yX3_opensClause ∈ kGW := kin2 (i := 207) rfl rfl
theorem q_f_X3_51 : Cond.fieldLink RX3 51 "StrawButts$Tape" "place" "I" ∈ kGW := kin1 (i := 50) rfl rfl
theorem q_m_X3_54 : Cond.methodLink RX3 54 yX10_failAt ∈ kGW := kin2 (i := 209) rfl rfl
theorem q_c_X10_failAt : Cond.code yX10_failAt cX10_failAt 3 none ∈ kGW := kin2 (i := 212) rfl rfl
theorem q_i_X10_failAt : Cond.instanceMethod yX10_failAt ∈ kGW := kin2 (i := 210) rfl rfl
theorem q_s_X10_failAt : Cond.selects RX10 yX10_failAt yX10_failAt ∈ kGW := kin2 (i := 211) rfl rfl
theorem q_m_X3_18 : Cond.methodLink RX3 18 yX10_open ∈ kGW := kin2 (i := 106) rfl rfl
theorem q_c_X10_open : Cond.code yX10_open cX10_open 3 none ∈ kGW := kin2 (i := 109) rfl rfl
theorem q_i_X10_open : Cond.instanceMethod yX10_open ∈ kGW := kin2 (i := 107) rfl rfl
theorem q_s_X10_open : Cond.selects RX10 yX10_open yX10_open ∈ kGW := kin2 (i := 108) rfl rfl
theorem q_f_X3_12 : Cond.fieldLink RX3 12 "StrawButts$GreenReader" "draft" "LStrawButts$Field;" ∈ kGW := kin1 (i := 101) rfl rfl
theorem q_m_X3_23 : Cond.methodLink RX3 23 yX1_clear ∈ kGW := kin2 (i := 195) rfl rfl
theorem q_c_X1_clear : Cond.code yX1_clear cX1_clear 1 none ∈ kGW := kin2 (i := 198) rfl rfl
theorem q_i_X1_clear : Cond.instanceMethod yX1_clear ∈ kGW := kin2 (i := 196) rfl rfl
theorem q_s_X1_clear : Cond.selects RX1 yX1_clear yX1_clear ∈ kGW := kin2 (i := 197) rfl rfl
theorem q_m_X3_26 : Cond.methodLink RX3 26 yX3_readClause ∈ kGW := kin2 (i := 202) rfl rfl
theorem q_c_X3_readClause : Cond.code yX3_readClause cX3_readClause 4 none ∈ kGW := kin2 (i := 205) rfl rfl
theorem q_i_X3_readClause : Cond.instanceMethod yX3_readClause ∈ kGW := kin2 (i := 204) rfl rfl
theorem q_s_X3_readClause : Cond.selects RX3 yX3_readClause yX3_readClause ∈ kGW := kinp (i := 8) rfl rfl
theorem q_m_X3_30 : Cond.methodLink RX3 30 yX10_hasNextClause ∈ kGW := kin2 (i := 235) rfl rfl
theorem q_c_X10_hasNextClause : Cond.code yX10_hasNextClause cX10_hasNextClause 2 (some .boolean) ∈ kGW := kin2 (i := 238) rfl rfl
theorem q_i_X10_hasNextClause : Cond.instanceMethod yX10_hasNextClause ∈ kGW := kin2 (i := 236) rfl rfl
theorem q_s_X10_hasNextClause : Cond.selects RX10 yX10_hasNextClause yX10_hasNextClause ∈ kGW := kin2 (i := 237) rfl rfl
theorem q_f_X3_34 : Cond.fieldLink RX3 34 "StrawButts$Tape" "fault" "I" ∈ kGW := kin1 (i := 53) rfl rfl
theorem q_f_X11_19 : Cond.fieldLink RX11 19 "StrawButts" "greenReader" "LStrawButts$GreenReader;" ∈ kGW := kin2 (i := 46) rfl rfl
theorem q_m_X11_94 : Cond.methodLink RX11 94 yX3_readFrom ∈ kGW := kin2 (i := 102) rfl rfl
theorem q_c_X3_readFrom : Cond.code yX3_readFrom cX3_readFrom 3 (some .int) ∈ kGW := kin2 (i := 105) rfl rfl
theorem q_i_X3_readFrom : Cond.instanceMethod yX3_readFrom ∈ kGW := kin2 (i := 103) rfl rfl
theorem q_s_X3_readFrom : Cond.selects RX3 yX3_readFrom yX3_readFrom ∈ kGW := kin2 (i := 104) rfl rfl
theorem q_m_X8_49 : Cond.methodLink RX8 49 yX10_isWord ∈ kGW := kin3 (i := 29) rfl rfl
theorem q_c_X10_isWord : Cond.code yX10_isWord cX10_isWord 2 (some .boolean) ∈ kGW := kin3 (i := 32) rfl rfl
theorem q_i_X10_isWord : Cond.instanceMethod yX10_isWord ∈ kGW := kin3 (i := 30) rfl rfl
theorem q_s_X10_isWord : Cond.selects RX10 yX10_isWord yX10_isWord ∈ kGW := kin3 (i := 31) rfl rfl
theorem q_f_X8_53 : Cond.fieldLink RX8 53 "StrawButts$Tape" "place" "I" ∈ kGW := kin1 (i := 51) rfl rfl
theorem q_m_X8_56 : Cond.methodLink RX8 56 yX10_failAt ∈ kGW := kin3 (i := 33) rfl rfl
theorem q_m_X8_24 : Cond.methodLink RX8 24 yX10_open ∈ kGW := kin3 (i := 24) rfl rfl
theorem q_f_X8_17 : Cond.fieldLink RX8 17 "StrawButts$RuleReader" "size" "I" ∈ kGW := kin1 (i := 113) rfl rfl
theorem q_f_X8_21 : Cond.fieldLink RX8 21 "StrawButts$RuleReader" "parts" "I" ∈ kGW := kin1 (i := 114) rfl rfl
theorem q_m_X8_27 : Cond.methodLink RX8 27 yX8_readClause ∈ kGW := kin3 (i := 25) rfl rfl
theorem q_z_X8 : Cond.initialized RX8 ∈ kGW := kin1 (i := 5) rfl rfl
theorem q_c_X8_readClause : Cond.code yX8_readClause cX8_readClause 3 none ∈ kGW := kin3 (i := 28) rfl rfl
theorem q_i_X8_readClause : Cond.instanceMethod yX8_readClause ∈ kGW := kin3 (i := 27) rfl rfl
theorem q_s_X8_readClause : Cond.selects RX8 yX8_readClause yX8_readClause ∈ kGW := kinp (i := 14) rfl rfl
theorem q_m_X8_31 : Cond.methodLink RX8 31 yX10_hasNextClause ∈ kGW := kin3 (i := 66) rfl rfl
theorem q_f_X8_35 : Cond.fieldLink RX8 35 "StrawButts$Tape" "fault" "I" ∈ kGW := kin1 (i := 54) rfl rfl
theorem q_f_X11_26 : Cond.fieldLink RX11 26 "StrawButts" "ruleReader" "LStrawButts$RuleReader;" ∈ kGW := kin2 (i := 47) rfl rfl
theorem q_m_X11_128 : Cond.methodLink RX11 128 yX8_readFrom ∈ kGW := kin3 (i := 20) rfl rfl
theorem q_c_X8_readFrom : Cond.code yX8_readFrom cX8_readFrom 3 (some .int) ∈ kGW := kin3 (i := 23) rfl rfl
theorem q_i_X8_readFrom : Cond.instanceMethod yX8_readFrom ∈ kGW := kin3 (i := 21) rfl rfl
theorem q_s_X8_readFrom : Cond.selects RX8 yX8_readFrom yX8_readFrom ∈ kGW := kin3 (i := 22) rfl rfl
theorem q_m_X1_15 : Cond.methodLink RX1 15 arraycopyName ∈ kGW := kin3 (i := 12) rfl rfl
theorem q_n_arraycopyName : Cond.native arraycopyName ∈ kGW := kin3 (i := 14) rfl rfl
theorem q_s_arraycopyName : Cond.static arraycopyName ∈ kGW := kin3 (i := 13) rfl rfl
theorem q_z_java_lang_System : Cond.initialized "java/lang/System" ∈ kGW := kin1 (i := 18) rfl rfl
theorem q_f_X5_11 : Cond.fieldLink RX5 11 "StrawButts$Notes" "rounds" "[I" ∈ kGW := kin1 (i := 138) rfl rfl
theorem q_m_X5_25 : Cond.methodLink RX5 25 arraycopyName ∈ kGW := kin4 (i := 197) rfl rfl
theorem q_f_X5_15 : Cond.fieldLink RX5 15 "StrawButts$Notes" "archers" "[I" ∈ kGW := kin1 (i := 139) rfl rfl
theorem q_f_X5_18 : Cond.fieldLink RX5 18 "StrawButts$Notes" "places" "[I" ∈ kGW := kin1 (i := 140) rfl rfl
theorem q_f_X5_21 : Cond.fieldLink RX5 21 "StrawButts$Notes" "size" "I" ∈ kGW := kin1 (i := 141) rfl rfl
theorem q_f_X4_12 : Cond.fieldLink RX4 12 "StrawButts$Moment" "field" "LStrawButts$Field;" ∈ kGW := kin1 (i := 152) rfl rfl
theorem q_m_X4_39 : Cond.methodLink RX4 39 yX1_copyFrom ∈ kGW := kin4 (i := 192) rfl rfl
theorem q_c_X1_copyFrom : Cond.code yX1_copyFrom cX1_copyFrom 2 none ∈ kGW := kin3 (i := 11) rfl rfl
theorem q_i_X1_copyFrom : Cond.instanceMethod yX1_copyFrom ∈ kGW := kin3 (i := 9) rfl rfl
theorem q_s_X1_copyFrom : Cond.selects RX1 yX1_copyFrom yX1_copyFrom ∈ kGW := kin3 (i := 10) rfl rfl
theorem q_f_X4_18 : Cond.fieldLink RX4 18 "StrawButts$Moment" "begin" "LStrawButts$Field;" ∈ kGW := kin1 (i := 154) rfl rfl
theorem q_f_X4_24 : Cond.fieldLink RX4 24 "StrawButts$Moment" "notes" "LStrawButts$Notes;" ∈ kGW := kin1 (i := 157) rfl rfl
theorem q_m_X4_43 : Cond.methodLink RX4 43 yX5_copyFrom ∈ kGW := kin4 (i := 193) rfl rfl
theorem q_z_X5 : Cond.initialized RX5 ∈ kGW := kin1 (i := 7) rfl rfl
theorem q_c_X5_copyFrom : Cond.code yX5_copyFrom cX5_copyFrom 2 none ∈ kGW := kin4 (i := 196) rfl rfl
theorem q_i_X5_copyFrom : Cond.instanceMethod yX5_copyFrom ∈ kGW := kin4 (i := 194) rfl rfl
theorem q_s_X5_copyFrom : Cond.selects RX5 yX5_copyFrom yX5_copyFrom ∈ kGW := kin4 (i := 195) rfl rfl
theorem q_f_X4_28 : Cond.fieldLink RX4 28 "StrawButts$Moment" "inForce" "I" ∈ kGW := kin1 (i := 160) rfl rfl
theorem q_f_X4_32 : Cond.fieldLink RX4 32 "StrawButts$Moment" "x" "I" ∈ kGW := kin1 (i := 162) rfl rfl
theorem q_m_X11_270 : Cond.methodLink RX11 270 yX4_copyFrom ∈ kGW := kin4 (i := 188) rfl rfl
theorem q_z_X4 : Cond.initialized RX4 ∈ kGW := kin1 (i := 6) rfl rfl
theorem q_c_X4_copyFrom : Cond.code yX4_copyFrom cX4_copyFrom 2 none ∈ kGW := kin4 (i := 191) rfl rfl
theorem q_i_X4_copyFrom : Cond.instanceMethod yX4_copyFrom ∈ kGW := kin4 (i := 189) rfl rfl
theorem q_s_X4_copyFrom : Cond.selects RX4 yX4_copyFrom yX4_copyFrom ∈ kGW := kin4 (i := 190) rfl rfl
theorem q_f_X12_39 : Cond.fieldLink RX12 39 "StrawButtsModel" "said" "[I" ∈ kGW := kin4 (i := 228) rfl rfl
theorem q_f_X12_267 : Cond.fieldLink RX12 267 "StrawButtsModel" "rules" "I" ∈ kGW := kin4 (i := 210) rfl rfl
theorem q_m_X12_294 : Cond.methodLink RX12 294 yX12_isGreen ∈ kGW := kin6 (i := 70) rfl rfl
theorem q_z_X12 : Cond.initialized RX12 ∈ kGW := kin1 (i := 12) rfl rfl
theorem q_c_X12_isGreen : Cond.code yX12_isGreen cX12_isGreen 1 (some .boolean) ∈ kGW := kin6 (i := 73) rfl rfl
theorem q_i_X12_isGreen : Cond.instanceMethod yX12_isGreen ∈ kGW := kin6 (i := 72) rfl rfl
theorem q_s_X12_isGreen : Cond.selects RX12 yX12_isGreen yX12_isGreen ∈ kGW := kinp (i := 68) rfl rfl
theorem q_m_X12_309 : Cond.methodLink RX12 309 yX12_isRing ∈ kGW := kin6 (i := 37) rfl rfl
theorem q_c_X12_isRing : Cond.code yX12_isRing cX12_isRing 2 (some .boolean) ∈ kGW := kin6 (i := 40) rfl rfl
theorem q_i_X12_isRing : Cond.instanceMethod yX12_isRing ∈ kGW := kin6 (i := 39) rfl rfl
theorem q_s_X12_isRing : Cond.selects RX12 yX12_isRing yX12_isRing ∈ kGW := kinp (i := 62) rfl rfl
theorem q_m_X12_314 : Cond.methodLink RX12 314 yX12_isArcher ∈ kGW := kin6 (i := 46) rfl rfl
theorem q_c_X12_isArcher : Cond.code yX12_isArcher cX12_isArcher 2 (some .boolean) ∈ kGW := kin6 (i := 49) rfl rfl
theorem q_i_X12_isArcher : Cond.instanceMethod yX12_isArcher ∈ kGW := kin6 (i := 48) rfl rfl
theorem q_s_X12_isArcher : Cond.selects RX12 yX12_isArcher yX12_isArcher ∈ kGW := kinp (i := 63) rfl rfl
theorem q_f_X12_276 : Cond.fieldLink RX12 276 "StrawButtsModel" "undone" "I" ∈ kGW := kin4 (i := 235) rfl rfl
theorem q_m_X12_323 : Cond.methodLink RX12 323 yX12_comingRound ∈ kGW := kin6 (i := 66) rfl rfl
theorem q_c_X12_comingRound : Cond.code yX12_comingRound cX12_comingRound 1 (some .int) ∈ kGW := kin6 (i := 69) rfl rfl
theorem q_i_X12_comingRound : Cond.instanceMethod yX12_comingRound ∈ kGW := kin6 (i := 68) rfl rfl
theorem q_s_X12_comingRound : Cond.selects RX12 yX12_comingRound yX12_comingRound ∈ kGW := kinp (i := 67) rfl rfl
theorem q_f_X12_42 : Cond.fieldLink RX12 42 "StrawButtsModel" "force" "I" ∈ kGW := kin4 (i := 229) rfl rfl
theorem q_m_X12_381 : Cond.methodLink RX12 381 yX12_sumOver ∈ kGW := kin6 (i := 192) rfl rfl
theorem q_c_X12_sumOver : Cond.code yX12_sumOver cX12_sumOver 4 (some .int) ∈ kGW := kin6 (i := 195) rfl rfl
theorem q_i_X12_sumOver : Cond.instanceMethod yX12_sumOver ∈ kGW := kin6 (i := 194) rfl rfl
theorem q_s_X12_sumOver : Cond.selects RX12 yX12_sumOver yX12_sumOver ∈ kGW := kinp (i := 89) rfl rfl
theorem q_f_X12_442 : Cond.fieldLink RX12 442 "StrawButtsModel" "x" "I" ∈ kGW := kin4 (i := 230) rfl rfl
theorem q_f_X12_89 : Cond.fieldLink RX12 89 "StrawButtsModel" "taped" "I" ∈ kGW := kin4 (i := 209) rfl rfl
theorem q_f_X12_7 : Cond.fieldLink RX12 7 "StrawButtsModel" "tape" "[B" ∈ kGW := kin4 (i := 208) rfl rfl
theorem q_m_X12_92 : Cond.methodLink RX12 92 yX12_four ∈ kGW := kin5 (i := 91) rfl rfl
theorem q_c_X12_four : Cond.code yX12_four cX12_four 3 none ∈ kGW := kin5 (i := 94) rfl rfl
theorem q_i_X12_four : Cond.instanceMethod yX12_four ∈ kGW := kin5 (i := 93) rfl rfl
theorem q_s_X12_four : Cond.selects RX12 yX12_four yX12_four ∈ kGW := kinp (i := 27) rfl rfl
theorem q_m_X12_306 : Cond.methodLink RX12 306 yX12_isRule ∈ kGW := kin6 (i := 29) rfl rfl
theorem q_c_X12_isRule : Cond.code yX12_isRule cX12_isRule 2 (some .boolean) ∈ kGW := kin6 (i := 32) rfl rfl
theorem q_i_X12_isRule : Cond.instanceMethod yX12_isRule ∈ kGW := kin6 (i := 31) rfl rfl
theorem q_s_X12_isRule : Cond.selects RX12 yX12_isRule yX12_isRule ∈ kGW := kinp (i := 61) rfl rfl
theorem q_q_X12_404 : Cond.constantLong RX12 404 (40) ∈ kGW := kin7 (i := 1) rfl rfl
theorem q_m_X12_127 : Cond.methodLink RX12 127 yX12_in ∈ kGW := kin5 (i := 160) rfl rfl
theorem q_c_X12_in : Cond.code yX12_in cX12_in 6 (some .boolean) ∈ kGW := kin5 (i := 162) rfl rfl
theorem q_s_X12_in : Cond.static yX12_in ∈ kGW := kin5 (i := 161) rfl rfl
theorem q_f_X12_99 : Cond.fieldLink RX12 99 "StrawButtsModel" "next" "I" ∈ kGW := kin4 (i := 216) rfl rfl
theorem q_m_X12_102 : Cond.methodLink RX12 102 yX12_see ∈ kGW := kin5 (i := 111) rfl rfl
theorem q_c_X12_see : Cond.code yX12_see cX12_see 1 (some .int) ∈ kGW := kin5 (i := 114) rfl rfl
theorem q_i_X12_see : Cond.instanceMethod yX12_see ∈ kGW := kin5 (i := 113) rfl rfl
theorem q_s_X12_see : Cond.selects RX12 yX12_see yX12_see ∈ kGW := kinp (i := 30) rfl rfl
theorem q_m_X12_106 : Cond.methodLink RX12 106 yX12_isLetter ∈ kGW := kin5 (i := 124) rfl rfl
theorem q_c_X12_isLetter : Cond.code yX12_isLetter cX12_isLetter 2 (some .boolean) ∈ kGW := kin5 (i := 127) rfl rfl
theorem q_i_X12_isLetter : Cond.instanceMethod yX12_isLetter ∈ kGW := kin5 (i := 126) rfl rfl
theorem q_s_X12_isLetter : Cond.selects RX12 yX12_isLetter yX12_isLetter ∈ kGW := kinp (i := 33) rfl rfl
theorem q_q_X12_236 : Cond.constantLong RX12 236 (444300879214) ∈ kGW := kin5 (i := 119) rfl rfl
theorem q_m_X12_110 : Cond.methodLink RX12 110 yX12_isWord ∈ kGW := kin5 (i := 120) rfl rfl
theorem q_c_X12_isWord : Cond.code yX12_isWord cX12_isWord 6 (some .boolean) ∈ kGW := kin5 (i := 123) rfl rfl
theorem q_i_X12_isWord : Cond.instanceMethod yX12_isWord ∈ kGW := kin5 (i := 122) rfl rfl
theorem q_s_X12_isWord : Cond.selects RX12 yX12_isWord yX12_isWord ∈ kGW := kinp (i := 32) rfl rfl
theorem q_q_X12_151 : Cond.constantLong RX12 151 (2003398244) ∈ kGW := kin5 (i := 128) rfl rfl
theorem q_q_X12_133 : Cond.constantLong RX12 133 (1919512167) ∈ kGW := kin5 (i := 129) rfl rfl
theorem q_q_X12_131 : Cond.constantLong RX12 131 (107143921952114) ∈ kGW := kin5 (i := 130) rfl rfl
theorem q_f_X12_96 : Cond.fieldLink RX12 96 "StrawButtsModel" "wrong" "I" ∈ kGW := kin4 (i := 217) rfl rfl
theorem q_f_X12_157 : Cond.fieldLink RX12 157 "StrawButtsModel" "text" "I" ∈ kGW := kin4 (i := 219) rfl rfl
theorem q_q_X12_253 : Cond.constantLong RX12 253 (6383981) ∈ kGW := kin5 (i := 131) rfl rfl
theorem q_m_X12_120 : Cond.methodLink RX12 120 yX12_fails ∈ kGW := kin5 (i := 132) rfl rfl
theorem q_c_X12_fails : Cond.code yX12_fails cX12_fails 3 (some .boolean) ∈ kGW := kin5 (i := 135) rfl rfl
theorem q_i_X12_fails : Cond.instanceMethod yX12_fails ∈ kGW := kin5 (i := 134) rfl rfl
theorem q_s_X12_fails : Cond.selects RX12 yX12_fails yX12_fails ∈ kGW := kinp (i := 34) rfl rfl
theorem q_m_X12_250 : Cond.methodLink RX12 250 yX12_isGreenWord ∈ kGW := kin5 (i := 115) rfl rfl
theorem q_c_X12_isGreenWord : Cond.code yX12_isGreenWord cX12_isGreenWord 1 (some .boolean) ∈ kGW := kin5 (i := 118) rfl rfl
theorem q_i_X12_isGreenWord : Cond.instanceMethod yX12_isGreenWord ∈ kGW := kin5 (i := 117) rfl rfl
theorem q_s_X12_isGreenWord : Cond.selects RX12 yX12_isGreenWord yX12_isGreenWord ∈ kGW := kinp (i := 31) rfl rfl
theorem q_f_X12_17 : Cond.fieldLink RX12 17 "StrawButtsModel" "length" "[I" ∈ kGW := kin4 (i := 212) rfl rfl
theorem q_f_X12_255 : Cond.fieldLink RX12 255 "StrawButtsModel" "lines" "I" ∈ kGW := kin4 (i := 222) rfl rfl
theorem q_f_X12_160 : Cond.fieldLink RX12 160 "StrawButtsModel" "made" "I" ∈ kGW := kin4 (i := 220) rfl rfl
theorem q_m_X12_264 : Cond.methodLink RX12 264 yX12_clauseHere ∈ kGW := kin5 (i := 107) rfl rfl
theorem q_c_X12_clauseHere : Cond.code yX12_clauseHere cX12_clauseHere 3 (some .boolean) ∈ kGW := kin5 (i := 110) rfl rfl
theorem q_i_X12_clauseHere : Cond.instanceMethod yX12_clauseHere ∈ kGW := kin5 (i := 109) rfl rfl
theorem q_s_X12_clauseHere : Cond.selects RX12 yX12_clauseHere yX12_clauseHere ∈ kGW := kinp (i := 29) rfl rfl
theorem q_f_X12_23 : Cond.fieldLink RX12 23 "StrawButtsModel" "clauses" "[I" ∈ kGW := kin4 (i := 214) rfl rfl
theorem q_m_X12_270 : Cond.methodLink RX12 270 yX12_readsAll ∈ kGW := kin5 (i := 103) rfl rfl
theorem q_c_X12_readsAll : Cond.code yX12_readsAll cX12_readsAll 2 (some .boolean) ∈ kGW := kin5 (i := 106) rfl rfl
theorem q_i_X12_readsAll : Cond.instanceMethod yX12_readsAll ∈ kGW := kin5 (i := 105) rfl rfl
theorem q_s_X12_readsAll : Cond.selects RX12 yX12_readsAll yX12_readsAll ∈ kGW := kinp (i := 28) rfl rfl
theorem q_f_X12_26 : Cond.fieldLink RX12 26 "StrawButtsModel" "read" "[I" ∈ kGW := kin4 (i := 215) rfl rfl
theorem q_q_X12_462 : Cond.constantLong RX12 462 (3) ∈ kGW := kin7 (i := 105) rfl rfl
theorem q_f_X12_86 : Cond.fieldLink RX12 86 "StrawButtsModel" "isMade" "[Z" ∈ kGW := kin5 (i := 6) rfl rfl
theorem q_f_X12_80 : Cond.fieldLink RX12 80 "StrawButtsModel" "imageForce" "[I" ∈ kGW := kin5 (i := 4) rfl rfl
theorem q_f_X12_83 : Cond.fieldLink RX12 83 "StrawButtsModel" "imageX" "[I" ∈ kGW := kin5 (i := 5) rfl rfl
theorem q_f_X12_77 : Cond.fieldLink RX12 77 "StrawButtsModel" "images" "[I" ∈ kGW := kin5 (i := 3) rfl rfl
theorem q_m_X1_5 : Cond.methodLink RX1 5 objectInit ∈ kGW := kin1 (i := 90) rfl rfl
theorem q_i_objectInit : Cond.instanceMethod objectInit ∈ kGW := kin1 (i := 27) rfl rfl
theorem q_c_objectInit : Cond.code objectInit ⟨#[0xb1]⟩ 1 none ∈ kGW := kin1 (i := 28) rfl rfl
theorem q_a_int : Cond.arrayClass .int ∈ kGW := kin1 (i := 78) rfl rfl
theorem q_m_X10_3 : Cond.methodLink RX10 3 objectInit ∈ kGW := kin1 (i := 34) rfl rfl
theorem q_m_X3_3 : Cond.methodLink RX3 3 objectInit ∈ kGW := kin1 (i := 84) rfl rfl
theorem q_k_X3_9 : Cond.classLink RX3 9 RX1 ∈ kGW := kin1 (i := 85) rfl rfl
theorem q_n_X1 : Cond.instantiable RX1 1 ∈ kGW := kin1 (i := 86) rfl rfl
theorem q_c_X1_init : Cond.code yX1_init cX1_init 1 none ∈ kGW := kin1 (i := 89) rfl rfl
theorem q_i_X1_init : Cond.instanceMethod yX1_init ∈ kGW := kin1 (i := 88) rfl rfl
theorem q_m_X8_7 : Cond.methodLink RX8 7 objectInit ∈ kGW := kin1 (i := 111) rfl rfl
theorem q_f_X8_13 : Cond.fieldLink RX8 13 "StrawButts$RuleReader" "steps" "[I" ∈ kGW := kin1 (i := 112) rfl rfl
theorem q_m_X5_3 : Cond.methodLink RX5 3 objectInit ∈ kGW := kin1 (i := 137) rfl rfl
theorem q_m_X4_3 : Cond.methodLink RX4 3 objectInit ∈ kGW := kin1 (i := 129) rfl rfl
theorem q_k_X4_9 : Cond.classLink RX4 9 RX1 ∈ kGW := kin1 (i := 130) rfl rfl
theorem q_k_X4_21 : Cond.classLink RX4 21 RX5 ∈ kGW := kin1 (i := 132) rfl rfl
theorem q_n_X5 : Cond.instantiable RX5 4 ∈ kGW := kin1 (i := 133) rfl rfl
theorem q_c_X5_init : Cond.code yX5_init cX5_init 1 none ∈ kGW := kin1 (i := 136) rfl rfl
theorem q_i_X5_init : Cond.instanceMethod yX5_init ∈ kGW := kin1 (i := 135) rfl rfl
theorem q_f_X4_35 : Cond.fieldLink RX4 35 "StrawButts$Moment" "isMade" "Z" ∈ kGW := kin1 (i := 164) rfl rfl
theorem q_m_X0_1 : Cond.methodLink RX0 1 objectInit ∈ kGW := kin1 (i := 185) rfl rfl
theorem q_k_X0_11 : Cond.classLink RX0 11 "[[I" ∈ kGW := kin1 (i := 186) rfl rfl
theorem q_f_X0_13 : Cond.fieldLink RX0 13 "StrawButts$Acts" "rows" "[[I" ∈ kGW := kin1 (i := 188) rfl rfl
theorem q_f_X0_16 : Cond.fieldLink RX0 16 "StrawButts$Acts" "next" "I" ∈ kGW := kin1 (i := 189) rfl rfl
theorem q_f_X0_20 : Cond.fieldLink RX0 20 "StrawButts$Acts" "size" "I" ∈ kGW := kin1 (i := 190) rfl rfl
theorem q_m_X6_3 : Cond.methodLink RX6 3 objectInit ∈ kGW := kin1 (i := 204) rfl rfl
theorem q_k_X6_9 : Cond.classLink RX6 9 RX1 ∈ kGW := kin1 (i := 205) rfl rfl
theorem q_f_X6_12 : Cond.fieldLink RX6 12 "StrawButts$Play" "field" "LStrawButts$Field;" ∈ kGW := kin1 (i := 207) rfl rfl
theorem q_f_X6_18 : Cond.fieldLink RX6 18 "StrawButts$Play" "came" "[I" ∈ kGW := kin1 (i := 211) rfl rfl
theorem q_f_X6_22 : Cond.fieldLink RX6 22 "StrawButts$Play" "bound" "[I" ∈ kGW := kin1 (i := 213) rfl rfl
theorem q_f_X6_25 : Cond.fieldLink RX6 25 "StrawButts$Play" "gust" "I" ∈ kGW := kin1 (i := 215) rfl rfl
theorem q_f_X6_29 : Cond.fieldLink RX6 29 "StrawButts$Play" "isStill" "Z" ∈ kGW := kin1 (i := 217) rfl rfl
theorem q_f_X6_33 : Cond.fieldLink RX6 33 "StrawButts$Play" "rule" "LStrawButts$Rule;" ∈ kGW := kin1 (i := 220) rfl rfl
theorem q_a_long : Cond.arrayClass .long ∈ kGW := kin2 (i := 0) rfl rfl
theorem q_f_X6_39 : Cond.fieldLink RX6 39 "StrawButts$Play" "words" "[J" ∈ kGW := kin1 (i := 221) rfl rfl
theorem q_f_X6_43 : Cond.fieldLink RX6 43 "StrawButts$Play" "stack" "[J" ∈ kGW := kin1 (i := 222) rfl rfl
theorem q_m_X2_3 : Cond.methodLink RX2 3 objectInit ∈ kGW := kin2 (i := 6) rfl rfl
theorem q_f_X2_9 : Cond.fieldLink RX2 9 "StrawButts$Forecast" "which" "I" ∈ kGW := kin2 (i := 7) rfl rfl
theorem q_f_X2_15 : Cond.fieldLink RX2 15 "StrawButts$Forecast" "much" "I" ∈ kGW := kin2 (i := 9) rfl rfl
theorem q_f_X2_18 : Cond.fieldLink RX2 18 "StrawButts$Forecast" "drawnFrom" "I" ∈ kGW := kin2 (i := 11) rfl rfl
theorem q_f_X2_21 : Cond.fieldLink RX2 21 "StrawButts$Forecast" "oneHas" "[I" ∈ kGW := kin2 (i := 13) rfl rfl
theorem q_f_X2_25 : Cond.fieldLink RX2 25 "StrawButts$Forecast" "otherHas" "[I" ∈ kGW := kin2 (i := 14) rfl rfl
theorem q_m_X9_3 : Cond.methodLink RX9 3 objectInit ∈ kGW := kin2 (i := 31) rfl rfl
theorem q_f_X9_9 : Cond.fieldLink RX9 9 "StrawButts$Study" "fitting" "I" ∈ kGW := kin2 (i := 33) rfl rfl
theorem q_f_X9_15 : Cond.fieldLink RX9 15 "StrawButts$Study" "firstFitting" "I" ∈ kGW := kin2 (i := 35) rfl rfl
theorem q_k_X9_18 : Cond.classLink RX9 18 "[[I" ∈ kGW := kin2 (i := 32) rfl rfl
theorem q_f_X9_20 : Cond.fieldLink RX9 20 "StrawButts$Study" "came" "[[I" ∈ kGW := kin2 (i := 37) rfl rfl
theorem q_m_X11_1 : Cond.methodLink RX11 1 objectInit ∈ kGW := kin1 (i := 26) rfl rfl
theorem q_k_X11_7 : Cond.classLink RX11 7 RX10 ∈ kGW := kin1 (i := 29) rfl rfl
theorem q_n_X10 : Cond.instantiable RX10 11 ∈ kGW := kin1 (i := 30) rfl rfl
theorem q_c_X10_init : Cond.code yX10_init cX10_init 1 none ∈ kGW := kin1 (i := 33) rfl rfl
theorem q_i_X10_init : Cond.instanceMethod yX10_init ∈ kGW := kin1 (i := 32) rfl rfl
theorem q_k_X11_16 : Cond.classLink RX11 16 RX3 ∈ kGW := kin1 (i := 79) rfl rfl
theorem q_n_X3 : Cond.instantiable RX3 1 ∈ kGW := kin1 (i := 80) rfl rfl
theorem q_c_X3_init : Cond.code yX3_init cX3_init 1 none ∈ kGW := kin1 (i := 83) rfl rfl
theorem q_i_X3_init : Cond.instanceMethod yX3_init ∈ kGW := kin1 (i := 82) rfl rfl
theorem q_k_X11_23 : Cond.classLink RX11 23 RX8 ∈ kGW := kin1 (i := 106) rfl rfl
theorem q_n_X8 : Cond.instantiable RX8 3 ∈ kGW := kin1 (i := 107) rfl rfl
theorem q_c_X8_init : Cond.code yX8_init cX8_init 1 none ∈ kGW := kin1 (i := 110) rfl rfl
theorem q_i_X8_init : Cond.instanceMethod yX8_init ∈ kGW := kin1 (i := 109) rfl rfl
theorem q_k_X11_30 : Cond.classLink RX11 30 RX7 ∈ kGW := kin1 (i := 122) rfl rfl
theorem q_f_X11_32 : Cond.fieldLink RX11 32 "StrawButts" "rules" "[LStrawButts$Rule;" ∈ kGW := kin2 (i := 48) rfl rfl
theorem q_k_X11_40 : Cond.classLink RX11 40 RX4 ∈ kGW := kin1 (i := 124) rfl rfl
theorem q_n_X4 : Cond.instantiable RX4 6 ∈ kGW := kin1 (i := 125) rfl rfl
theorem q_c_X4_init : Cond.code yX4_init cX4_init 1 none ∈ kGW := kin1 (i := 128) rfl rfl
theorem q_i_X4_init : Cond.instanceMethod yX4_init ∈ kGW := kin1 (i := 127) rfl rfl
theorem q_k_X11_51 : Cond.classLink RX11 51 RX0 ∈ kGW := kin1 (i := 180) rfl rfl
theorem q_n_X0 : Cond.instantiable RX0 3 ∈ kGW := kin1 (i := 181) rfl rfl
theorem q_z_X0 : Cond.initialized RX0 ∈ kGW := kin1 (i := 8) rfl rfl
theorem q_c_X0_init : Cond.code yX0_init cX0_init 1 none ∈ kGW := kin1 (i := 184) rfl rfl
theorem q_i_X0_init : Cond.instanceMethod yX0_init ∈ kGW := kin1 (i := 183) rfl rfl
theorem q_k_X11_58 : Cond.classLink RX11 58 RX6 ∈ kGW := kin1 (i := 199) rfl rfl
theorem q_n_X6 : Cond.instantiable RX6 8 ∈ kGW := kin1 (i := 200) rfl rfl
theorem q_z_X6 : Cond.initialized RX6 ∈ kGW := kin1 (i := 9) rfl rfl
theorem q_c_X6_init : Cond.code yX6_init cX6_init 1 none ∈ kGW := kin1 (i := 203) rfl rfl
theorem q_i_X6_init : Cond.instanceMethod yX6_init ∈ kGW := kin1 (i := 202) rfl rfl
theorem q_f_X11_61 : Cond.fieldLink RX11 61 "StrawButts" "play" "LStrawButts$Play;" ∈ kGW := kin2 (i := 53) rfl rfl
theorem q_k_X11_65 : Cond.classLink RX11 65 RX2 ∈ kGW := kin2 (i := 1) rfl rfl
theorem q_n_X2 : Cond.instantiable RX2 5 ∈ kGW := kin2 (i := 2) rfl rfl
theorem q_z_X2 : Cond.initialized RX2 ∈ kGW := kin1 (i := 10) rfl rfl
theorem q_c_X2_init : Cond.code yX2_init cX2_init 1 none ∈ kGW := kin2 (i := 5) rfl rfl
theorem q_i_X2_init : Cond.instanceMethod yX2_init ∈ kGW := kin2 (i := 4) rfl rfl
theorem q_f_X11_68 : Cond.fieldLink RX11 68 "StrawButts" "forecast" "LStrawButts$Forecast;" ∈ kGW := kin2 (i := 54) rfl rfl
theorem q_k_X11_72 : Cond.classLink RX11 72 RX9 ∈ kGW := kin2 (i := 26) rfl rfl
theorem q_n_X9 : Cond.instantiable RX9 3 ∈ kGW := kin2 (i := 27) rfl rfl
theorem q_z_X9 : Cond.initialized RX9 ∈ kGW := kin1 (i := 11) rfl rfl
theorem q_c_X9_init : Cond.code yX9_init cX9_init 1 none ∈ kGW := kin2 (i := 30) rfl rfl
theorem q_i_X9_init : Cond.instanceMethod yX9_init ∈ kGW := kin2 (i := 29) rfl rfl
theorem q_f_X11_75 : Cond.fieldLink RX11 75 "StrawButts" "study" "LStrawButts$Study;" ∈ kGW := kin2 (i := 55) rfl rfl
theorem q_m_X12_1 : Cond.methodLink RX12 1 objectInit ∈ kGW := kin4 (i := 207) rfl rfl
theorem q_a_byte : Cond.arrayClass .byte ∈ kGW := kin3 (i := 15) rfl rfl
theorem q_f_X12_13 : Cond.fieldLink RX12 13 "StrawButtsModel" "sign" "[I" ∈ kGW := kin4 (i := 211) rfl rfl
theorem q_f_X12_20 : Cond.fieldLink RX12 20 "StrawButtsModel" "clause" "[I" ∈ kGW := kin4 (i := 213) rfl rfl
theorem q_f_X12_29 : Cond.fieldLink RX12 29 "StrawButtsModel" "open" "[I" ∈ kGW := kin4 (i := 223) rfl rfl
theorem q_f_X12_32 : Cond.fieldLink RX12 32 "StrawButtsModel" "stack" "[J" ∈ kGW := kin4 (i := 225) rfl rfl
theorem q_f_X12_36 : Cond.fieldLink RX12 36 "StrawButtsModel" "word" "[J" ∈ kGW := kin4 (i := 227) rfl rfl
theorem q_f_X12_46 : Cond.fieldLink RX12 46 "StrawButtsModel" "windAlone" "I" ∈ kGW := kin4 (i := 231) rfl rfl
theorem q_f_X12_49 : Cond.fieldLink RX12 49 "StrawButtsModel" "planned" "[I" ∈ kGW := kin4 (i := 232) rfl rfl
theorem q_f_X12_52 : Cond.fieldLink RX12 52 "StrawButtsModel" "cameOf" "[I" ∈ kGW := kin4 (i := 233) rfl rfl
theorem q_f_X12_55 : Cond.fieldLink RX12 55 "StrawButtsModel" "wasSaid" "[I" ∈ kGW := kin4 (i := 234) rfl rfl
theorem q_f_X12_58 : Cond.fieldLink RX12 58 "StrawButtsModel" "kept" "[I" ∈ kGW := kin4 (i := 236) rfl rfl
theorem q_f_X12_61 : Cond.fieldLink RX12 61 "StrawButtsModel" "rowNow" "[I" ∈ kGW := kin4 (i := 237) rfl rfl
theorem q_f_X12_64 : Cond.fieldLink RX12 64 "StrawButtsModel" "rowBest" "[I" ∈ kGW := kin4 (i := 238) rfl rfl
theorem q_f_X12_67 : Cond.fieldLink RX12 67 "StrawButtsModel" "hasBy" "[I" ∈ kGW := kin4 (i := 239) rfl rfl
theorem q_a_boolean : Cond.arrayClass .boolean ∈ kGW := kin5 (i := 86) rfl rfl
theorem q_f_X12_70 : Cond.fieldLink RX12 70 "StrawButtsModel" "isFit" "[Z" ∈ kGW := kin5 (i := 0) rfl rfl
theorem q_f_X12_74 : Cond.fieldLink RX12 74 "StrawButtsModel" "cameThen" "[I" ∈ kGW := kin5 (i := 1) rfl rfl
theorem q_m_L_13 : Cond.methodLink RL 13 yX11_feed ∈ kGW := kin2 (i := 79) rfl rfl
theorem q_c_X11_feed : Cond.code yX11_feed cX11_feed 6 (some .int) ∈ kGW := kin2 (i := 82) rfl rfl
theorem q_i_X11_feed : Cond.instanceMethod yX11_feed ∈ kGW := kin2 (i := 80) rfl rfl
theorem q_s_X11_feed : Cond.selects RX11 yX11_feed yX11_feed ∈ kGW := kin2 (i := 81) rfl rfl
theorem q_m_L_17 : Cond.methodLink RL 17 yX12_feed ∈ kGW := kin5 (i := 87) rfl rfl
theorem q_c_X12_feed : Cond.code yX12_feed cX12_feed 6 (some .int) ∈ kGW := kin5 (i := 90) rfl rfl
theorem q_i_X12_feed : Cond.instanceMethod yX12_feed ∈ kGW := kin5 (i := 88) rfl rfl
theorem q_s_X12_feed : Cond.selects RX12 yX12_feed yX12_feed ∈ kGW := kin5 (i := 89) rfl rfl
theorem q_m_L_18 : Cond.methodLink RL 18 yX11_end ∈ kGW := kin2 (i := 91) rfl rfl
theorem q_c_X11_end : Cond.code yX11_end cX11_end 2 (some .int) ∈ kGW := kin2 (i := 94) rfl rfl
theorem q_i_X11_end : Cond.instanceMethod yX11_end ∈ kGW := kin2 (i := 92) rfl rfl
theorem q_s_X11_end : Cond.selects RX11 yX11_end yX11_end ∈ kGW := kin2 (i := 93) rfl rfl
theorem q_m_L_22 : Cond.methodLink RL 22 yX12_end ∈ kGW := kin5 (i := 95) rfl rfl
theorem q_c_X12_end : Cond.code yX12_end cX12_end 2 (some .int) ∈ kGW := kin5 (i := 98) rfl rfl
theorem q_i_X12_end : Cond.instanceMethod yX12_end ∈ kGW := kin5 (i := 96) rfl rfl
theorem q_s_X12_end : Cond.selects RX12 yX12_end yX12_end ∈ kGW := kin5 (i := 97) rfl rfl
theorem q_m_L_23 : Cond.methodLink RL 23 yX11_green ∈ kGW := kin2 (i := 98) rfl rfl
theorem q_c_X11_green : Cond.code yX11_green cX11_green 2 (some .int) ∈ kGW := kin2 (i := 101) rfl rfl
theorem q_i_X11_green : Cond.instanceMethod yX11_green ∈ kGW := kin2 (i := 99) rfl rfl
theorem q_s_X11_green : Cond.selects RX11 yX11_green yX11_green ∈ kGW := kin2 (i := 100) rfl rfl
theorem q_m_L_27 : Cond.methodLink RL 27 yX12_green ∈ kGW := kin6 (i := 17) rfl rfl
theorem q_c_X12_green : Cond.code yX12_green cX12_green 2 (some .int) ∈ kGW := kin6 (i := 20) rfl rfl
theorem q_i_X12_green : Cond.instanceMethod yX12_green ∈ kGW := kin6 (i := 18) rfl rfl
theorem q_s_X12_green : Cond.selects RX12 yX12_green yX12_green ∈ kGW := kin6 (i := 19) rfl rfl
theorem q_m_L_28 : Cond.methodLink RL 28 yX11_rule ∈ kGW := kin3 (i := 16) rfl rfl
theorem q_c_X11_rule : Cond.code yX11_rule cX11_rule 2 (some .int) ∈ kGW := kin3 (i := 19) rfl rfl
theorem q_i_X11_rule : Cond.instanceMethod yX11_rule ∈ kGW := kin3 (i := 17) rfl rfl
theorem q_s_X11_rule : Cond.selects RX11 yX11_rule yX11_rule ∈ kGW := kin3 (i := 18) rfl rfl
theorem q_m_L_31 : Cond.methodLink RL 31 yX12_rule ∈ kGW := kin5 (i := 99) rfl rfl
theorem q_c_X12_rule : Cond.code yX12_rule cX12_rule 1 (some .int) ∈ kGW := kin5 (i := 102) rfl rfl
theorem q_i_X12_rule : Cond.instanceMethod yX12_rule ∈ kGW := kin5 (i := 100) rfl rfl
theorem q_s_X12_rule : Cond.selects RX12 yX12_rule yX12_rule ∈ kGW := kin5 (i := 101) rfl rfl
theorem q_m_L_32 : Cond.methodLink RL 32 yX11_force ∈ kGW := kin3 (i := 99) rfl rfl
theorem q_c_X11_force : Cond.code yX11_force cX11_force 3 (some .int) ∈ kGW := kin3 (i := 102) rfl rfl
theorem q_i_X11_force : Cond.instanceMethod yX11_force ∈ kGW := kin3 (i := 100) rfl rfl
theorem q_s_X11_force : Cond.selects RX11 yX11_force yX11_force ∈ kGW := kin3 (i := 101) rfl rfl
theorem q_m_L_35 : Cond.methodLink RL 35 yX12_force ∈ kGW := kin6 (i := 25) rfl rfl
theorem q_c_X12_force : Cond.code yX12_force cX12_force 3 (some .int) ∈ kGW := kin6 (i := 28) rfl rfl
theorem q_i_X12_force : Cond.instanceMethod yX12_force ∈ kGW := kin6 (i := 26) rfl rfl
theorem q_s_X12_force : Cond.selects RX12 yX12_force yX12_force ∈ kGW := kin6 (i := 27) rfl rfl
theorem q_m_L_36 : Cond.methodLink RL 36 yX11_ring ∈ kGW := kin3 (i := 103) rfl rfl
theorem q_c_X11_ring : Cond.code yX11_ring cX11_ring 3 (some .int) ∈ kGW := kin3 (i := 106) rfl rfl
theorem q_i_X11_ring : Cond.instanceMethod yX11_ring ∈ kGW := kin3 (i := 104) rfl rfl
theorem q_s_X11_ring : Cond.selects RX11 yX11_ring yX11_ring ∈ kGW := kin3 (i := 105) rfl rfl
theorem q_m_L_40 : Cond.methodLink RL 40 yX12_ring ∈ kGW := kin6 (i := 33) rfl rfl
theorem q_c_X12_ring : Cond.code yX12_ring cX12_ring 3 (some .int) ∈ kGW := kin6 (i := 36) rfl rfl
theorem q_i_X12_ring : Cond.instanceMethod yX12_ring ∈ kGW := kin6 (i := 34) rfl rfl
theorem q_s_X12_ring : Cond.selects RX12 yX12_ring yX12_ring ∈ kGW := kin6 (i := 35) rfl rfl
theorem q_m_L_41 : Cond.methodLink RL 41 yX11_archer ∈ kGW := kin3 (i := 112) rfl rfl
theorem q_c_X11_archer : Cond.code yX11_archer cX11_archer 3 (some .int) ∈ kGW := kin3 (i := 115) rfl rfl
theorem q_i_X11_archer : Cond.instanceMethod yX11_archer ∈ kGW := kin3 (i := 113) rfl rfl
theorem q_s_X11_archer : Cond.selects RX11 yX11_archer yX11_archer ∈ kGW := kin3 (i := 114) rfl rfl
theorem q_m_L_44 : Cond.methodLink RL 44 yX12_archer ∈ kGW := kin6 (i := 42) rfl rfl
theorem q_c_X12_archer : Cond.code yX12_archer cX12_archer 3 (some .int) ∈ kGW := kin6 (i := 45) rfl rfl
theorem q_i_X12_archer : Cond.instanceMethod yX12_archer ∈ kGW := kin6 (i := 43) rfl rfl
theorem q_s_X12_archer : Cond.selects RX12 yX12_archer yX12_archer ∈ kGW := kin6 (i := 44) rfl rfl
theorem q_m_L_45 : Cond.methodLink RL 45 yX11_wind ∈ kGW := kin3 (i := 120) rfl rfl
theorem q_c_X11_wind : Cond.code yX11_wind cX11_wind 2 (some .int) ∈ kGW := kin3 (i := 123) rfl rfl
theorem q_i_X11_wind : Cond.instanceMethod yX11_wind ∈ kGW := kin3 (i := 121) rfl rfl
theorem q_s_X11_wind : Cond.selects RX11 yX11_wind yX11_wind ∈ kGW := kin3 (i := 122) rfl rfl
theorem q_m_L_48 : Cond.methodLink RL 48 yX12_wind ∈ kGW := kin6 (i := 62) rfl rfl
theorem q_c_X12_wind : Cond.code yX12_wind cX12_wind 2 (some .int) ∈ kGW := kin6 (i := 65) rfl rfl
theorem q_i_X12_wind : Cond.instanceMethod yX12_wind ∈ kGW := kin6 (i := 63) rfl rfl
theorem q_s_X12_wind : Cond.selects RX12 yX12_wind yX12_wind ∈ kGW := kin6 (i := 64) rfl rfl
theorem q_m_L_49 : Cond.methodLink RL 49 yX11_round ∈ kGW := kin3 (i := 136) rfl rfl
theorem q_c_X11_round : Cond.code yX11_round cX11_round 2 (some .int) ∈ kGW := kin3 (i := 139) rfl rfl
theorem q_i_X11_round : Cond.instanceMethod yX11_round ∈ kGW := kin3 (i := 137) rfl rfl
theorem q_s_X11_round : Cond.selects RX11 yX11_round yX11_round ∈ kGW := kin3 (i := 138) rfl rfl
theorem q_m_L_52 : Cond.methodLink RL 52 yX12_round ∈ kGW := kin6 (i := 82) rfl rfl
theorem q_c_X12_round : Cond.code yX12_round cX12_round 1 (some .int) ∈ kGW := kin6 (i := 85) rfl rfl
theorem q_i_X12_round : Cond.instanceMethod yX12_round ∈ kGW := kin6 (i := 83) rfl rfl
theorem q_s_X12_round : Cond.selects RX12 yX12_round yX12_round ∈ kGW := kin6 (i := 84) rfl rfl
theorem q_m_L_53 : Cond.methodLink RL 53 yX11_shoot ∈ kGW := kin3 (i := 198) rfl rfl
theorem q_c_X11_shoot : Cond.code yX11_shoot cX11_shoot 4 (some .int) ∈ kGW := kin3 (i := 201) rfl rfl
theorem q_i_X11_shoot : Cond.instanceMethod yX11_shoot ∈ kGW := kin3 (i := 199) rfl rfl
theorem q_s_X11_shoot : Cond.selects RX11 yX11_shoot yX11_shoot ∈ kGW := kin3 (i := 200) rfl rfl
theorem q_m_L_56 : Cond.methodLink RL 56 yX12_shoot ∈ kGW := kin6 (i := 149) rfl rfl
theorem q_c_X12_shoot : Cond.code yX12_shoot cX12_shoot 4 (some .int) ∈ kGW := kin6 (i := 152) rfl rfl
theorem q_i_X12_shoot : Cond.instanceMethod yX12_shoot ∈ kGW := kin6 (i := 150) rfl rfl
theorem q_s_X12_shoot : Cond.selects RX12 yX12_shoot yX12_shoot ∈ kGW := kin6 (i := 151) rfl rfl
theorem q_m_L_57 : Cond.methodLink RL 57 yX11_pull ∈ kGW := kin3 (i := 206) rfl rfl
theorem q_c_X11_pull : Cond.code yX11_pull cX11_pull 5 (some .int) ∈ kGW := kin3 (i := 209) rfl rfl
theorem q_i_X11_pull : Cond.instanceMethod yX11_pull ∈ kGW := kin3 (i := 207) rfl rfl
theorem q_s_X11_pull : Cond.selects RX11 yX11_pull yX11_pull ∈ kGW := kin3 (i := 208) rfl rfl
theorem q_m_L_60 : Cond.methodLink RL 60 yX12_pull ∈ kGW := kin6 (i := 153) rfl rfl
theorem q_c_X12_pull : Cond.code yX12_pull cX12_pull 4 (some .int) ∈ kGW := kin6 (i := 156) rfl rfl
theorem q_i_X12_pull : Cond.instanceMethod yX12_pull ∈ kGW := kin6 (i := 154) rfl rfl
theorem q_s_X12_pull : Cond.selects RX12 yX12_pull yX12_pull ∈ kGW := kin6 (i := 155) rfl rfl
theorem q_m_L_61 : Cond.methodLink RL 61 yX11_breath ∈ kGW := kin3 (i := 211) rfl rfl
theorem q_c_X11_breath : Cond.code yX11_breath cX11_breath 3 (some .int) ∈ kGW := kin3 (i := 214) rfl rfl
theorem q_i_X11_breath : Cond.instanceMethod yX11_breath ∈ kGW := kin3 (i := 212) rfl rfl
theorem q_s_X11_breath : Cond.selects RX11 yX11_breath yX11_breath ∈ kGW := kin3 (i := 213) rfl rfl
theorem q_m_L_64 : Cond.methodLink RL 64 yX12_breath ∈ kGW := kin6 (i := 157) rfl rfl
theorem q_c_X12_breath : Cond.code yX12_breath cX12_breath 2 (some .int) ∈ kGW := kin6 (i := 160) rfl rfl
theorem q_i_X12_breath : Cond.instanceMethod yX12_breath ∈ kGW := kin6 (i := 158) rfl rfl
theorem q_s_X12_breath : Cond.selects RX12 yX12_breath yX12_breath ∈ kGW := kin6 (i := 159) rfl rfl
theorem q_m_L_65 : Cond.methodLink RL 65 yX11_teach ∈ kGW := kin3 (i := 215) rfl rfl
theorem q_c_X11_teach : Cond.code yX11_teach cX11_teach 5 (some .int) ∈ kGW := kin3 (i := 218) rfl rfl
theorem q_i_X11_teach : Cond.instanceMethod yX11_teach ∈ kGW := kin3 (i := 216) rfl rfl
theorem q_s_X11_teach : Cond.selects RX11 yX11_teach yX11_teach ∈ kGW := kin3 (i := 217) rfl rfl
theorem q_m_L_68 : Cond.methodLink RL 68 yX12_teach ∈ kGW := kin6 (i := 162) rfl rfl
theorem q_c_X12_teach : Cond.code yX12_teach cX12_teach 4 (some .int) ∈ kGW := kin6 (i := 165) rfl rfl
theorem q_i_X12_teach : Cond.instanceMethod yX12_teach ∈ kGW := kin6 (i := 163) rfl rfl
theorem q_s_X12_teach : Cond.selects RX12 yX12_teach yX12_teach ∈ kGW := kin6 (i := 164) rfl rfl
theorem q_m_L_69 : Cond.methodLink RL 69 yX11_undo ∈ kGW := kin3 (i := 219) rfl rfl
theorem q_c_X11_undo : Cond.code yX11_undo cX11_undo 1 (some .int) ∈ kGW := kin3 (i := 222) rfl rfl
theorem q_i_X11_undo : Cond.instanceMethod yX11_undo ∈ kGW := kin3 (i := 220) rfl rfl
theorem q_s_X11_undo : Cond.selects RX11 yX11_undo yX11_undo ∈ kGW := kin3 (i := 221) rfl rfl
theorem q_m_L_72 : Cond.methodLink RL 72 yX12_undo ∈ kGW := kin6 (i := 78) rfl rfl
theorem q_c_X12_undo : Cond.code yX12_undo cX12_undo 2 (some .int) ∈ kGW := kin6 (i := 81) rfl rfl
theorem q_i_X12_undo : Cond.instanceMethod yX12_undo ∈ kGW := kin6 (i := 79) rfl rfl
theorem q_s_X12_undo : Cond.selects RX12 yX12_undo yX12_undo ∈ kGW := kin6 (i := 80) rfl rfl
theorem q_m_L_73 : Cond.methodLink RL 73 yX11_ahead ∈ kGW := kin3 (i := 227) rfl rfl
theorem q_c_X11_ahead : Cond.code yX11_ahead cX11_ahead 5 (some .int) ∈ kGW := kin3 (i := 230) rfl rfl
theorem q_i_X11_ahead : Cond.instanceMethod yX11_ahead ∈ kGW := kin3 (i := 228) rfl rfl
theorem q_s_X11_ahead : Cond.selects RX11 yX11_ahead yX11_ahead ∈ kGW := kin3 (i := 229) rfl rfl
theorem q_m_L_77 : Cond.methodLink RL 77 yX12_ahead ∈ kGW := kin6 (i := 167) rfl rfl
theorem q_c_X12_ahead : Cond.code yX12_ahead cX12_ahead 5 (some .int) ∈ kGW := kin6 (i := 170) rfl rfl
theorem q_i_X12_ahead : Cond.instanceMethod yX12_ahead ∈ kGW := kin6 (i := 168) rfl rfl
theorem q_s_X12_ahead : Cond.selects RX12 yX12_ahead yX12_ahead ∈ kGW := kin6 (i := 169) rfl rfl
theorem q_m_L_78 : Cond.methodLink RL 78 yX11_eased ∈ kGW := kin3 (i := 236) rfl rfl
theorem q_c_X11_eased : Cond.code yX11_eased cX11_eased 2 (some .int) ∈ kGW := kin3 (i := 239) rfl rfl
theorem q_i_X11_eased : Cond.instanceMethod yX11_eased ∈ kGW := kin3 (i := 237) rfl rfl
theorem q_s_X11_eased : Cond.selects RX11 yX11_eased yX11_eased ∈ kGW := kin3 (i := 238) rfl rfl
theorem q_m_L_81 : Cond.methodLink RL 81 yX12_eased ∈ kGW := kin6 (i := 184) rfl rfl
theorem q_c_X12_eased : Cond.code yX12_eased cX12_eased 2 (some .int) ∈ kGW := kin6 (i := 187) rfl rfl
theorem q_i_X12_eased : Cond.instanceMethod yX12_eased ∈ kGW := kin6 (i := 185) rfl rfl
theorem q_s_X12_eased : Cond.selects RX12 yX12_eased yX12_eased ∈ kGW := kin6 (i := 186) rfl rfl
theorem q_m_L_82 : Cond.methodLink RL 82 yX11_allEased ∈ kGW := kin4 (i := 8) rfl rfl
theorem q_c_X11_allEased : Cond.code yX11_allEased cX11_allEased 1 (some .int) ∈ kGW := kin4 (i := 11) rfl rfl
theorem q_i_X11_allEased : Cond.instanceMethod yX11_allEased ∈ kGW := kin4 (i := 9) rfl rfl
theorem q_s_X11_allEased : Cond.selects RX11 yX11_allEased yX11_allEased ∈ kGW := kin4 (i := 10) rfl rfl
theorem q_m_L_85 : Cond.methodLink RL 85 yX12_allEased ∈ kGW := kin6 (i := 196) rfl rfl
theorem q_c_X12_allEased : Cond.code yX12_allEased cX12_allEased 1 (some .int) ∈ kGW := kin6 (i := 199) rfl rfl
theorem q_i_X12_allEased : Cond.instanceMethod yX12_allEased ∈ kGW := kin6 (i := 197) rfl rfl
theorem q_s_X12_allEased : Cond.selects RX12 yX12_allEased yX12_allEased ∈ kGW := kin6 (i := 198) rfl rfl
theorem q_m_L_86 : Cond.methodLink RL 86 yX11_down ∈ kGW := kin4 (i := 12) rfl rfl
theorem q_c_X11_down : Cond.code yX11_down cX11_down 4 (some .int) ∈ kGW := kin4 (i := 15) rfl rfl
theorem q_i_X11_down : Cond.instanceMethod yX11_down ∈ kGW := kin4 (i := 13) rfl rfl
theorem q_s_X11_down : Cond.selects RX11 yX11_down yX11_down ∈ kGW := kin4 (i := 14) rfl rfl
theorem q_m_L_89 : Cond.methodLink RL 89 yX12_down ∈ kGW := kin6 (i := 200) rfl rfl
theorem q_c_X12_down : Cond.code yX12_down cX12_down 4 (some .int) ∈ kGW := kin6 (i := 203) rfl rfl
theorem q_i_X12_down : Cond.instanceMethod yX12_down ∈ kGW := kin6 (i := 201) rfl rfl
theorem q_s_X12_down : Cond.selects RX12 yX12_down yX12_down ∈ kGW := kin6 (i := 202) rfl rfl
theorem q_m_L_90 : Cond.methodLink RL 90 yX11_bestAim ∈ kGW := kin4 (i := 17) rfl rfl
theorem q_c_X11_bestAim : Cond.code yX11_bestAim cX11_bestAim 7 (some .int) ∈ kGW := kin4 (i := 20) rfl rfl
theorem q_i_X11_bestAim : Cond.instanceMethod yX11_bestAim ∈ kGW := kin4 (i := 18) rfl rfl
theorem q_s_X11_bestAim : Cond.selects RX11 yX11_bestAim yX11_bestAim ∈ kGW := kin4 (i := 19) rfl rfl
theorem q_m_L_93 : Cond.methodLink RL 93 yX12_bestAim ∈ kGW := kin6 (i := 204) rfl rfl
theorem q_c_X12_bestAim : Cond.code yX12_bestAim cX12_bestAim 6 (some .int) ∈ kGW := kin6 (i := 207) rfl rfl
theorem q_i_X12_bestAim : Cond.instanceMethod yX12_bestAim ∈ kGW := kin6 (i := 205) rfl rfl
theorem q_s_X12_bestAim : Cond.selects RX12 yX12_bestAim yX12_bestAim ∈ kGW := kin6 (i := 206) rfl rfl
theorem q_m_L_94 : Cond.methodLink RL 94 yX11_row ∈ kGW := kin4 (i := 26) rfl rfl
theorem q_c_X11_row : Cond.code yX11_row cX11_row 4 (some .int) ∈ kGW := kin4 (i := 29) rfl rfl
theorem q_i_X11_row : Cond.instanceMethod yX11_row ∈ kGW := kin4 (i := 27) rfl rfl
theorem q_s_X11_row : Cond.selects RX11 yX11_row yX11_row ∈ kGW := kin4 (i := 28) rfl rfl
theorem q_m_L_97 : Cond.methodLink RL 97 yX12_row ∈ kGW := kin6 (i := 212) rfl rfl
theorem q_c_X12_row : Cond.code yX12_row cX12_row 5 (some .int) ∈ kGW := kin6 (i := 215) rfl rfl
theorem q_i_X12_row : Cond.instanceMethod yX12_row ∈ kGW := kin6 (i := 213) rfl rfl
theorem q_s_X12_row : Cond.selects RX12 yX12_row yX12_row ∈ kGW := kin6 (i := 214) rfl rfl
theorem q_m_L_98 : Cond.methodLink RL 98 yX11_hold ∈ kGW := kin4 (i := 36) rfl rfl
theorem q_c_X11_hold : Cond.code yX11_hold cX11_hold 5 (some .int) ∈ kGW := kin4 (i := 39) rfl rfl
theorem q_i_X11_hold : Cond.instanceMethod yX11_hold ∈ kGW := kin4 (i := 37) rfl rfl
theorem q_s_X11_hold : Cond.selects RX11 yX11_hold yX11_hold ∈ kGW := kin4 (i := 38) rfl rfl
theorem q_m_L_101 : Cond.methodLink RL 101 yX12_hold ∈ kGW := kin6 (i := 233) rfl rfl
theorem q_c_X12_hold : Cond.code yX12_hold cX12_hold 4 (some .int) ∈ kGW := kin6 (i := 236) rfl rfl
theorem q_i_X12_hold : Cond.instanceMethod yX12_hold ∈ kGW := kin6 (i := 234) rfl rfl
theorem q_s_X12_hold : Cond.selects RX12 yX12_hold yX12_hold ∈ kGW := kin6 (i := 235) rfl rfl
theorem q_m_L_102 : Cond.methodLink RL 102 yX11_leastSkill ∈ kGW := kin4 (i := 41) rfl rfl
theorem q_c_X11_leastSkill : Cond.code yX11_leastSkill cX11_leastSkill 4 (some .int) ∈ kGW := kin4 (i := 44) rfl rfl
theorem q_i_X11_leastSkill : Cond.instanceMethod yX11_leastSkill ∈ kGW := kin4 (i := 42) rfl rfl
theorem q_s_X11_leastSkill : Cond.selects RX11 yX11_leastSkill yX11_leastSkill ∈ kGW := kin4 (i := 43) rfl rfl
theorem q_m_L_105 : Cond.methodLink RL 105 yX12_leastSkill ∈ kGW := kin6 (i := 237) rfl rfl
theorem q_c_X12_leastSkill : Cond.code yX12_leastSkill cX12_leastSkill 5 (some .int) ∈ kGW := kin7 (i := 0) rfl rfl
theorem q_i_X12_leastSkill : Cond.instanceMethod yX12_leastSkill ∈ kGW := kin6 (i := 238) rfl rfl
theorem q_s_X12_leastSkill : Cond.selects RX12 yX12_leastSkill yX12_leastSkill ∈ kGW := kin6 (i := 239) rfl rfl
theorem q_m_L_106 : Cond.methodLink RL 106 yX11_set ∈ kGW := kin4 (i := 45) rfl rfl
theorem q_c_X11_set : Cond.code yX11_set cX11_set 4 (some .int) ∈ kGW := kin4 (i := 48) rfl rfl
theorem q_i_X11_set : Cond.instanceMethod yX11_set ∈ kGW := kin4 (i := 46) rfl rfl
theorem q_s_X11_set : Cond.selects RX11 yX11_set yX11_set ∈ kGW := kin4 (i := 47) rfl rfl
theorem q_m_L_109 : Cond.methodLink RL 109 yX12_set ∈ kGW := kin7 (i := 2) rfl rfl
theorem q_c_X12_set : Cond.code yX12_set cX12_set 8 (some .int) ∈ kGW := kin7 (i := 5) rfl rfl
theorem q_i_X12_set : Cond.instanceMethod yX12_set ∈ kGW := kin7 (i := 3) rfl rfl
theorem q_s_X12_set : Cond.selects RX12 yX12_set yX12_set ∈ kGW := kin7 (i := 4) rfl rfl
theorem q_m_L_110 : Cond.methodLink RL 110 yX11_given ∈ kGW := kin4 (i := 65) rfl rfl
theorem q_c_X11_given : Cond.code yX11_given cX11_given 3 (some .int) ∈ kGW := kin4 (i := 68) rfl rfl
theorem q_i_X11_given : Cond.instanceMethod yX11_given ∈ kGW := kin4 (i := 66) rfl rfl
theorem q_s_X11_given : Cond.selects RX11 yX11_given yX11_given ∈ kGW := kin4 (i := 67) rfl rfl
theorem q_m_L_113 : Cond.methodLink RL 113 yX12_given ∈ kGW := kin7 (i := 10) rfl rfl
theorem q_c_X12_given : Cond.code yX12_given cX12_given 7 (some .int) ∈ kGW := kin7 (i := 13) rfl rfl
theorem q_i_X12_given : Cond.instanceMethod yX12_given ∈ kGW := kin7 (i := 11) rfl rfl
theorem q_s_X12_given : Cond.selects RX12 yX12_given yX12_given ∈ kGW := kin7 (i := 12) rfl rfl
theorem q_m_L_114 : Cond.methodLink RL 114 yX11_skilled ∈ kGW := kin4 (i := 113) rfl rfl
theorem q_c_X11_skilled : Cond.code yX11_skilled cX11_skilled 2 (some .int) ∈ kGW := kin4 (i := 116) rfl rfl
theorem q_i_X11_skilled : Cond.instanceMethod yX11_skilled ∈ kGW := kin4 (i := 114) rfl rfl
theorem q_s_X11_skilled : Cond.selects RX11 yX11_skilled yX11_skilled ∈ kGW := kin4 (i := 115) rfl rfl
theorem q_m_L_117 : Cond.methodLink RL 117 yX12_skilled ∈ kGW := kin7 (i := 68) rfl rfl
theorem q_c_X12_skilled : Cond.code yX12_skilled cX12_skilled 2 (some .int) ∈ kGW := kin7 (i := 71) rfl rfl
theorem q_i_X12_skilled : Cond.instanceMethod yX12_skilled ∈ kGW := kin7 (i := 69) rfl rfl
theorem q_s_X12_skilled : Cond.selects RX12 yX12_skilled yX12_skilled ∈ kGW := kin7 (i := 70) rfl rfl
theorem q_m_L_118 : Cond.methodLink RL 118 yX11_ails ∈ kGW := kin4 (i := 137) rfl rfl
theorem q_c_X11_ails : Cond.code yX11_ails cX11_ails 3 (some .int) ∈ kGW := kin4 (i := 140) rfl rfl
theorem q_i_X11_ails : Cond.instanceMethod yX11_ails ∈ kGW := kin4 (i := 138) rfl rfl
theorem q_s_X11_ails : Cond.selects RX11 yX11_ails yX11_ails ∈ kGW := kin4 (i := 139) rfl rfl
theorem q_m_L_121 : Cond.methodLink RL 121 yX12_ails ∈ kGW := kin7 (i := 76) rfl rfl
theorem q_c_X12_ails : Cond.code yX12_ails cX12_ails 2 (some .int) ∈ kGW := kin7 (i := 79) rfl rfl
theorem q_i_X12_ails : Cond.instanceMethod yX12_ails ∈ kGW := kin7 (i := 77) rfl rfl
theorem q_s_X12_ails : Cond.selects RX12 yX12_ails yX12_ails ∈ kGW := kin7 (i := 78) rfl rfl
theorem q_m_L_122 : Cond.methodLink RL 122 yX11_rests ∈ kGW := kin4 (i := 73) rfl rfl
theorem q_c_X11_rests : Cond.code yX11_rests cX11_rests 5 (some .int) ∈ kGW := kin4 (i := 76) rfl rfl
theorem q_i_X11_rests : Cond.instanceMethod yX11_rests ∈ kGW := kin4 (i := 74) rfl rfl
theorem q_s_X11_rests : Cond.selects RX11 yX11_rests yX11_rests ∈ kGW := kin4 (i := 75) rfl rfl
theorem q_m_L_126 : Cond.methodLink RL 126 yX12_rests ∈ kGW := kin7 (i := 18) rfl rfl
theorem q_c_X12_rests : Cond.code yX12_rests cX12_rests 9 (some .int) ∈ kGW := kin7 (i := 21) rfl rfl
theorem q_i_X12_rests : Cond.instanceMethod yX12_rests ∈ kGW := kin7 (i := 19) rfl rfl
theorem q_s_X12_rests : Cond.selects RX12 yX12_rests yX12_rests ∈ kGW := kin7 (i := 20) rfl rfl
theorem q_m_L_127 : Cond.methodLink RL 127 yX11_pence ∈ kGW := kin4 (i := 92) rfl rfl
theorem q_c_X11_pence : Cond.code yX11_pence cX11_pence 3 (some .int) ∈ kGW := kin4 (i := 95) rfl rfl
theorem q_i_X11_pence : Cond.instanceMethod yX11_pence ∈ kGW := kin4 (i := 93) rfl rfl
theorem q_s_X11_pence : Cond.selects RX11 yX11_pence yX11_pence ∈ kGW := kin4 (i := 94) rfl rfl
theorem q_m_L_130 : Cond.methodLink RL 130 yX12_pence ∈ kGW := kin7 (i := 34) rfl rfl
theorem q_c_X12_pence : Cond.code yX12_pence cX12_pence 13 (some .int) ∈ kGW := kin7 (i := 37) rfl rfl
theorem q_i_X12_pence : Cond.instanceMethod yX12_pence ∈ kGW := kin7 (i := 35) rfl rfl
theorem q_s_X12_pence : Cond.selects RX12 yX12_pence yX12_pence ∈ kGW := kin7 (i := 36) rfl rfl
theorem q_m_L_131 : Cond.methodLink RL 131 yX11_note ∈ kGW := kin4 (i := 100) rfl rfl
theorem q_c_X11_note : Cond.code yX11_note cX11_note 5 (some .int) ∈ kGW := kin4 (i := 103) rfl rfl
theorem q_i_X11_note : Cond.instanceMethod yX11_note ∈ kGW := kin4 (i := 101) rfl rfl
theorem q_s_X11_note : Cond.selects RX11 yX11_note yX11_note ∈ kGW := kin4 (i := 102) rfl rfl
theorem q_m_L_134 : Cond.methodLink RL 134 yX12_note ∈ kGW := kin7 (i := 39) rfl rfl
theorem q_c_X12_note : Cond.code yX12_note cX12_note 5 (some .int) ∈ kGW := kin7 (i := 42) rfl rfl
theorem q_i_X12_note : Cond.instanceMethod yX12_note ∈ kGW := kin7 (i := 40) rfl rfl
theorem q_s_X12_note : Cond.selects RX12 yX12_note yX12_note ∈ kGW := kin7 (i := 41) rfl rfl
theorem q_m_L_135 : Cond.methodLink RL 135 yX11_ruled ∈ kGW := kin4 (i := 141) rfl rfl
theorem q_c_X11_ruled : Cond.code yX11_ruled cX11_ruled 2 (some .int) ∈ kGW := kin4 (i := 144) rfl rfl
theorem q_i_X11_ruled : Cond.instanceMethod yX11_ruled ∈ kGW := kin4 (i := 142) rfl rfl
theorem q_s_X11_ruled : Cond.selects RX11 yX11_ruled yX11_ruled ∈ kGW := kin4 (i := 143) rfl rfl
theorem q_m_L_138 : Cond.methodLink RL 138 yX12_ruled ∈ kGW := kin7 (i := 44) rfl rfl
theorem q_c_X12_ruled : Cond.code yX12_ruled cX12_ruled 5 (some .int) ∈ kGW := kin7 (i := 47) rfl rfl
theorem q_i_X12_ruled : Cond.instanceMethod yX12_ruled ∈ kGW := kin7 (i := 45) rfl rfl
theorem q_s_X12_ruled : Cond.selects RX12 yX12_ruled yX12_ruled ∈ kGW := kin7 (i := 46) rfl rfl
theorem q_m_L_139 : Cond.methodLink RL 139 yX11_look ∈ kGW := kin4 (i := 150) rfl rfl
theorem q_c_X11_look : Cond.code yX11_look cX11_look 5 (some .int) ∈ kGW := kin4 (i := 153) rfl rfl
theorem q_i_X11_look : Cond.instanceMethod yX11_look ∈ kGW := kin4 (i := 151) rfl rfl
theorem q_s_X11_look : Cond.selects RX11 yX11_look yX11_look ∈ kGW := kin4 (i := 152) rfl rfl
theorem q_m_L_142 : Cond.methodLink RL 142 yX12_look ∈ kGW := kin7 (i := 60) rfl rfl
theorem q_c_X12_look : Cond.code yX12_look cX12_look 7 (some .int) ∈ kGW := kin7 (i := 63) rfl rfl
theorem q_i_X12_look : Cond.instanceMethod yX12_look ∈ kGW := kin7 (i := 61) rfl rfl
theorem q_s_X12_look : Cond.selects RX12 yX12_look yX12_look ∈ kGW := kin7 (i := 62) rfl rfl
theorem q_m_L_143 : Cond.methodLink RL 143 yX11_seed ∈ kGW := kin4 (i := 163) rfl rfl
theorem q_c_X11_seed : Cond.code yX11_seed cX11_seed 3 (some .int) ∈ kGW := kin4 (i := 166) rfl rfl
theorem q_i_X11_seed : Cond.instanceMethod yX11_seed ∈ kGW := kin4 (i := 164) rfl rfl
theorem q_s_X11_seed : Cond.selects RX11 yX11_seed yX11_seed ∈ kGW := kin4 (i := 165) rfl rfl
theorem q_m_L_146 : Cond.methodLink RL 146 yX12_seed ∈ kGW := kin7 (i := 80) rfl rfl
theorem q_c_X12_seed : Cond.code yX12_seed cX12_seed 3 (some .int) ∈ kGW := kin7 (i := 83) rfl rfl
theorem q_i_X12_seed : Cond.instanceMethod yX12_seed ∈ kGW := kin7 (i := 81) rfl rfl
theorem q_s_X12_seed : Cond.selects RX12 yX12_seed yX12_seed ∈ kGW := kin7 (i := 82) rfl rfl
theorem q_m_L_147 : Cond.methodLink RL 147 yX11_gusts ∈ kGW := kin4 (i := 167) rfl rfl
theorem q_c_X11_gusts : Cond.code yX11_gusts cX11_gusts 8 (some .int) ∈ kGW := kin4 (i := 170) rfl rfl
theorem q_i_X11_gusts : Cond.instanceMethod yX11_gusts ∈ kGW := kin4 (i := 168) rfl rfl
theorem q_s_X11_gusts : Cond.selects RX11 yX11_gusts yX11_gusts ∈ kGW := kin4 (i := 169) rfl rfl
theorem q_m_L_150 : Cond.methodLink RL 150 yX12_gusts ∈ kGW := kin7 (i := 84) rfl rfl
theorem q_c_X12_gusts : Cond.code yX12_gusts cX12_gusts 10 (some .int) ∈ kGW := kin7 (i := 87) rfl rfl
theorem q_i_X12_gusts : Cond.instanceMethod yX12_gusts ∈ kGW := kin7 (i := 85) rfl rfl
theorem q_s_X12_gusts : Cond.selects RX12 yX12_gusts yX12_gusts ∈ kGW := kin7 (i := 86) rfl rfl
theorem q_m_L_151 : Cond.methodLink RL 151 yX11_count ∈ kGW := kin3 (i := 128) rfl rfl
theorem q_c_X11_count : Cond.code yX11_count cX11_count 2 (some .int) ∈ kGW := kin3 (i := 131) rfl rfl
theorem q_i_X11_count : Cond.instanceMethod yX11_count ∈ kGW := kin3 (i := 129) rfl rfl
theorem q_s_X11_count : Cond.selects RX11 yX11_count yX11_count ∈ kGW := kin3 (i := 130) rfl rfl
theorem q_m_L_154 : Cond.methodLink RL 154 yX12_count ∈ kGW := kin7 (i := 97) rfl rfl
theorem q_c_X12_count : Cond.code yX12_count cX12_count 2 (some .int) ∈ kGW := kin7 (i := 100) rfl rfl
theorem q_i_X12_count : Cond.instanceMethod yX12_count ∈ kGW := kin7 (i := 98) rfl rfl
theorem q_s_X12_count : Cond.selects RX12 yX12_count yX12_count ∈ kGW := kin7 (i := 99) rfl rfl
theorem q_m_L_155 : Cond.methodLink RL 155 yX11_image ∈ kGW := kin4 (i := 184) rfl rfl
theorem q_c_X11_image : Cond.code yX11_image cX11_image 2 (some .int) ∈ kGW := kin4 (i := 187) rfl rfl
theorem q_i_X11_image : Cond.instanceMethod yX11_image ∈ kGW := kin4 (i := 185) rfl rfl
theorem q_s_X11_image : Cond.selects RX11 yX11_image yX11_image ∈ kGW := kin4 (i := 186) rfl rfl
theorem q_m_L_158 : Cond.methodLink RL 158 yX12_image ∈ kGW := kin7 (i := 101) rfl rfl
theorem q_c_X12_image : Cond.code yX12_image cX12_image 3 (some .int) ∈ kGW := kin7 (i := 104) rfl rfl
theorem q_i_X12_image : Cond.instanceMethod yX12_image ∈ kGW := kin7 (i := 102) rfl rfl
theorem q_s_X12_image : Cond.selects RX12 yX12_image yX12_image ∈ kGW := kin7 (i := 103) rfl rfl
theorem q_m_L_159 : Cond.methodLink RL 159 yX11_back ∈ kGW := kin4 (i := 198) rfl rfl
theorem q_c_X11_back : Cond.code yX11_back cX11_back 2 (some .int) ∈ kGW := kin4 (i := 201) rfl rfl
theorem q_i_X11_back : Cond.instanceMethod yX11_back ∈ kGW := kin4 (i := 199) rfl rfl
theorem q_s_X11_back : Cond.selects RX11 yX11_back yX11_back ∈ kGW := kin4 (i := 200) rfl rfl
theorem q_m_L_162 : Cond.methodLink RL 162 yX12_back ∈ kGW := kin7 (i := 106) rfl rfl
theorem q_c_X12_back : Cond.code yX12_back cX12_back 3 (some .int) ∈ kGW := kin7 (i := 109) rfl rfl
theorem q_i_X12_back : Cond.instanceMethod yX12_back ∈ kGW := kin7 (i := 107) rfl rfl
theorem q_s_X12_back : Cond.selects RX12 yX12_back yX12_back ∈ kGW := kin7 (i := 108) rfl rfl
theorem q_k_L_7 : Cond.classLink RL 7 RX11 ∈ kGW := kin1 (i := 21) rfl rfl
theorem q_n_X11 : Cond.instantiable RX11 11 ∈ kGW := kin1 (i := 22) rfl rfl
theorem q_m_L_9 : Cond.methodLink RL 9 yX11_init ∈ kGW := kin1 (i := 23) rfl rfl
theorem q_c_X11_init : Cond.code yX11_init cX11_init 2 none ∈ kGW := kin1 (i := 25) rfl rfl
theorem q_i_X11_init : Cond.instanceMethod yX11_init ∈ kGW := kin1 (i := 24) rfl rfl
theorem q_k_L_10 : Cond.classLink RL 10 RX12 ∈ kGW := kin4 (i := 202) rfl rfl
theorem q_n_X12 : Cond.instantiable RX12 39 ∈ kGW := kin4 (i := 203) rfl rfl
theorem q_m_L_12 : Cond.methodLink RL 12 yX12_init ∈ kGW := kin4 (i := 204) rfl rfl
theorem q_c_X12_init : Cond.code yX12_init cX12_init 1 none ∈ kGW := kin4 (i := 206) rfl rfl
theorem q_i_X12_init : Cond.instanceMethod yX12_init ∈ kGW := kin4 (i := 205) rfl rfl
theorem ms_X11_within : kMS yX11_within cX11_within 3 (some .boolean) 3 := ⟨q_s_X11_within, q_z_X11, q_c_X11_within, by decide +kernel⟩
theorem mv_X1_hasRing : kMV RX1 yX1_hasRing cX1_hasRing 2 (some .boolean) 1 := ⟨q_i_X1_hasRing, q_s_X1_hasRing, q_z_X1, q_c_X1_hasRing, by decide +kernel⟩
theorem mv_X1_hasArcher : kMV RX1 yX1_hasArcher cX1_hasArcher 2 (some .boolean) 1 := ⟨q_i_X1_hasArcher, q_s_X1_hasArcher, q_z_X1, q_c_X1_hasArcher, by decide +kernel⟩
theorem mv_X1_isTold : kMV RX1 yX1_isTold cX1_isTold 1 (some .boolean) 0 := ⟨q_i_X1_isTold, q_s_X1_isTold, q_z_X1, q_c_X1_isTold, by decide +kernel⟩
theorem mv_X1_sumOfArchers : kMV RX1 yX1_sumOfArchers cX1_sumOfArchers 4 (some .int) 1 := ⟨q_i_X1_sumOfArchers, q_s_X1_sumOfArchers, q_z_X1, q_c_X1_sumOfArchers, by decide +kernel⟩
theorem mv_X10_hasRoom : kMV RX10 yX10_hasRoom cX10_hasRoom 2 (some .boolean) 1 := ⟨q_i_X10_hasRoom, q_s_X10_hasRoom, q_z_X10, q_c_X10_hasRoom, by decide +kernel⟩
theorem mv_X10_addBytes : kMV RX10 yX10_addBytes cX10_addBytes 3 none 1 := ⟨q_i_X10_addBytes, q_s_X10_addBytes, q_z_X10, q_c_X10_addBytes, by decide +kernel⟩
theorem mv_X10_addToken : kMV RX10 yX10_addToken cX10_addToken 4 none 3 := ⟨q_i_X10_addToken, q_s_X10_addToken, q_z_X10, q_c_X10_addToken, by decide +kernel⟩
theorem mv_X10_advance : kMV RX10 yX10_advance cX10_advance 1 none 0 := ⟨q_i_X10_advance, q_s_X10_advance, q_z_X10, q_c_X10_advance, by decide +kernel⟩
theorem mv_X10_isSign : kMV RX10 yX10_isSign cX10_isSign 2 (some .boolean) 1 := ⟨q_i_X10_isSign, q_s_X10_isSign, q_z_X10, q_c_X10_isSign, by decide +kernel⟩
theorem ms_J7_fill_53178 : kMS yJ7_fill_53178 cJ7_fill_53178 4 none 2 := ⟨q_s_J7_fill_53178, q_z_J7, q_c_J7_fill_53178, by decide +kernel⟩
theorem ms_X3_opensClause : kMS yX3_opensClause cX3_opensClause 1 (some .boolean) 1 := ⟨q_s_X3_opensClause, q_z_X3, q_c_X3_opensClause, by decide +kernel⟩
theorem mv_X10_failAt : kMV RX10 yX10_failAt cX10_failAt 3 none 2 := ⟨q_i_X10_failAt, q_s_X10_failAt, q_z_X10, q_c_X10_failAt, by decide +kernel⟩
theorem mv_X10_open : kMV RX10 yX10_open cX10_open 3 none 0 := ⟨q_i_X10_open, q_s_X10_open, q_z_X10, q_c_X10_open, by decide +kernel⟩
theorem mv_X1_clear : kMV RX1 yX1_clear cX1_clear 1 none 0 := ⟨q_i_X1_clear, q_s_X1_clear, q_z_X1, q_c_X1_clear, by decide +kernel⟩
theorem mv_X3_readClause : kMV RX3 yX3_readClause cX3_readClause 4 none 2 := ⟨q_i_X3_readClause, q_s_X3_readClause, q_z_X3, q_c_X3_readClause, by decide +kernel⟩
theorem mv_X10_hasNextClause : kMV RX10 yX10_hasNextClause cX10_hasNextClause 2 (some .boolean) 0 := ⟨q_i_X10_hasNextClause, q_s_X10_hasNextClause, q_z_X10, q_c_X10_hasNextClause, by decide +kernel⟩
theorem mv_X3_readFrom : kMV RX3 yX3_readFrom cX3_readFrom 3 (some .int) 1 := ⟨q_i_X3_readFrom, q_s_X3_readFrom, q_z_X3, q_c_X3_readFrom, by decide +kernel⟩
theorem mv_X10_isWord : kMV RX10 yX10_isWord cX10_isWord 2 (some .boolean) 1 := ⟨q_i_X10_isWord, q_s_X10_isWord, q_z_X10, q_c_X10_isWord, by decide +kernel⟩
theorem mv_X8_readClause : kMV RX8 yX8_readClause cX8_readClause 3 none 2 := ⟨q_i_X8_readClause, q_s_X8_readClause, q_z_X8, q_c_X8_readClause, by decide +kernel⟩
theorem mv_X8_readFrom : kMV RX8 yX8_readFrom cX8_readFrom 3 (some .int) 1 := ⟨q_i_X8_readFrom, q_s_X8_readFrom, q_z_X8, q_c_X8_readFrom, by decide +kernel⟩
theorem mv_X1_copyFrom : kMV RX1 yX1_copyFrom cX1_copyFrom 2 none 1 := ⟨q_i_X1_copyFrom, q_s_X1_copyFrom, q_z_X1, q_c_X1_copyFrom, by decide +kernel⟩
theorem mv_X5_copyFrom : kMV RX5 yX5_copyFrom cX5_copyFrom 2 none 1 := ⟨q_i_X5_copyFrom, q_s_X5_copyFrom, q_z_X5, q_c_X5_copyFrom, by decide +kernel⟩
theorem mv_X4_copyFrom : kMV RX4 yX4_copyFrom cX4_copyFrom 2 none 1 := ⟨q_i_X4_copyFrom, q_s_X4_copyFrom, q_z_X4, q_c_X4_copyFrom, by decide +kernel⟩
theorem mv_X12_isGreen : kMV RX12 yX12_isGreen cX12_isGreen 1 (some .boolean) 0 := ⟨q_i_X12_isGreen, q_s_X12_isGreen, q_z_X12, q_c_X12_isGreen, by decide +kernel⟩
theorem mv_X12_isRing : kMV RX12 yX12_isRing cX12_isRing 2 (some .boolean) 1 := ⟨q_i_X12_isRing, q_s_X12_isRing, q_z_X12, q_c_X12_isRing, by decide +kernel⟩
theorem mv_X12_isArcher : kMV RX12 yX12_isArcher cX12_isArcher 2 (some .boolean) 1 := ⟨q_i_X12_isArcher, q_s_X12_isArcher, q_z_X12, q_c_X12_isArcher, by decide +kernel⟩
theorem mv_X12_comingRound : kMV RX12 yX12_comingRound cX12_comingRound 1 (some .int) 0 := ⟨q_i_X12_comingRound, q_s_X12_comingRound, q_z_X12, q_c_X12_comingRound, by decide +kernel⟩
theorem mv_X12_sumOver : kMV RX12 yX12_sumOver cX12_sumOver 4 (some .int) 1 := ⟨q_i_X12_sumOver, q_s_X12_sumOver, q_z_X12, q_c_X12_sumOver, by decide +kernel⟩
theorem mv_X12_four : kMV RX12 yX12_four cX12_four 3 none 1 := ⟨q_i_X12_four, q_s_X12_four, q_z_X12, q_c_X12_four, by decide +kernel⟩
theorem mv_X12_isRule : kMV RX12 yX12_isRule cX12_isRule 2 (some .boolean) 1 := ⟨q_i_X12_isRule, q_s_X12_isRule, q_z_X12, q_c_X12_isRule, by decide +kernel⟩
theorem ms_X12_in : kMS yX12_in cX12_in 6 (some .boolean) 3 := ⟨q_s_X12_in, q_z_X12, q_c_X12_in, by decide +kernel⟩
theorem mv_X12_see : kMV RX12 yX12_see cX12_see 1 (some .int) 0 := ⟨q_i_X12_see, q_s_X12_see, q_z_X12, q_c_X12_see, by decide +kernel⟩
theorem mv_X12_isLetter : kMV RX12 yX12_isLetter cX12_isLetter 2 (some .boolean) 1 := ⟨q_i_X12_isLetter, q_s_X12_isLetter, q_z_X12, q_c_X12_isLetter, by decide +kernel⟩
theorem mv_X12_isWord : kMV RX12 yX12_isWord cX12_isWord 6 (some .boolean) 1 := ⟨q_i_X12_isWord, q_s_X12_isWord, q_z_X12, q_c_X12_isWord, by decide +kernel⟩
theorem mv_X12_fails : kMV RX12 yX12_fails cX12_fails 3 (some .boolean) 2 := ⟨q_i_X12_fails, q_s_X12_fails, q_z_X12, q_c_X12_fails, by decide +kernel⟩
theorem mv_X12_isGreenWord : kMV RX12 yX12_isGreenWord cX12_isGreenWord 1 (some .boolean) 0 := ⟨q_i_X12_isGreenWord, q_s_X12_isGreenWord, q_z_X12, q_c_X12_isGreenWord, by decide +kernel⟩
theorem mv_X12_clauseHere : kMV RX12 yX12_clauseHere cX12_clauseHere 3 (some .boolean) 0 := ⟨q_i_X12_clauseHere, q_s_X12_clauseHere, q_z_X12, q_c_X12_clauseHere, by decide +kernel⟩
theorem mv_X12_readsAll : kMV RX12 yX12_readsAll cX12_readsAll 2 (some .boolean) 0 := ⟨q_i_X12_readsAll, q_s_X12_readsAll, q_z_X12, q_c_X12_readsAll, by decide +kernel⟩
theorem mi_X1_init : kMI yX1_init cX1_init 1 0 := ⟨q_i_X1_init, q_z_X1, q_c_X1_init, rfl, by decide +kernel⟩
theorem mi_X5_init : kMI yX5_init cX5_init 1 0 := ⟨q_i_X5_init, q_z_X5, q_c_X5_init, rfl, by decide +kernel⟩
theorem mi_X10_init : kMI yX10_init cX10_init 1 0 := ⟨q_i_X10_init, q_z_X10, q_c_X10_init, rfl, by decide +kernel⟩
theorem mi_X3_init : kMI yX3_init cX3_init 1 0 := ⟨q_i_X3_init, q_z_X3, q_c_X3_init, rfl, by decide +kernel⟩
theorem mi_X8_init : kMI yX8_init cX8_init 1 0 := ⟨q_i_X8_init, q_z_X8, q_c_X8_init, rfl, by decide +kernel⟩
theorem mi_X4_init : kMI yX4_init cX4_init 1 0 := ⟨q_i_X4_init, q_z_X4, q_c_X4_init, rfl, by decide +kernel⟩
theorem mi_X0_init : kMI yX0_init cX0_init 1 0 := ⟨q_i_X0_init, q_z_X0, q_c_X0_init, rfl, by decide +kernel⟩
theorem mi_X6_init : kMI yX6_init cX6_init 1 0 := ⟨q_i_X6_init, q_z_X6, q_c_X6_init, rfl, by decide +kernel⟩
theorem mi_X2_init : kMI yX2_init cX2_init 1 0 := ⟨q_i_X2_init, q_z_X2, q_c_X2_init, rfl, by decide +kernel⟩
theorem mi_X9_init : kMI yX9_init cX9_init 1 0 := ⟨q_i_X9_init, q_z_X9, q_c_X9_init, rfl, by decide +kernel⟩
theorem mv_X11_feed : kMV RX11 yX11_feed cX11_feed 6 (some .int) 5 := ⟨q_i_X11_feed, q_s_X11_feed, q_z_X11, q_c_X11_feed, by decide +kernel⟩
theorem mv_X12_feed : kMV RX12 yX12_feed cX12_feed 6 (some .int) 5 := ⟨q_i_X12_feed, q_s_X12_feed, q_z_X12, q_c_X12_feed, by decide +kernel⟩
theorem mv_X11_end : kMV RX11 yX11_end cX11_end 2 (some .int) 1 := ⟨q_i_X11_end, q_s_X11_end, q_z_X11, q_c_X11_end, by decide +kernel⟩
theorem mv_X12_end : kMV RX12 yX12_end cX12_end 2 (some .int) 1 := ⟨q_i_X12_end, q_s_X12_end, q_z_X12, q_c_X12_end, by decide +kernel⟩
theorem mv_X11_green : kMV RX11 yX11_green cX11_green 2 (some .int) 0 := ⟨q_i_X11_green, q_s_X11_green, q_z_X11, q_c_X11_green, by decide +kernel⟩
theorem mv_X12_green : kMV RX12 yX12_green cX12_green 2 (some .int) 0 := ⟨q_i_X12_green, q_s_X12_green, q_z_X12, q_c_X12_green, by decide +kernel⟩
theorem mv_X11_rule : kMV RX11 yX11_rule cX11_rule 2 (some .int) 0 := ⟨q_i_X11_rule, q_s_X11_rule, q_z_X11, q_c_X11_rule, by decide +kernel⟩
theorem mv_X12_rule : kMV RX12 yX12_rule cX12_rule 1 (some .int) 0 := ⟨q_i_X12_rule, q_s_X12_rule, q_z_X12, q_c_X12_rule, by decide +kernel⟩
theorem mv_X11_force : kMV RX11 yX11_force cX11_force 3 (some .int) 1 := ⟨q_i_X11_force, q_s_X11_force, q_z_X11, q_c_X11_force, by decide +kernel⟩
theorem mv_X12_force : kMV RX12 yX12_force cX12_force 3 (some .int) 1 := ⟨q_i_X12_force, q_s_X12_force, q_z_X12, q_c_X12_force, by decide +kernel⟩
theorem mv_X11_ring : kMV RX11 yX11_ring cX11_ring 3 (some .int) 2 := ⟨q_i_X11_ring, q_s_X11_ring, q_z_X11, q_c_X11_ring, by decide +kernel⟩
theorem mv_X12_ring : kMV RX12 yX12_ring cX12_ring 3 (some .int) 2 := ⟨q_i_X12_ring, q_s_X12_ring, q_z_X12, q_c_X12_ring, by decide +kernel⟩
theorem mv_X11_archer : kMV RX11 yX11_archer cX11_archer 3 (some .int) 2 := ⟨q_i_X11_archer, q_s_X11_archer, q_z_X11, q_c_X11_archer, by decide +kernel⟩
theorem mv_X12_archer : kMV RX12 yX12_archer cX12_archer 3 (some .int) 2 := ⟨q_i_X12_archer, q_s_X12_archer, q_z_X12, q_c_X12_archer, by decide +kernel⟩
theorem mv_X11_wind : kMV RX11 yX11_wind cX11_wind 2 (some .int) 1 := ⟨q_i_X11_wind, q_s_X11_wind, q_z_X11, q_c_X11_wind, by decide +kernel⟩
theorem mv_X12_wind : kMV RX12 yX12_wind cX12_wind 2 (some .int) 1 := ⟨q_i_X12_wind, q_s_X12_wind, q_z_X12, q_c_X12_wind, by decide +kernel⟩
theorem mv_X11_round : kMV RX11 yX11_round cX11_round 2 (some .int) 0 := ⟨q_i_X11_round, q_s_X11_round, q_z_X11, q_c_X11_round, by decide +kernel⟩
theorem mv_X12_round : kMV RX12 yX12_round cX12_round 1 (some .int) 0 := ⟨q_i_X12_round, q_s_X12_round, q_z_X12, q_c_X12_round, by decide +kernel⟩
theorem mv_X11_shoot : kMV RX11 yX11_shoot cX11_shoot 4 (some .int) 2 := ⟨q_i_X11_shoot, q_s_X11_shoot, q_z_X11, q_c_X11_shoot, by decide +kernel⟩
theorem mv_X12_shoot : kMV RX12 yX12_shoot cX12_shoot 4 (some .int) 2 := ⟨q_i_X12_shoot, q_s_X12_shoot, q_z_X12, q_c_X12_shoot, by decide +kernel⟩
theorem mv_X11_pull : kMV RX11 yX11_pull cX11_pull 5 (some .int) 2 := ⟨q_i_X11_pull, q_s_X11_pull, q_z_X11, q_c_X11_pull, by decide +kernel⟩
theorem mv_X12_pull : kMV RX12 yX12_pull cX12_pull 4 (some .int) 2 := ⟨q_i_X12_pull, q_s_X12_pull, q_z_X12, q_c_X12_pull, by decide +kernel⟩
theorem mv_X11_breath : kMV RX11 yX11_breath cX11_breath 3 (some .int) 1 := ⟨q_i_X11_breath, q_s_X11_breath, q_z_X11, q_c_X11_breath, by decide +kernel⟩
theorem mv_X12_breath : kMV RX12 yX12_breath cX12_breath 2 (some .int) 1 := ⟨q_i_X12_breath, q_s_X12_breath, q_z_X12, q_c_X12_breath, by decide +kernel⟩
theorem mv_X11_teach : kMV RX11 yX11_teach cX11_teach 5 (some .int) 2 := ⟨q_i_X11_teach, q_s_X11_teach, q_z_X11, q_c_X11_teach, by decide +kernel⟩
theorem mv_X12_teach : kMV RX12 yX12_teach cX12_teach 4 (some .int) 2 := ⟨q_i_X12_teach, q_s_X12_teach, q_z_X12, q_c_X12_teach, by decide +kernel⟩
theorem mv_X11_undo : kMV RX11 yX11_undo cX11_undo 1 (some .int) 0 := ⟨q_i_X11_undo, q_s_X11_undo, q_z_X11, q_c_X11_undo, by decide +kernel⟩
theorem mv_X12_undo : kMV RX12 yX12_undo cX12_undo 2 (some .int) 0 := ⟨q_i_X12_undo, q_s_X12_undo, q_z_X12, q_c_X12_undo, by decide +kernel⟩
theorem mv_X11_ahead : kMV RX11 yX11_ahead cX11_ahead 5 (some .int) 3 := ⟨q_i_X11_ahead, q_s_X11_ahead, q_z_X11, q_c_X11_ahead, by decide +kernel⟩
theorem mv_X12_ahead : kMV RX12 yX12_ahead cX12_ahead 5 (some .int) 3 := ⟨q_i_X12_ahead, q_s_X12_ahead, q_z_X12, q_c_X12_ahead, by decide +kernel⟩
theorem mv_X11_eased : kMV RX11 yX11_eased cX11_eased 2 (some .int) 1 := ⟨q_i_X11_eased, q_s_X11_eased, q_z_X11, q_c_X11_eased, by decide +kernel⟩
theorem mv_X12_eased : kMV RX12 yX12_eased cX12_eased 2 (some .int) 1 := ⟨q_i_X12_eased, q_s_X12_eased, q_z_X12, q_c_X12_eased, by decide +kernel⟩
theorem mv_X11_allEased : kMV RX11 yX11_allEased cX11_allEased 1 (some .int) 0 := ⟨q_i_X11_allEased, q_s_X11_allEased, q_z_X11, q_c_X11_allEased, by decide +kernel⟩
theorem mv_X12_allEased : kMV RX12 yX12_allEased cX12_allEased 1 (some .int) 0 := ⟨q_i_X12_allEased, q_s_X12_allEased, q_z_X12, q_c_X12_allEased, by decide +kernel⟩
theorem mv_X11_down : kMV RX11 yX11_down cX11_down 4 (some .int) 2 := ⟨q_i_X11_down, q_s_X11_down, q_z_X11, q_c_X11_down, by decide +kernel⟩
theorem mv_X12_down : kMV RX12 yX12_down cX12_down 4 (some .int) 2 := ⟨q_i_X12_down, q_s_X12_down, q_z_X12, q_c_X12_down, by decide +kernel⟩
theorem mv_X11_bestAim : kMV RX11 yX11_bestAim cX11_bestAim 7 (some .int) 2 := ⟨q_i_X11_bestAim, q_s_X11_bestAim, q_z_X11, q_c_X11_bestAim, by decide +kernel⟩
theorem mv_X12_bestAim : kMV RX12 yX12_bestAim cX12_bestAim 6 (some .int) 2 := ⟨q_i_X12_bestAim, q_s_X12_bestAim, q_z_X12, q_c_X12_bestAim, by decide +kernel⟩
theorem mv_X11_row : kMV RX11 yX11_row cX11_row 4 (some .int) 3 := ⟨q_i_X11_row, q_s_X11_row, q_z_X11, q_c_X11_row, by decide +kernel⟩
theorem mv_X12_row : kMV RX12 yX12_row cX12_row 5 (some .int) 3 := ⟨q_i_X12_row, q_s_X12_row, q_z_X12, q_c_X12_row, by decide +kernel⟩
theorem mv_X11_hold : kMV RX11 yX11_hold cX11_hold 5 (some .int) 1 := ⟨q_i_X11_hold, q_s_X11_hold, q_z_X11, q_c_X11_hold, by decide +kernel⟩
theorem mv_X12_hold : kMV RX12 yX12_hold cX12_hold 4 (some .int) 1 := ⟨q_i_X12_hold, q_s_X12_hold, q_z_X12, q_c_X12_hold, by decide +kernel⟩
theorem mv_X11_leastSkill : kMV RX11 yX11_leastSkill cX11_leastSkill 4 (some .int) 2 := ⟨q_i_X11_leastSkill, q_s_X11_leastSkill, q_z_X11, q_c_X11_leastSkill, by decide +kernel⟩
theorem mv_X12_leastSkill : kMV RX12 yX12_leastSkill cX12_leastSkill 5 (some .int) 2 := ⟨q_i_X12_leastSkill, q_s_X12_leastSkill, q_z_X12, q_c_X12_leastSkill, by decide +kernel⟩
theorem mv_X11_set : kMV RX11 yX11_set cX11_set 4 (some .int) 3 := ⟨q_i_X11_set, q_s_X11_set, q_z_X11, q_c_X11_set, by decide +kernel⟩
theorem mv_X12_set : kMV RX12 yX12_set cX12_set 8 (some .int) 3 := ⟨q_i_X12_set, q_s_X12_set, q_z_X12, q_c_X12_set, by decide +kernel⟩
theorem mv_X11_given : kMV RX11 yX11_given cX11_given 3 (some .int) 2 := ⟨q_i_X11_given, q_s_X11_given, q_z_X11, q_c_X11_given, by decide +kernel⟩
theorem mv_X12_given : kMV RX12 yX12_given cX12_given 7 (some .int) 2 := ⟨q_i_X12_given, q_s_X12_given, q_z_X12, q_c_X12_given, by decide +kernel⟩
theorem mv_X11_skilled : kMV RX11 yX11_skilled cX11_skilled 2 (some .int) 1 := ⟨q_i_X11_skilled, q_s_X11_skilled, q_z_X11, q_c_X11_skilled, by decide +kernel⟩
theorem mv_X12_skilled : kMV RX12 yX12_skilled cX12_skilled 2 (some .int) 1 := ⟨q_i_X12_skilled, q_s_X12_skilled, q_z_X12, q_c_X12_skilled, by decide +kernel⟩
theorem mv_X11_ails : kMV RX11 yX11_ails cX11_ails 3 (some .int) 1 := ⟨q_i_X11_ails, q_s_X11_ails, q_z_X11, q_c_X11_ails, by decide +kernel⟩
theorem mv_X12_ails : kMV RX12 yX12_ails cX12_ails 2 (some .int) 1 := ⟨q_i_X12_ails, q_s_X12_ails, q_z_X12, q_c_X12_ails, by decide +kernel⟩
theorem mv_X11_rests : kMV RX11 yX11_rests cX11_rests 5 (some .int) 4 := ⟨q_i_X11_rests, q_s_X11_rests, q_z_X11, q_c_X11_rests, by decide +kernel⟩
theorem mv_X12_rests : kMV RX12 yX12_rests cX12_rests 9 (some .int) 4 := ⟨q_i_X12_rests, q_s_X12_rests, q_z_X12, q_c_X12_rests, by decide +kernel⟩
theorem mv_X11_pence : kMV RX11 yX11_pence cX11_pence 3 (some .int) 2 := ⟨q_i_X11_pence, q_s_X11_pence, q_z_X11, q_c_X11_pence, by decide +kernel⟩
theorem mv_X12_pence : kMV RX12 yX12_pence cX12_pence 13 (some .int) 2 := ⟨q_i_X12_pence, q_s_X12_pence, q_z_X12, q_c_X12_pence, by decide +kernel⟩
theorem mv_X11_note : kMV RX11 yX11_note cX11_note 5 (some .int) 3 := ⟨q_i_X11_note, q_s_X11_note, q_z_X11, q_c_X11_note, by decide +kernel⟩
theorem mv_X12_note : kMV RX12 yX12_note cX12_note 5 (some .int) 3 := ⟨q_i_X12_note, q_s_X12_note, q_z_X12, q_c_X12_note, by decide +kernel⟩
theorem mv_X11_ruled : kMV RX11 yX11_ruled cX11_ruled 2 (some .int) 1 := ⟨q_i_X11_ruled, q_s_X11_ruled, q_z_X11, q_c_X11_ruled, by decide +kernel⟩
theorem mv_X12_ruled : kMV RX12 yX12_ruled cX12_ruled 5 (some .int) 1 := ⟨q_i_X12_ruled, q_s_X12_ruled, q_z_X12, q_c_X12_ruled, by decide +kernel⟩
theorem mv_X11_look : kMV RX11 yX11_look cX11_look 5 (some .int) 2 := ⟨q_i_X11_look, q_s_X11_look, q_z_X11, q_c_X11_look, by decide +kernel⟩
theorem mv_X12_look : kMV RX12 yX12_look cX12_look 7 (some .int) 2 := ⟨q_i_X12_look, q_s_X12_look, q_z_X12, q_c_X12_look, by decide +kernel⟩
theorem mv_X11_seed : kMV RX11 yX11_seed cX11_seed 3 (some .int) 1 := ⟨q_i_X11_seed, q_s_X11_seed, q_z_X11, q_c_X11_seed, by decide +kernel⟩
theorem mv_X12_seed : kMV RX12 yX12_seed cX12_seed 3 (some .int) 1 := ⟨q_i_X12_seed, q_s_X12_seed, q_z_X12, q_c_X12_seed, by decide +kernel⟩
theorem mv_X11_gusts : kMV RX11 yX11_gusts cX11_gusts 8 (some .int) 4 := ⟨q_i_X11_gusts, q_s_X11_gusts, q_z_X11, q_c_X11_gusts, by decide +kernel⟩
theorem mv_X12_gusts : kMV RX12 yX12_gusts cX12_gusts 10 (some .int) 4 := ⟨q_i_X12_gusts, q_s_X12_gusts, q_z_X12, q_c_X12_gusts, by decide +kernel⟩
theorem mv_X11_count : kMV RX11 yX11_count cX11_count 2 (some .int) 1 := ⟨q_i_X11_count, q_s_X11_count, q_z_X11, q_c_X11_count, by decide +kernel⟩
theorem mv_X12_count : kMV RX12 yX12_count cX12_count 2 (some .int) 1 := ⟨q_i_X12_count, q_s_X12_count, q_z_X12, q_c_X12_count, by decide +kernel⟩
theorem mv_X11_image : kMV RX11 yX11_image cX11_image 2 (some .int) 1 := ⟨q_i_X11_image, q_s_X11_image, q_z_X11, q_c_X11_image, by decide +kernel⟩
theorem mv_X12_image : kMV RX12 yX12_image cX12_image 3 (some .int) 1 := ⟨q_i_X12_image, q_s_X12_image, q_z_X12, q_c_X12_image, by decide +kernel⟩
theorem mv_X11_back : kMV RX11 yX11_back cX11_back 2 (some .int) 1 := ⟨q_i_X11_back, q_s_X11_back, q_z_X11, q_c_X11_back, by decide +kernel⟩
theorem mv_X12_back : kMV RX12 yX12_back cX12_back 3 (some .int) 1 := ⟨q_i_X12_back, q_s_X12_back, q_z_X12, q_c_X12_back, by decide +kernel⟩
theorem mi_X11_init : kMI yX11_init cX11_init 2 0 := ⟨q_i_X11_init, q_z_X11, q_c_X11_init, rfl, by decide +kernel⟩
theorem mi_X12_init : kMI yX12_init cX12_init 1 0 := ⟨q_i_X12_init, q_z_X12, q_c_X12_init, rfl, by decide +kernel⟩
theorem inG_X0 : ∀ w ∈ u_ws RX0 TX0 3, w ∈ kGW := List.forall_mem_cons.mpr ⟨kin1 (i := 192) rfl rfl, List.forall_mem_cons.mpr ⟨kin1 (i := 194) rfl rfl, List.forall_mem_cons.mpr ⟨kin1 (i := 196) rfl rfl, fun _ h => absurd h List.not_mem_nil⟩⟩⟩
theorem dfX0 : ∀ j, j < 3 → defaultValue (tyX0 j) = vp_V [.null, .int 0, .int 0] j := fun j hj => match j, hj with
  | 0, _ => rfl
  | 1, _ => rfl
  | 2, _ => rfl
  | q + 3, h => absurd h (by omega)
theorem inG_X1 : ∀ w ∈ u_ws RX1 TX1 1, w ∈ kGW := List.forall_mem_cons.mpr ⟨kin1 (i := 98) rfl rfl, fun _ h => absurd h List.not_mem_nil⟩
theorem dfX1 : ∀ j, j < 1 → defaultValue (tyX1 j) = vp_V [.null] j := fun j hj => match j, hj with
  | 0, _ => rfl
  | q + 1, h => absurd h (by omega)
theorem inG_X2 : ∀ w ∈ u_ws RX2 TX2 5, w ∈ kGW := List.forall_mem_cons.mpr ⟨kin2 (i := 15) rfl rfl, List.forall_mem_cons.mpr ⟨kin2 (i := 17) rfl rfl, List.forall_mem_cons.mpr ⟨kin2 (i := 19) rfl rfl, List.forall_mem_cons.mpr ⟨kin2 (i := 21) rfl rfl, List.forall_mem_cons.mpr ⟨kin2 (i := 23) rfl rfl, fun _ h => absurd h List.not_mem_nil⟩⟩⟩⟩⟩
theorem dfX2 : ∀ j, j < 5 → defaultValue (tyX2 j) = vp_V [.int 0, .int 0, .int 0, .null, .null] j := fun j hj => match j, hj with
  | 0, _ => rfl
  | 1, _ => rfl
  | 2, _ => rfl
  | 3, _ => rfl
  | 4, _ => rfl
  | q + 5, h => absurd h (by omega)
theorem inG_X3 : ∀ w ∈ u_ws RX3 TX3 1, w ∈ kGW := List.forall_mem_cons.mpr ⟨kin1 (i := 103) rfl rfl, fun _ h => absurd h List.not_mem_nil⟩
theorem dfX3 : ∀ j, j < 1 → defaultValue (tyX3 j) = vp_V [.null] j := fun j hj => match j, hj with
  | 0, _ => rfl
  | q + 1, h => absurd h (by omega)
theorem inG_X4 : ∀ w ∈ u_ws RX4 TX4 6, w ∈ kGW := List.forall_mem_cons.mpr ⟨kin1 (i := 166) rfl rfl, List.forall_mem_cons.mpr ⟨kin1 (i := 168) rfl rfl, List.forall_mem_cons.mpr ⟨kin1 (i := 170) rfl rfl, List.forall_mem_cons.mpr ⟨kin1 (i := 172) rfl rfl, List.forall_mem_cons.mpr ⟨kin1 (i := 174) rfl rfl, List.forall_mem_cons.mpr ⟨kin1 (i := 176) rfl rfl, fun _ h => absurd h List.not_mem_nil⟩⟩⟩⟩⟩⟩
theorem dfX4 : ∀ j, j < 6 → defaultValue (tyX4 j) = vp_V [.null, .null, .null, .int 0, .int 0, .int 0] j := fun j hj => match j, hj with
  | 0, _ => rfl
  | 1, _ => rfl
  | 2, _ => rfl
  | 3, _ => rfl
  | 4, _ => rfl
  | 5, _ => rfl
  | q + 6, h => absurd h (by omega)
theorem inG_X5 : ∀ w ∈ u_ws RX5 TX5 4, w ∈ kGW := List.forall_mem_cons.mpr ⟨kin1 (i := 143) rfl rfl, List.forall_mem_cons.mpr ⟨kin1 (i := 145) rfl rfl, List.forall_mem_cons.mpr ⟨kin1 (i := 147) rfl rfl, List.forall_mem_cons.mpr ⟨kin1 (i := 149) rfl rfl, fun _ h => absurd h List.not_mem_nil⟩⟩⟩⟩
theorem dfX5 : ∀ j, j < 4 → defaultValue (tyX5 j) = vp_V [.null, .null, .null, .int 0] j := fun j hj => match j, hj with
  | 0, _ => rfl
  | 1, _ => rfl
  | 2, _ => rfl
  | 3, _ => rfl
  | q + 4, h => absurd h (by omega)
theorem inG_X6 : ∀ w ∈ u_ws RX6 TX6 8, w ∈ kGW := List.forall_mem_cons.mpr ⟨kin1 (i := 223) rfl rfl, List.forall_mem_cons.mpr ⟨kin1 (i := 225) rfl rfl, List.forall_mem_cons.mpr ⟨kin1 (i := 227) rfl rfl, List.forall_mem_cons.mpr ⟨kin1 (i := 229) rfl rfl, List.forall_mem_cons.mpr ⟨kin1 (i := 231) rfl rfl, List.forall_mem_cons.mpr ⟨kin1 (i := 233) rfl rfl, List.forall_mem_cons.mpr ⟨kin1 (i := 235) rfl rfl, List.forall_mem_cons.mpr ⟨kin1 (i := 237) rfl rfl, fun _ h => absurd h List.not_mem_nil⟩⟩⟩⟩⟩⟩⟩⟩
theorem dfX6 : ∀ j, j < 8 → defaultValue (tyX6 j) = vp_V [.null, .null, .null, .int 0, .int 0, .null, .null, .null] j := fun j hj => match j, hj with
  | 0, _ => rfl
  | 1, _ => rfl
  | 2, _ => rfl
  | 3, _ => rfl
  | 4, _ => rfl
  | 5, _ => rfl
  | 6, _ => rfl
  | 7, _ => rfl
  | q + 8, h => absurd h (by omega)
theorem inG_X7 : ∀ w ∈ u_ws RX7 TX7 2, w ∈ kGW := List.forall_mem_cons.mpr ⟨kin3 (i := 94) rfl rfl, List.forall_mem_cons.mpr ⟨kin3 (i := 96) rfl rfl, fun _ h => absurd h List.not_mem_nil⟩⟩
theorem dfX7 : ∀ j, j < 2 → defaultValue (tyX7 j) = vp_V [.null, .int 0] j := fun j hj => match j, hj with
  | 0, _ => rfl
  | 1, _ => rfl
  | q + 2, h => absurd h (by omega)
theorem inG_X8 : ∀ w ∈ u_ws RX8 TX8 3, w ∈ kGW := List.forall_mem_cons.mpr ⟨kin1 (i := 115) rfl rfl, List.forall_mem_cons.mpr ⟨kin1 (i := 117) rfl rfl, List.forall_mem_cons.mpr ⟨kin1 (i := 119) rfl rfl, fun _ h => absurd h List.not_mem_nil⟩⟩⟩
theorem dfX8 : ∀ j, j < 3 → defaultValue (tyX8 j) = vp_V [.null, .int 0, .int 0] j := fun j hj => match j, hj with
  | 0, _ => rfl
  | 1, _ => rfl
  | 2, _ => rfl
  | q + 3, h => absurd h (by omega)
theorem inG_X9 : ∀ w ∈ u_ws RX9 TX9 3, w ∈ kGW := List.forall_mem_cons.mpr ⟨kin2 (i := 38) rfl rfl, List.forall_mem_cons.mpr ⟨kin2 (i := 40) rfl rfl, List.forall_mem_cons.mpr ⟨kin2 (i := 42) rfl rfl, fun _ h => absurd h List.not_mem_nil⟩⟩⟩
theorem dfX9 : ∀ j, j < 3 → defaultValue (tyX9 j) = vp_V [.int 0, .int 0, .null] j := fun j hj => match j, hj with
  | 0, _ => rfl
  | 1, _ => rfl
  | 2, _ => rfl
  | q + 3, h => absurd h (by omega)
theorem inG_X10 : ∀ w ∈ u_ws RX10 TX10 11, w ∈ kGW := List.forall_mem_cons.mpr ⟨kin1 (i := 55) rfl rfl, List.forall_mem_cons.mpr ⟨kin1 (i := 57) rfl rfl, List.forall_mem_cons.mpr ⟨kin1 (i := 59) rfl rfl, List.forall_mem_cons.mpr ⟨kin1 (i := 61) rfl rfl, List.forall_mem_cons.mpr ⟨kin1 (i := 63) rfl rfl, List.forall_mem_cons.mpr ⟨kin1 (i := 65) rfl rfl, List.forall_mem_cons.mpr ⟨kin1 (i := 67) rfl rfl, List.forall_mem_cons.mpr ⟨kin1 (i := 69) rfl rfl, List.forall_mem_cons.mpr ⟨kin1 (i := 71) rfl rfl, List.forall_mem_cons.mpr ⟨kin1 (i := 73) rfl rfl, List.forall_mem_cons.mpr ⟨kin1 (i := 75) rfl rfl, fun _ h => absurd h List.not_mem_nil⟩⟩⟩⟩⟩⟩⟩⟩⟩⟩⟩
theorem dfX10 : ∀ j, j < 11 → defaultValue (tyX10 j) = vp_V [.null, .int 0, .null, .null, .null, .int 0, .int 0, .int 0, .int 0, .int 0, .int 0] j := fun j hj => match j, hj with
  | 0, _ => rfl
  | 1, _ => rfl
  | 2, _ => rfl
  | 3, _ => rfl
  | 4, _ => rfl
  | 5, _ => rfl
  | 6, _ => rfl
  | 7, _ => rfl
  | 8, _ => rfl
  | 9, _ => rfl
  | 10, _ => rfl
  | q + 11, h => absurd h (by omega)
theorem inG_X11 : ∀ w ∈ u_ws RX11 TX11 11, w ∈ kGW := List.forall_mem_cons.mpr ⟨kin2 (i := 56) rfl rfl, List.forall_mem_cons.mpr ⟨kin2 (i := 58) rfl rfl, List.forall_mem_cons.mpr ⟨kin2 (i := 60) rfl rfl, List.forall_mem_cons.mpr ⟨kin2 (i := 62) rfl rfl, List.forall_mem_cons.mpr ⟨kin2 (i := 64) rfl rfl, List.forall_mem_cons.mpr ⟨kin2 (i := 66) rfl rfl, List.forall_mem_cons.mpr ⟨kin2 (i := 68) rfl rfl, List.forall_mem_cons.mpr ⟨kin2 (i := 70) rfl rfl, List.forall_mem_cons.mpr ⟨kin2 (i := 72) rfl rfl, List.forall_mem_cons.mpr ⟨kin2 (i := 74) rfl rfl, List.forall_mem_cons.mpr ⟨kin2 (i := 76) rfl rfl, fun _ h => absurd h List.not_mem_nil⟩⟩⟩⟩⟩⟩⟩⟩⟩⟩⟩
theorem dfX11 : ∀ j, j < 11 → defaultValue (tyX11 j) = vp_V [.null, .null, .null, .null, .int 0, .null, .null, .null, .null, .null, .null] j := fun j hj => match j, hj with
  | 0, _ => rfl
  | 1, _ => rfl
  | 2, _ => rfl
  | 3, _ => rfl
  | 4, _ => rfl
  | 5, _ => rfl
  | 6, _ => rfl
  | 7, _ => rfl
  | 8, _ => rfl
  | 9, _ => rfl
  | 10, _ => rfl
  | q + 11, h => absurd h (by omega)
theorem inG_X12 : ∀ w ∈ u_ws RX12 TX12 39, w ∈ kGW := List.forall_mem_cons.mpr ⟨kin5 (i := 7) rfl rfl, List.forall_mem_cons.mpr ⟨kin5 (i := 9) rfl rfl, List.forall_mem_cons.mpr ⟨kin5 (i := 11) rfl rfl, List.forall_mem_cons.mpr ⟨kin5 (i := 13) rfl rfl, List.forall_mem_cons.mpr ⟨kin5 (i := 15) rfl rfl, List.forall_mem_cons.mpr ⟨kin5 (i := 17) rfl rfl, List.forall_mem_cons.mpr ⟨kin5 (i := 19) rfl rfl, List.forall_mem_cons.mpr ⟨kin5 (i := 21) rfl rfl, List.forall_mem_cons.mpr ⟨kin5 (i := 23) rfl rfl, List.forall_mem_cons.mpr ⟨kin5 (i := 25) rfl rfl, List.forall_mem_cons.mpr ⟨kin5 (i := 27) rfl rfl, List.forall_mem_cons.mpr ⟨kin5 (i := 29) rfl rfl, List.forall_mem_cons.mpr ⟨kin5 (i := 31) rfl rfl, List.forall_mem_cons.mpr ⟨kin5 (i := 33) rfl rfl, List.forall_mem_cons.mpr ⟨kin5 (i := 35) rfl rfl, List.forall_mem_cons.mpr ⟨kin5 (i := 37) rfl rfl, List.forall_mem_cons.mpr ⟨kin5 (i := 39) rfl rfl, List.forall_mem_cons.mpr ⟨kin5 (i := 41) rfl rfl, List.forall_mem_cons.mpr ⟨kin5 (i := 43) rfl rfl, List.forall_mem_cons.mpr ⟨kin5 (i := 45) rfl rfl, List.forall_mem_cons.mpr ⟨kin5 (i := 47) rfl rfl, List.forall_mem_cons.mpr ⟨kin5 (i := 49) rfl rfl, List.forall_mem_cons.mpr ⟨kin5 (i := 51) rfl rfl, List.forall_mem_cons.mpr ⟨kin5 (i := 53) rfl rfl, List.forall_mem_cons.mpr ⟨kin5 (i := 55) rfl rfl, List.forall_mem_cons.mpr ⟨kin5 (i := 57) rfl rfl, List.forall_mem_cons.mpr ⟨kin5 (i := 59) rfl rfl, List.forall_mem_cons.mpr ⟨kin5 (i := 61) rfl rfl, List.forall_mem_cons.mpr ⟨kin5 (i := 63) rfl rfl, List.forall_mem_cons.mpr ⟨kin5 (i := 65) rfl rfl, List.forall_mem_cons.mpr ⟨kin5 (i := 67) rfl rfl, List.forall_mem_cons.mpr ⟨kin5 (i := 69) rfl rfl, List.forall_mem_cons.mpr ⟨kin5 (i := 71) rfl rfl, List.forall_mem_cons.mpr ⟨kin5 (i := 73) rfl rfl, List.forall_mem_cons.mpr ⟨kin5 (i := 75) rfl rfl, List.forall_mem_cons.mpr ⟨kin5 (i := 77) rfl rfl, List.forall_mem_cons.mpr ⟨kin5 (i := 79) rfl rfl, List.forall_mem_cons.mpr ⟨kin5 (i := 81) rfl rfl, List.forall_mem_cons.mpr ⟨kin5 (i := 83) rfl rfl, fun _ h => absurd h List.not_mem_nil⟩⟩⟩⟩⟩⟩⟩⟩⟩⟩⟩⟩⟩⟩⟩⟩⟩⟩⟩⟩⟩⟩⟩⟩⟩⟩⟩⟩⟩⟩⟩⟩⟩⟩⟩⟩⟩⟩⟩
theorem dfX12 : ∀ j, j < 39 → defaultValue (tyX12 j) = vp_V [.null, .int 0, .int 0, .null, .null, .null, .null, .null, .int 0, .int 0, .int 0, .int 0, .int 0, .int 0, .int 0, .null, .int 0, .null, .int 0, .null, .null, .int 0, .int 0, .int 0, .null, .null, .null, .int 0, .null, .null, .null, .null, .null, .null, .long 0, .null, .null, .null, .null] j := fun j hj => match j, hj with
  | 0, _ => rfl
  | 1, _ => rfl
  | 2, _ => rfl
  | 3, _ => rfl
  | 4, _ => rfl
  | 5, _ => rfl
  | 6, _ => rfl
  | 7, _ => rfl
  | 8, _ => rfl
  | 9, _ => rfl
  | 10, _ => rfl
  | 11, _ => rfl
  | 12, _ => rfl
  | 13, _ => rfl
  | 14, _ => rfl
  | 15, _ => rfl
  | 16, _ => rfl
  | 17, _ => rfl
  | 18, _ => rfl
  | 19, _ => rfl
  | 20, _ => rfl
  | 21, _ => rfl
  | 22, _ => rfl
  | 23, _ => rfl
  | 24, _ => rfl
  | 25, _ => rfl
  | 26, _ => rfl
  | 27, _ => rfl
  | 28, _ => rfl
  | 29, _ => rfl
  | 30, _ => rfl
  | 31, _ => rfl
  | 32, _ => rfl
  | 33, _ => rfl
  | 34, _ => rfl
  | 35, _ => rfl
  | 36, _ => rfl
  | 37, _ => rfl
  | 38, _ => rfl
  | q + 39, h => absurd h (by omega)
