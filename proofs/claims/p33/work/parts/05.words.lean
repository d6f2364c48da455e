theorem q_z_L : Cond.initialized RL ∈ kGW := kin1 (i := 0) rfl rfl
theorem q_z_X11 : Cond.initialized RX11 ∈ kGW := kin1 (i := 1) rfl rfl
theorem q_z_X10 : Cond.initialized RX10 ∈ kGW := kin1 (i := 2) rfl rfl
theorem q_z_X3 : Cond.initialized RX3 ∈ kGW := kin1 (i := 3) rfl rfl
theorem q_z_X1 : Cond.initialized RX1 ∈ kGW := kin1 (i := 4) rfl rfl
theorem q_z_X8 : Cond.initialized RX8 ∈ kGW := kin1 (i := 5) rfl rfl
theorem q_z_X4 : Cond.initialized RX4 ∈ kGW := kin1 (i := 6) rfl rfl
theorem q_z_X5 : Cond.initialized RX5 ∈ kGW := kin1 (i := 7) rfl rfl
theorem q_z_X0 : Cond.initialized RX0 ∈ kGW := kin1 (i := 8) rfl rfl
theorem q_z_X6 : Cond.initialized RX6 ∈ kGW := kin1 (i := 9) rfl rfl
theorem q_z_X2 : Cond.initialized RX2 ∈ kGW := kin1 (i := 10) rfl rfl
theorem q_z_X9 : Cond.initialized RX9 ∈ kGW := kin1 (i := 11) rfl rfl
theorem q_z_X12 : Cond.initialized RX12 ∈ kGW := kin1 (i := 12) rfl rfl
theorem q_z_J0 : Cond.initialized RJ0 ∈ kGW := kin1 (i := 13) rfl rfl
theorem q_z_J1 : Cond.initialized RJ1 ∈ kGW := kin1 (i := 14) rfl rfl
theorem q_z_J3 : Cond.initialized RJ3 ∈ kGW := kin1 (i := 15) rfl rfl
theorem q_z_J2 : Cond.initialized RJ2 ∈ kGW := kin1 (i := 16) rfl rfl
theorem q_z_J7 : Cond.initialized RJ7 ∈ kGW := kin1 (i := 17) rfl rfl
theorem q_z_J10 : Cond.initialized RJ10 ∈ kGW := kin1 (i := 18) rfl rfl
theorem q_z_X7 : Cond.initialized RX7 ∈ kGW := kin1 (i := 19) rfl rfl
theorem q_z_J9 : Cond.initialized RJ9 ∈ kGW := kin1 (i := 20) rfl rfl
theorem q_k_L_7 : Cond.classLink RL 7 RX11 ∈ kGW := kin1 (i := 21) rfl rfl
theorem q_n_X11 : Cond.instantiable RX11 11 ∈ kGW := kin1 (i := 22) rfl rfl
theorem q_m_L_9 : Cond.methodLink RL 9 yX11_init ∈ kGW := kin1 (i := 23) rfl rfl
theorem q_i_X11_init : Cond.instanceMethod yX11_init ∈ kGW := kin1 (i := 24) rfl rfl
theorem q_c_X11_init : Cond.code yX11_init cX11_init 2 none ∈ kGW := kin1 (i := 25) rfl rfl
theorem q_m_X11_1 : Cond.methodLink RX11 1 objectInit ∈ kGW := kin1 (i := 26) rfl rfl
theorem q_i_objectInit : Cond.instanceMethod objectInit ∈ kGW := kin1 (i := 27) rfl rfl
theorem q_c_objectInit : Cond.code objectInit ⟨#[0xb1]⟩ 1 none ∈ kGW := kin1 (i := 28) rfl rfl
theorem q_k_X11_7 : Cond.classLink RX11 7 RX10 ∈ kGW := kin1 (i := 29) rfl rfl
theorem q_n_X10 : Cond.instantiable RX10 11 ∈ kGW := kin1 (i := 30) rfl rfl
theorem q_i_X10_init : Cond.instanceMethod yX10_init ∈ kGW := kin1 (i := 32) rfl rfl
theorem q_c_X10_init : Cond.code yX10_init cX10_init 1 none ∈ kGW := kin1 (i := 33) rfl rfl
theorem q_m_X10_3 : Cond.methodLink RX10 3 objectInit ∈ kGW := kin1 (i := 34) rfl rfl
theorem q_f_X10_11 : Cond.fieldLink RX10 11 "StrawButts$Tape" "bytes" "[I" ∈ kGW := kin1 (i := 35) rfl rfl
theorem q_f_X10_15 : Cond.fieldLink RX10 15 "StrawButts$Tape" "length" "I" ∈ kGW := kin1 (i := 36) rfl rfl
theorem q_f_X11_87 : Cond.fieldLink RX11 87 "StrawButts$Tape" "length" "I" ∈ kGW := kin1 (i := 37) rfl rfl
theorem q_f_X10_19 : Cond.fieldLink RX10 19 "StrawButts$Tape" "kinds" "[I" ∈ kGW := kin1 (i := 38) rfl rfl
theorem q_f_X10_22 : Cond.fieldLink RX10 22 "StrawButts$Tape" "values" "[I" ∈ kGW := kin1 (i := 39) rfl rfl
theorem q_f_X10_25 : Cond.fieldLink RX10 25 "StrawButts$Tape" "places" "[I" ∈ kGW := kin1 (i := 40) rfl rfl
theorem q_f_X10_28 : Cond.fieldLink RX10 28 "StrawButts$Tape" "tokens" "I" ∈ kGW := kin1 (i := 41) rfl rfl
theorem q_f_X10_31 : Cond.fieldLink RX10 31 "StrawButts$Tape" "at" "I" ∈ kGW := kin1 (i := 42) rfl rfl
theorem q_f_X10_34 : Cond.fieldLink RX10 34 "StrawButts$Tape" "kind" "I" ∈ kGW := kin1 (i := 43) rfl rfl
theorem q_f_X3_41 : Cond.fieldLink RX3 41 "StrawButts$Tape" "kind" "I" ∈ kGW := kin1 (i := 44) rfl rfl
theorem q_f_X8_86 : Cond.fieldLink RX8 86 "StrawButts$Tape" "kind" "I" ∈ kGW := kin1 (i := 45) rfl rfl
theorem q_f_X10_37 : Cond.fieldLink RX10 37 "StrawButts$Tape" "value" "I" ∈ kGW := kin1 (i := 46) rfl rfl
theorem q_f_X3_44 : Cond.fieldLink RX3 44 "StrawButts$Tape" "value" "I" ∈ kGW := kin1 (i := 47) rfl rfl
theorem q_f_X8_89 : Cond.fieldLink RX8 89 "StrawButts$Tape" "value" "I" ∈ kGW := kin1 (i := 48) rfl rfl
theorem q_f_X10_40 : Cond.fieldLink RX10 40 "StrawButts$Tape" "place" "I" ∈ kGW := kin1 (i := 49) rfl rfl
theorem q_f_X3_51 : Cond.fieldLink RX3 51 "StrawButts$Tape" "place" "I" ∈ kGW := kin1 (i := 50) rfl rfl
theorem q_f_X8_53 : Cond.fieldLink RX8 53 "StrawButts$Tape" "place" "I" ∈ kGW := kin1 (i := 51) rfl rfl
theorem q_f_X10_43 : Cond.fieldLink RX10 43 "StrawButts$Tape" "fault" "I" ∈ kGW := kin1 (i := 52) rfl rfl
theorem q_f_X3_34 : Cond.fieldLink RX3 34 "StrawButts$Tape" "fault" "I" ∈ kGW := kin1 (i := 53) rfl rfl
theorem q_f_X8_35 : Cond.fieldLink RX8 35 "StrawButts$Tape" "fault" "I" ∈ kGW := kin1 (i := 54) rfl rfl
theorem q_a_int : Cond.arrayClass .int ∈ kGW := kin1 (i := 78) rfl rfl
theorem q_k_X11_16 : Cond.classLink RX11 16 RX3 ∈ kGW := kin1 (i := 79) rfl rfl
theorem q_n_X3 : Cond.instantiable RX3 1 ∈ kGW := kin1 (i := 80) rfl rfl
theorem q_i_X3_init : Cond.instanceMethod yX3_init ∈ kGW := kin1 (i := 82) rfl rfl
theorem q_c_X3_init : Cond.code yX3_init cX3_init 1 none ∈ kGW := kin1 (i := 83) rfl rfl
theorem q_m_X3_3 : Cond.methodLink RX3 3 objectInit ∈ kGW := kin1 (i := 84) rfl rfl
theorem q_k_X3_9 : Cond.classLink RX3 9 RX1 ∈ kGW := kin1 (i := 85) rfl rfl
theorem q_n_X1 : Cond.instantiable RX1 1 ∈ kGW := kin1 (i := 86) rfl rfl
theorem q_i_X1_init : Cond.instanceMethod yX1_init ∈ kGW := kin1 (i := 88) rfl rfl
theorem q_c_X1_init : Cond.code yX1_init cX1_init 1 none ∈ kGW := kin1 (i := 89) rfl rfl
theorem q_m_X1_5 : Cond.methodLink RX1 5 objectInit ∈ kGW := kin1 (i := 90) rfl rfl
theorem q_f_X1_11 : Cond.fieldLink RX1 11 "StrawButts$Field" "cells" "[I" ∈ kGW := kin1 (i := 91) rfl rfl
theorem q_f_X0_23 : Cond.fieldLink RX0 23 "StrawButts$Field" "cells" "[I" ∈ kGW := kin1 (i := 92) rfl rfl
theorem q_f_X2_34 : Cond.fieldLink RX2 34 "StrawButts$Field" "cells" "[I" ∈ kGW := kin1 (i := 93) rfl rfl
theorem q_f_X9_38 : Cond.fieldLink RX9 38 "StrawButts$Field" "cells" "[I" ∈ kGW := kin1 (i := 94) rfl rfl
theorem q_f_X6_56 : Cond.fieldLink RX6 56 "StrawButts$Field" "cells" "[I" ∈ kGW := kin1 (i := 95) rfl rfl
theorem q_f_X11_124 : Cond.fieldLink RX11 124 "StrawButts$Field" "cells" "[I" ∈ kGW := kin1 (i := 96) rfl rfl
theorem q_f_X3_69 : Cond.fieldLink RX3 69 "StrawButts$Field" "cells" "[I" ∈ kGW := kin1 (i := 97) rfl rfl
theorem q_f_X3_12 : Cond.fieldLink RX3 12 "StrawButts$GreenReader" "draft" "LStrawButts$Field;" ∈ kGW := kin1 (i := 101) rfl rfl
theorem q_f_X11_102 : Cond.fieldLink RX11 102 "StrawButts$GreenReader" "draft" "LStrawButts$Field;" ∈ kGW := kin1 (i := 102) rfl rfl
theorem q_k_X11_23 : Cond.classLink RX11 23 RX8 ∈ kGW := kin1 (i := 106) rfl rfl
theorem q_n_X8 : Cond.instantiable RX8 3 ∈ kGW := kin1 (i := 107) rfl rfl
theorem q_i_X8_init : Cond.instanceMethod yX8_init ∈ kGW := kin1 (i := 109) rfl rfl
theorem q_c_X8_init : Cond.code yX8_init cX8_init 1 none ∈ kGW := kin1 (i := 110) rfl rfl
theorem q_m_X8_7 : Cond.methodLink RX8 7 objectInit ∈ kGW := kin1 (i := 111) rfl rfl
theorem q_f_X8_13 : Cond.fieldLink RX8 13 "StrawButts$RuleReader" "steps" "[I" ∈ kGW := kin1 (i := 112) rfl rfl
theorem q_f_X8_17 : Cond.fieldLink RX8 17 "StrawButts$RuleReader" "size" "I" ∈ kGW := kin1 (i := 113) rfl rfl
theorem q_f_X8_21 : Cond.fieldLink RX8 21 "StrawButts$RuleReader" "parts" "I" ∈ kGW := kin1 (i := 114) rfl rfl
theorem q_k_X11_30 : Cond.classLink RX11 30 RX7 ∈ kGW := kin1 (i := 122) rfl rfl
theorem q_k_X11_40 : Cond.classLink RX11 40 RX4 ∈ kGW := kin1 (i := 124) rfl rfl
theorem q_n_X4 : Cond.instantiable RX4 6 ∈ kGW := kin1 (i := 125) rfl rfl
theorem q_i_X4_init : Cond.instanceMethod yX4_init ∈ kGW := kin1 (i := 127) rfl rfl
theorem q_c_X4_init : Cond.code yX4_init cX4_init 1 none ∈ kGW := kin1 (i := 128) rfl rfl
theorem q_m_X4_3 : Cond.methodLink RX4 3 objectInit ∈ kGW := kin1 (i := 129) rfl rfl
theorem q_k_X4_9 : Cond.classLink RX4 9 RX1 ∈ kGW := kin1 (i := 130) rfl rfl
theorem q_k_X4_21 : Cond.classLink RX4 21 RX5 ∈ kGW := kin1 (i := 132) rfl rfl
theorem q_n_X5 : Cond.instantiable RX5 4 ∈ kGW := kin1 (i := 133) rfl rfl
theorem q_i_X5_init : Cond.instanceMethod yX5_init ∈ kGW := kin1 (i := 135) rfl rfl
theorem q_c_X5_init : Cond.code yX5_init cX5_init 1 none ∈ kGW := kin1 (i := 136) rfl rfl
theorem q_m_X5_3 : Cond.methodLink RX5 3 objectInit ∈ kGW := kin1 (i := 137) rfl rfl
theorem q_f_X5_11 : Cond.fieldLink RX5 11 "StrawButts$Notes" "rounds" "[I" ∈ kGW := kin1 (i := 138) rfl rfl
theorem q_f_X5_15 : Cond.fieldLink RX5 15 "StrawButts$Notes" "archers" "[I" ∈ kGW := kin1 (i := 139) rfl rfl
theorem q_f_X5_18 : Cond.fieldLink RX5 18 "StrawButts$Notes" "places" "[I" ∈ kGW := kin1 (i := 140) rfl rfl
theorem q_f_X5_21 : Cond.fieldLink RX5 21 "StrawButts$Notes" "size" "I" ∈ kGW := kin1 (i := 141) rfl rfl
theorem q_f_X11_118 : Cond.fieldLink RX11 118 "StrawButts$Notes" "size" "I" ∈ kGW := kin1 (i := 142) rfl rfl
theorem q_f_X4_12 : Cond.fieldLink RX4 12 "StrawButts$Moment" "field" "LStrawButts$Field;" ∈ kGW := kin1 (i := 152) rfl rfl
theorem q_f_X11_111 : Cond.fieldLink RX11 111 "StrawButts$Moment" "field" "LStrawButts$Field;" ∈ kGW := kin1 (i := 153) rfl rfl
theorem q_f_X4_18 : Cond.fieldLink RX4 18 "StrawButts$Moment" "begin" "LStrawButts$Field;" ∈ kGW := kin1 (i := 154) rfl rfl
theorem q_f_X9_23 : Cond.fieldLink RX9 23 "StrawButts$Moment" "begin" "LStrawButts$Field;" ∈ kGW := kin1 (i := 155) rfl rfl
theorem q_f_X11_98 : Cond.fieldLink RX11 98 "StrawButts$Moment" "begin" "LStrawButts$Field;" ∈ kGW := kin1 (i := 156) rfl rfl
theorem q_f_X4_24 : Cond.fieldLink RX4 24 "StrawButts$Moment" "notes" "LStrawButts$Notes;" ∈ kGW := kin1 (i := 157) rfl rfl
theorem q_f_X9_44 : Cond.fieldLink RX9 44 "StrawButts$Moment" "notes" "LStrawButts$Notes;" ∈ kGW := kin1 (i := 158) rfl rfl
theorem q_f_X11_114 : Cond.fieldLink RX11 114 "StrawButts$Moment" "notes" "LStrawButts$Notes;" ∈ kGW := kin1 (i := 159) rfl rfl
theorem q_f_X4_28 : Cond.fieldLink RX4 28 "StrawButts$Moment" "inForce" "I" ∈ kGW := kin1 (i := 160) rfl rfl
theorem q_f_X11_133 : Cond.fieldLink RX11 133 "StrawButts$Moment" "inForce" "I" ∈ kGW := kin1 (i := 161) rfl rfl
theorem q_f_X4_32 : Cond.fieldLink RX4 32 "StrawButts$Moment" "x" "I" ∈ kGW := kin1 (i := 162) rfl rfl
theorem q_f_X11_149 : Cond.fieldLink RX11 149 "StrawButts$Moment" "x" "I" ∈ kGW := kin1 (i := 163) rfl rfl
theorem q_f_X4_35 : Cond.fieldLink RX4 35 "StrawButts$Moment" "isMade" "Z" ∈ kGW := kin1 (i := 164) rfl rfl
theorem q_f_X11_273 : Cond.fieldLink RX11 273 "StrawButts$Moment" "isMade" "Z" ∈ kGW := kin1 (i := 165) rfl rfl
theorem q_k_X11_51 : Cond.classLink RX11 51 RX0 ∈ kGW := kin1 (i := 180) rfl rfl
theorem q_n_X0 : Cond.instantiable RX0 3 ∈ kGW := kin1 (i := 181) rfl rfl
theorem q_i_X0_init : Cond.instanceMethod yX0_init ∈ kGW := kin1 (i := 183) rfl rfl
theorem q_c_X0_init : Cond.code yX0_init cX0_init 1 none ∈ kGW := kin1 (i := 184) rfl rfl
theorem q_m_X0_1 : Cond.methodLink RX0 1 objectInit ∈ kGW := kin1 (i := 185) rfl rfl
theorem q_k_X0_11 : Cond.classLink RX0 11 "[[I" ∈ kGW := kin1 (i := 186) rfl rfl
theorem q_f_X0_13 : Cond.fieldLink RX0 13 "StrawButts$Acts" "rows" "[[I" ∈ kGW := kin1 (i := 188) rfl rfl
theorem q_f_X0_16 : Cond.fieldLink RX0 16 "StrawButts$Acts" "next" "I" ∈ kGW := kin1 (i := 189) rfl rfl
theorem q_f_X0_20 : Cond.fieldLink RX0 20 "StrawButts$Acts" "size" "I" ∈ kGW := kin1 (i := 190) rfl rfl
theorem q_f_X11_123 : Cond.fieldLink RX11 123 "StrawButts$Acts" "size" "I" ∈ kGW := kin1 (i := 191) rfl rfl
theorem q_k_X11_58 : Cond.classLink RX11 58 RX6 ∈ kGW := kin1 (i := 199) rfl rfl
theorem q_n_X6 : Cond.instantiable RX6 8 ∈ kGW := kin1 (i := 200) rfl rfl
theorem q_i_X6_init : Cond.instanceMethod yX6_init ∈ kGW := kin1 (i := 202) rfl rfl
theorem q_c_X6_init : Cond.code yX6_init cX6_init 1 none ∈ kGW := kin1 (i := 203) rfl rfl
theorem q_m_X6_3 : Cond.methodLink RX6 3 objectInit ∈ kGW := kin1 (i := 204) rfl rfl
theorem q_k_X6_9 : Cond.classLink RX6 9 RX1 ∈ kGW := kin1 (i := 205) rfl rfl
theorem q_f_X6_12 : Cond.fieldLink RX6 12 "StrawButts$Play" "field" "LStrawButts$Field;" ∈ kGW := kin1 (i := 207) rfl rfl
theorem q_f_X2_28 : Cond.fieldLink RX2 28 "StrawButts$Play" "field" "LStrawButts$Field;" ∈ kGW := kin1 (i := 208) rfl rfl
theorem q_f_X9_35 : Cond.fieldLink RX9 35 "StrawButts$Play" "field" "LStrawButts$Field;" ∈ kGW := kin1 (i := 209) rfl rfl
theorem q_f_X11_170 : Cond.fieldLink RX11 170 "StrawButts$Play" "field" "LStrawButts$Field;" ∈ kGW := kin1 (i := 210) rfl rfl
theorem q_f_X6_18 : Cond.fieldLink RX6 18 "StrawButts$Play" "came" "[I" ∈ kGW := kin1 (i := 211) rfl rfl
theorem q_f_X9_75 : Cond.fieldLink RX9 75 "StrawButts$Play" "came" "[I" ∈ kGW := kin1 (i := 212) rfl rfl
theorem q_f_X6_22 : Cond.fieldLink RX6 22 "StrawButts$Play" "bound" "[I" ∈ kGW := kin1 (i := 213) rfl rfl
theorem q_f_X2_83 : Cond.fieldLink RX2 83 "StrawButts$Play" "bound" "[I" ∈ kGW := kin1 (i := 214) rfl rfl
theorem q_f_X6_25 : Cond.fieldLink RX6 25 "StrawButts$Play" "gust" "I" ∈ kGW := kin1 (i := 215) rfl rfl
theorem q_f_X2_97 : Cond.fieldLink RX2 97 "StrawButts$Play" "gust" "I" ∈ kGW := kin1 (i := 216) rfl rfl
theorem q_f_X6_29 : Cond.fieldLink RX6 29 "StrawButts$Play" "isStill" "Z" ∈ kGW := kin1 (i := 217) rfl rfl
theorem q_f_X2_47 : Cond.fieldLink RX2 47 "StrawButts$Play" "isStill" "Z" ∈ kGW := kin1 (i := 218) rfl rfl
theorem q_f_X9_68 : Cond.fieldLink RX9 68 "StrawButts$Play" "isStill" "Z" ∈ kGW := kin1 (i := 219) rfl rfl
theorem q_f_X6_33 : Cond.fieldLink RX6 33 "StrawButts$Play" "rule" "LStrawButts$Rule;" ∈ kGW := kin1 (i := 220) rfl rfl
theorem q_f_X6_39 : Cond.fieldLink RX6 39 "StrawButts$Play" "words" "[J" ∈ kGW := kin1 (i := 221) rfl rfl
theorem q_f_X6_43 : Cond.fieldLink RX6 43 "StrawButts$Play" "stack" "[J" ∈ kGW := kin1 (i := 222) rfl rfl
theorem q_a_long : Cond.arrayClass .long ∈ kGW := kin2 (i := 0) rfl rfl
theorem q_k_X11_65 : Cond.classLink RX11 65 RX2 ∈ kGW := kin2 (i := 1) rfl rfl
theorem q_n_X2 : Cond.instantiable RX2 5 ∈ kGW := kin2 (i := 2) rfl rfl
theorem q_i_X2_init : Cond.instanceMethod yX2_init ∈ kGW := kin2 (i := 4) rfl rfl
theorem q_c_X2_init : Cond.code yX2_init cX2_init 1 none ∈ kGW := kin2 (i := 5) rfl rfl
theorem q_m_X2_3 : Cond.methodLink RX2 3 objectInit ∈ kGW := kin2 (i := 6) rfl rfl
theorem q_f_X2_9 : Cond.fieldLink RX2 9 "StrawButts$Forecast" "which" "I" ∈ kGW := kin2 (i := 7) rfl rfl
theorem q_f_X11_211 : Cond.fieldLink RX11 211 "StrawButts$Forecast" "which" "I" ∈ kGW := kin2 (i := 8) rfl rfl
theorem q_f_X2_15 : Cond.fieldLink RX2 15 "StrawButts$Forecast" "much" "I" ∈ kGW := kin2 (i := 9) rfl rfl
theorem q_f_X11_214 : Cond.fieldLink RX11 214 "StrawButts$Forecast" "much" "I" ∈ kGW := kin2 (i := 10) rfl rfl
theorem q_f_X2_18 : Cond.fieldLink RX2 18 "StrawButts$Forecast" "drawnFrom" "I" ∈ kGW := kin2 (i := 11) rfl rfl
theorem q_f_X11_259 : Cond.fieldLink RX11 259 "StrawButts$Forecast" "drawnFrom" "I" ∈ kGW := kin2 (i := 12) rfl rfl
theorem q_f_X2_21 : Cond.fieldLink RX2 21 "StrawButts$Forecast" "oneHas" "[I" ∈ kGW := kin2 (i := 13) rfl rfl
theorem q_f_X2_25 : Cond.fieldLink RX2 25 "StrawButts$Forecast" "otherHas" "[I" ∈ kGW := kin2 (i := 14) rfl rfl
theorem q_k_X11_72 : Cond.classLink RX11 72 RX9 ∈ kGW := kin2 (i := 26) rfl rfl
theorem q_n_X9 : Cond.instantiable RX9 3 ∈ kGW := kin2 (i := 27) rfl rfl
theorem q_i_X9_init : Cond.instanceMethod yX9_init ∈ kGW := kin2 (i := 29) rfl rfl
theorem q_c_X9_init : Cond.code yX9_init cX9_init 1 none ∈ kGW := kin2 (i := 30) rfl rfl
theorem q_m_X9_3 : Cond.methodLink RX9 3 objectInit ∈ kGW := kin2 (i := 31) rfl rfl
theorem q_k_X9_18 : Cond.classLink RX9 18 "[[I" ∈ kGW := kin2 (i := 32) rfl rfl
theorem q_f_X9_9 : Cond.fieldLink RX9 9 "StrawButts$Study" "fitting" "I" ∈ kGW := kin2 (i := 33) rfl rfl
theorem q_f_X11_247 : Cond.fieldLink RX11 247 "StrawButts$Study" "fitting" "I" ∈ kGW := kin2 (i := 34) rfl rfl
theorem q_f_X9_15 : Cond.fieldLink RX9 15 "StrawButts$Study" "firstFitting" "I" ∈ kGW := kin2 (i := 35) rfl rfl
theorem q_f_X11_250 : Cond.fieldLink RX11 250 "StrawButts$Study" "firstFitting" "I" ∈ kGW := kin2 (i := 36) rfl rfl
theorem q_f_X9_20 : Cond.fieldLink RX9 20 "StrawButts$Study" "came" "[[I" ∈ kGW := kin2 (i := 37) rfl rfl
theorem q_f_X11_10 : Cond.fieldLink RX11 10 "StrawButts" "tape" "LStrawButts$Tape;" ∈ kGW := kin2 (i := 45) rfl rfl
theorem q_f_X11_19 : Cond.fieldLink RX11 19 "StrawButts" "greenReader" "LStrawButts$GreenReader;" ∈ kGW := kin2 (i := 46) rfl rfl
theorem q_f_X11_26 : Cond.fieldLink RX11 26 "StrawButts" "ruleReader" "LStrawButts$RuleReader;" ∈ kGW := kin2 (i := 47) rfl rfl
theorem q_f_X11_32 : Cond.fieldLink RX11 32 "StrawButts" "rules" "[LStrawButts$Rule;" ∈ kGW := kin2 (i := 48) rfl rfl
theorem q_f_X11_36 : Cond.fieldLink RX11 36 "StrawButts" "ruleCount" "I" ∈ kGW := kin2 (i := 49) rfl rfl
theorem q_f_X11_43 : Cond.fieldLink RX11 43 "StrawButts" "now" "LStrawButts$Moment;" ∈ kGW := kin2 (i := 50) rfl rfl
theorem q_f_X11_47 : Cond.fieldLink RX11 47 "StrawButts" "images" "[LStrawButts$Moment;" ∈ kGW := kin2 (i := 51) rfl rfl
theorem q_f_X11_54 : Cond.fieldLink RX11 54 "StrawButts" "acts" "LStrawButts$Acts;" ∈ kGW := kin2 (i := 52) rfl rfl
theorem q_f_X11_61 : Cond.fieldLink RX11 61 "StrawButts" "play" "LStrawButts$Play;" ∈ kGW := kin2 (i := 53) rfl rfl
theorem q_f_X11_68 : Cond.fieldLink RX11 68 "StrawButts" "forecast" "LStrawButts$Forecast;" ∈ kGW := kin2 (i := 54) rfl rfl
theorem q_f_X11_75 : Cond.fieldLink RX11 75 "StrawButts" "study" "LStrawButts$Study;" ∈ kGW := kin2 (i := 55) rfl rfl
theorem q_m_L_13 : Cond.methodLink RL 13 yX11_feed ∈ kGW := kin2 (i := 79) rfl rfl
theorem q_i_X11_feed : Cond.instanceMethod yX11_feed ∈ kGW := kin2 (i := 80) rfl rfl
theorem q_s_X11_feed : Cond.selects RX11 yX11_feed yX11_feed ∈ kGW := kin2 (i := 81) rfl rfl
theorem q_c_X11_feed : Cond.code yX11_feed cX11_feed 6 (some .int) ∈ kGW := kin2 (i := 82) rfl rfl
theorem q_m_X11_79 : Cond.methodLink RX11 79 yX10_hasRoom ∈ kGW := kin2 (i := 83) rfl rfl
theorem q_i_X10_hasRoom : Cond.instanceMethod yX10_hasRoom ∈ kGW := kin2 (i := 84) rfl rfl
theorem q_s_X10_hasRoom : Cond.selects RX10 yX10_hasRoom yX10_hasRoom ∈ kGW := kin2 (i := 85) rfl rfl
theorem q_c_X10_hasRoom : Cond.code yX10_hasRoom cX10_hasRoom 2 (some .boolean) ∈ kGW := kin2 (i := 86) rfl rfl
theorem q_m_X11_83 : Cond.methodLink RX11 83 yX10_addBytes ∈ kGW := kin2 (i := 87) rfl rfl
theorem q_i_X10_addBytes : Cond.instanceMethod yX10_addBytes ∈ kGW := kin2 (i := 88) rfl rfl
theorem q_s_X10_addBytes : Cond.selects RX10 yX10_addBytes yX10_addBytes ∈ kGW := kin2 (i := 89) rfl rfl
theorem q_c_X10_addBytes : Cond.code yX10_addBytes cX10_addBytes 3 none ∈ kGW := kin2 (i := 90) rfl rfl
theorem q_m_L_18 : Cond.methodLink RL 18 yX11_end ∈ kGW := kin2 (i := 91) rfl rfl
theorem q_i_X11_end : Cond.instanceMethod yX11_end ∈ kGW := kin2 (i := 92) rfl rfl
theorem q_s_X11_end : Cond.selects RX11 yX11_end yX11_end ∈ kGW := kin2 (i := 93) rfl rfl
theorem q_c_X11_end : Cond.code yX11_end cX11_end 2 (some .int) ∈ kGW := kin2 (i := 94) rfl rfl
theorem q_m_X11_90 : Cond.methodLink RX11 90 yX11_within ∈ kGW := kin2 (i := 95) rfl rfl
theorem q_s_X11_within : Cond.static yX11_within ∈ kGW := kin2 (i := 96) rfl rfl
theorem q_c_X11_within : Cond.code yX11_within cX11_within 3 (some .boolean) ∈ kGW := kin2 (i := 97) rfl rfl
theorem q_m_L_23 : Cond.methodLink RL 23 yX11_green ∈ kGW := kin2 (i := 98) rfl rfl
theorem q_i_X11_green : Cond.instanceMethod yX11_green ∈ kGW := kin2 (i := 99) rfl rfl
theorem q_s_X11_green : Cond.selects RX11 yX11_green yX11_green ∈ kGW := kin2 (i := 100) rfl rfl
theorem q_c_X11_green : Cond.code yX11_green cX11_green 2 (some .int) ∈ kGW := kin2 (i := 101) rfl rfl
theorem q_m_X11_94 : Cond.methodLink RX11 94 yX3_readFrom ∈ kGW := kin2 (i := 102) rfl rfl
theorem q_i_X3_readFrom : Cond.instanceMethod yX3_readFrom ∈ kGW := kin2 (i := 103) rfl rfl
theorem q_s_X3_readFrom : Cond.selects RX3 yX3_readFrom yX3_readFrom ∈ kGW := kin2 (i := 104) rfl rfl
theorem q_c_X3_readFrom : Cond.code yX3_readFrom cX3_readFrom 3 (some .int) ∈ kGW := kin2 (i := 105) rfl rfl
theorem q_m_X3_18 : Cond.methodLink RX3 18 yX10_open ∈ kGW := kin2 (i := 106) rfl rfl
theorem q_i_X10_open : Cond.instanceMethod yX10_open ∈ kGW := kin2 (i := 107) rfl rfl
theorem q_s_X10_open : Cond.selects RX10 yX10_open yX10_open ∈ kGW := kin2 (i := 108) rfl rfl
theorem q_c_X10_open : Cond.code yX10_open cX10_open 3 none ∈ kGW := kin2 (i := 109) rfl rfl
theorem q_m_X10_46 : Cond.methodLink RX10 46 yX10_scanToken ∈ kGW := kin2 (i := 110) rfl rfl
theorem q_i_X10_scanToken : Cond.instanceMethod yX10_scanToken ∈ kGW := kin2 (i := 112) rfl rfl
theorem q_c_X10_scanToken : Cond.code yX10_scanToken cX10_scanToken 4 (some .int) ∈ kGW := kin2 (i := 113) rfl rfl
theorem q_m_X10_65 : Cond.methodLink RX10 65 yX10_isDigit ∈ kGW := kin2 (i := 114) rfl rfl
theorem q_i_X10_isDigit : Cond.instanceMethod yX10_isDigit ∈ kGW := kin2 (i := 116) rfl rfl
theorem q_c_X10_isDigit : Cond.code yX10_isDigit cX10_isDigit 2 (some .boolean) ∈ kGW := kin2 (i := 117) rfl rfl
theorem q_m_X10_68 : Cond.methodLink RX10 68 yX10_scanNumber ∈ kGW := kin2 (i := 118) rfl rfl
theorem q_i_X10_scanNumber : Cond.instanceMethod yX10_scanNumber ∈ kGW := kin2 (i := 120) rfl rfl
theorem q_c_X10_scanNumber : Cond.code yX10_scanNumber cX10_scanNumber 4 (some .int) ∈ kGW := kin2 (i := 121) rfl rfl
theorem q_m_X10_50 : Cond.methodLink RX10 50 yX10_addToken ∈ kGW := kin2 (i := 122) rfl rfl
theorem q_i_X10_addToken : Cond.instanceMethod yX10_addToken ∈ kGW := kin2 (i := 124) rfl rfl
theorem q_c_X10_addToken : Cond.code yX10_addToken cX10_addToken 4 none ∈ kGW := kin2 (i := 125) rfl rfl
theorem q_m_X10_71 : Cond.methodLink RX10 71 yX10_isLetter ∈ kGW := kin2 (i := 126) rfl rfl
theorem q_i_X10_isLetter : Cond.instanceMethod yX10_isLetter ∈ kGW := kin2 (i := 128) rfl rfl
theorem q_c_X10_isLetter : Cond.code yX10_isLetter cX10_isLetter 2 (some .boolean) ∈ kGW := kin2 (i := 129) rfl rfl
theorem q_m_X10_74 : Cond.methodLink RX10 74 yX10_scanWord ∈ kGW := kin2 (i := 130) rfl rfl
theorem q_i_X10_scanWord : Cond.instanceMethod yX10_scanWord ∈ kGW := kin2 (i := 132) rfl rfl
theorem q_c_X10_scanWord : Cond.code yX10_scanWord cX10_scanWord 4 (some .int) ∈ kGW := kin2 (i := 133) rfl rfl
theorem q_m_X10_77 : Cond.methodLink RX10 77 yX10_wordOf ∈ kGW := kin2 (i := 134) rfl rfl
theorem q_i_X10_wordOf : Cond.instanceMethod yX10_wordOf ∈ kGW := kin2 (i := 136) rfl rfl
theorem q_c_X10_wordOf : Cond.code yX10_wordOf cX10_wordOf 6 (some .int) ∈ kGW := kin2 (i := 137) rfl rfl
theorem q_m_X10_83 : Cond.methodLink RX10 83 yJ0_length_8abf5 ∈ kGW := kin2 (i := 139) rfl rfl
theorem q_i_J0_length_8abf5 : Cond.instanceMethod yJ0_length_8abf5 ∈ kGW := kin2 (i := 140) rfl rfl
theorem q_s_J0_length_8abf5 : Cond.selects RJ0 yJ0_length_8abf5 yJ0_length_8abf5 ∈ kGW := kin2 (i := 141) rfl rfl
theorem q_c_J0_length_8abf5 : Cond.code yJ0_length_8abf5 cJ0_length_8abf5 1 (some .int) ∈ kGW := kin2 (i := 142) rfl rfl
theorem q_m_J0_335 : Cond.methodLink RJ0 335 yJ0_coder_7d493 ∈ kGW := kin2 (i := 143) rfl rfl
theorem q_i_J0_coder_7d493 : Cond.instanceMethod yJ0_coder_7d493 ∈ kGW := kin2 (i := 144) rfl rfl
theorem q_s_J0_coder_7d493 : Cond.selects RJ0 yJ0_coder_7d493 yJ0_coder_7d493 ∈ kGW := kin2 (i := 145) rfl rfl
theorem q_c_J0_coder_7d493 : Cond.code yJ0_coder_7d493 cJ0_coder_7d493 1 (some .byte) ∈ kGW := kin2 (i := 146) rfl rfl
theorem q_f_J0_38 : Cond.fieldLink RJ0 38 "java/lang/String" "COMPACT_STRINGS" "Z" ∈ kGW := kin2 (i := 147) rfl rfl
theorem q_m_X10_88 : Cond.methodLink RX10 88 yJ0_charAt_5068e ∈ kGW := kin2 (i := 149) rfl rfl
theorem q_i_J0_charAt_5068e : Cond.instanceMethod yJ0_charAt_5068e ∈ kGW := kin2 (i := 150) rfl rfl
theorem q_s_J0_charAt_5068e : Cond.selects RJ0 yJ0_charAt_5068e yJ0_charAt_5068e ∈ kGW := kin2 (i := 151) rfl rfl
theorem q_c_J0_charAt_5068e : Cond.code yJ0_charAt_5068e cJ0_charAt_5068e 2 (some .char) ∈ kGW := kin2 (i := 152) rfl rfl
theorem q_m_J0_492 : Cond.methodLink RJ0 492 yJ0_isLatin1_aae02 ∈ kGW := kin2 (i := 153) rfl rfl
theorem q_i_J0_isLatin1_aae02 : Cond.instanceMethod yJ0_isLatin1_aae02 ∈ kGW := kin2 (i := 154) rfl rfl
theorem q_s_J0_isLatin1_aae02 : Cond.selects RJ0 yJ0_isLatin1_aae02 yJ0_isLatin1_aae02 ∈ kGW := kin2 (i := 155) rfl rfl
theorem q_c_J0_isLatin1_aae02 : Cond.code yJ0_isLatin1_aae02 cJ0_isLatin1_aae02 1 (some .boolean) ∈ kGW := kin2 (i := 156) rfl rfl
theorem q_m_J0_495 : Cond.methodLink RJ0 495 yJ1_charAt_3b067 ∈ kGW := kin2 (i := 157) rfl rfl
theorem q_s_J1_charAt_3b067 : Cond.static yJ1_charAt_3b067 ∈ kGW := kin2 (i := 158) rfl rfl
theorem q_c_J1_charAt_3b067 : Cond.code yJ1_charAt_3b067 cJ1_charAt_3b067 2 (some .char) ∈ kGW := kin2 (i := 159) rfl rfl
theorem q_m_J1_9 : Cond.methodLink RJ1 9 yJ0_checkIndex_df160 ∈ kGW := kin2 (i := 160) rfl rfl
theorem q_s_J0_checkIndex_df160 : Cond.static yJ0_checkIndex_df160 ∈ kGW := kin2 (i := 161) rfl rfl
theorem q_c_J0_checkIndex_df160 : Cond.code yJ0_checkIndex_df160 cJ0_checkIndex_df160 2 none ∈ kGW := kin2 (i := 162) rfl rfl
theorem q_f_J0_1053 : Cond.fieldLink RJ0 1053 "jdk/internal/util/Preconditions" "SIOOBE_FORMATTER" "Ljava/util/function/BiFunction;" ∈ kGW := kin2 (i := 163) rfl rfl
theorem q_m_J0_1059 : Cond.methodLink RJ0 1059 yJ3_checkIndex_8e157 ∈ kGW := kin2 (i := 165) rfl rfl
theorem q_s_J3_checkIndex_8e157 : Cond.static yJ3_checkIndex_8e157 ∈ kGW := kin2 (i := 166) rfl rfl
theorem q_c_J3_checkIndex_8e157 : Cond.code yJ3_checkIndex_8e157 cJ3_checkIndex_8e157 3 (some .int) ∈ kGW := kin2 (i := 167) rfl rfl
theorem q_m_J0_498 : Cond.methodLink RJ0 498 yJ2_charAt_3b067 ∈ kGW := kin2 (i := 168) rfl rfl
theorem q_s_J2_charAt_3b067 : Cond.static yJ2_charAt_3b067 ∈ kGW := kin2 (i := 169) rfl rfl
theorem q_c_J2_charAt_3b067 : Cond.code yJ2_charAt_3b067 cJ2_charAt_3b067 2 (some .char) ∈ kGW := kin2 (i := 170) rfl rfl
theorem q_m_J2_67 : Cond.methodLink RJ2 67 yJ2_checkIndex_2214a ∈ kGW := kin2 (i := 171) rfl rfl
theorem q_s_J2_checkIndex_2214a : Cond.static yJ2_checkIndex_2214a ∈ kGW := kin2 (i := 172) rfl rfl
theorem q_c_J2_checkIndex_2214a : Cond.code yJ2_checkIndex_2214a cJ2_checkIndex_2214a 2 none ∈ kGW := kin2 (i := 173) rfl rfl
theorem q_m_J2_48 : Cond.methodLink RJ2 48 yJ2_length_9d52b ∈ kGW := kin2 (i := 174) rfl rfl
theorem q_s_J2_length_9d52b : Cond.static yJ2_length_9d52b ∈ kGW := kin2 (i := 175) rfl rfl
theorem q_c_J2_length_9d52b : Cond.code yJ2_length_9d52b cJ2_length_9d52b 1 (some .int) ∈ kGW := kin2 (i := 176) rfl rfl
theorem q_m_J2_414 : Cond.methodLink RJ2 414 yJ0_checkIndex_df160 ∈ kGW := kin2 (i := 177) rfl rfl
theorem q_m_J2_71 : Cond.methodLink RJ2 71 yJ2_getChar_3b067 ∈ kGW := kin2 (i := 178) rfl rfl
theorem q_s_J2_getChar_3b067 : Cond.static yJ2_getChar_3b067 ∈ kGW := kin2 (i := 179) rfl rfl
theorem q_c_J2_getChar_3b067 : Cond.code yJ2_getChar_3b067 cJ2_getChar_3b067 2 (some .char) ∈ kGW := kin2 (i := 180) rfl rfl
theorem q_f_J2_44 : Cond.fieldLink RJ2 44 "java/lang/StringUTF16" "$assertionsDisabled" "Z" ∈ kGW := kin2 (i := 181) rfl rfl
theorem q_f_J2_59 : Cond.fieldLink RJ2 59 "java/lang/StringUTF16" "HI_BYTE_SHIFT" "I" ∈ kGW := kin2 (i := 183) rfl rfl
theorem q_f_J2_63 : Cond.fieldLink RJ2 63 "java/lang/StringUTF16" "LO_BYTE_SHIFT" "I" ∈ kGW := kin2 (i := 185) rfl rfl
theorem q_m_X10_92 : Cond.methodLink RX10 92 yX10_isNamed ∈ kGW := kin2 (i := 187) rfl rfl
theorem q_i_X10_isNamed : Cond.instanceMethod yX10_isNamed ∈ kGW := kin2 (i := 189) rfl rfl
theorem q_c_X10_isNamed : Cond.code yX10_isNamed cX10_isNamed 5 (some .boolean) ∈ kGW := kin2 (i := 190) rfl rfl
theorem q_m_X10_54 : Cond.methodLink RX10 54 yX10_advance ∈ kGW := kin2 (i := 191) rfl rfl
theorem q_i_X10_advance : Cond.instanceMethod yX10_advance ∈ kGW := kin2 (i := 192) rfl rfl
theorem q_s_X10_advance : Cond.selects RX10 yX10_advance yX10_advance ∈ kGW := kin2 (i := 193) rfl rfl
theorem q_c_X10_advance : Cond.code yX10_advance cX10_advance 1 none ∈ kGW := kin2 (i := 194) rfl rfl
theorem q_m_X3_23 : Cond.methodLink RX3 23 yX1_clear ∈ kGW := kin2 (i := 195) rfl rfl
theorem q_i_X1_clear : Cond.instanceMethod yX1_clear ∈ kGW := kin2 (i := 196) rfl rfl
theorem q_s_X1_clear : Cond.selects RX1 yX1_clear yX1_clear ∈ kGW := kin2 (i := 197) rfl rfl
theorem q_c_X1_clear : Cond.code yX1_clear cX1_clear 1 none ∈ kGW := kin2 (i := 198) rfl rfl
theorem q_m_X1_21 : Cond.methodLink RX1 21 yJ7_fill_53178 ∈ kGW := kin2 (i := 199) rfl rfl
theorem q_s_J7_fill_53178 : Cond.static yJ7_fill_53178 ∈ kGW := kin2 (i := 200) rfl rfl
theorem q_c_J7_fill_53178 : Cond.code yJ7_fill_53178 cJ7_fill_53178 4 none ∈ kGW := kin2 (i := 201) rfl rfl
theorem q_m_X3_26 : Cond.methodLink RX3 26 yX3_readClause ∈ kGW := kin2 (i := 202) rfl rfl
theorem q_i_X3_readClause : Cond.instanceMethod yX3_readClause ∈ kGW := kin2 (i := 204) rfl rfl
theorem q_c_X3_readClause : Cond.code yX3_readClause cX3_readClause 4 none ∈ kGW := kin2 (i := 205) rfl rfl
theorem q_m_X3_47 : Cond.methodLink RX3 47 yX3_opensClause ∈ kGW := kin2 (i := 206) rfl rfl
theorem q_s_X3_opensClause : Cond.static yX3_opensClause ∈ kGW := kin2 (i := 207) rfl rfl
theorem q_c_X3_opensClause : Cond.code yX3_opensClause cX3_opensClause 1 (some .boolean) ∈ kGW := kin2 (i := 208) rfl rfl
theorem q_m_X3_54 : Cond.methodLink RX3 54 yX10_failAt ∈ kGW := kin2 (i := 209) rfl rfl
theorem q_i_X10_failAt : Cond.instanceMethod yX10_failAt ∈ kGW := kin2 (i := 210) rfl rfl
theorem q_s_X10_failAt : Cond.selects RX10 yX10_failAt yX10_failAt ∈ kGW := kin2 (i := 211) rfl rfl
theorem q_c_X10_failAt : Cond.code yX10_failAt cX10_failAt 3 none ∈ kGW := kin2 (i := 212) rfl rfl
theorem q_m_X3_58 : Cond.methodLink RX3 58 yX3_isFullOf ∈ kGW := kin2 (i := 213) rfl rfl
theorem q_i_X3_isFullOf : Cond.instanceMethod yX3_isFullOf ∈ kGW := kin2 (i := 215) rfl rfl
theorem q_c_X3_isFullOf : Cond.code yX3_isFullOf cX3_isFullOf 2 (some .boolean) ∈ kGW := kin2 (i := 216) rfl rfl
theorem q_m_X3_61 : Cond.methodLink RX3 61 yX10_advance ∈ kGW := kin2 (i := 217) rfl rfl
theorem q_m_X3_64 : Cond.methodLink RX3 64 yX3_readNumbers ∈ kGW := kin2 (i := 218) rfl rfl
theorem q_i_X3_readNumbers : Cond.instanceMethod yX3_readNumbers ∈ kGW := kin2 (i := 220) rfl rfl
theorem q_c_X3_readNumbers : Cond.code yX3_readNumbers cX3_readNumbers 5 none ∈ kGW := kin2 (i := 221) rfl rfl
theorem q_m_X3_73 : Cond.methodLink RX3 73 yX3_readNumber ∈ kGW := kin2 (i := 222) rfl rfl
theorem q_i_X3_readNumber : Cond.instanceMethod yX3_readNumber ∈ kGW := kin2 (i := 224) rfl rfl
theorem q_c_X3_readNumber : Cond.code yX3_readNumber cX3_readNumber 5 (some .int) ∈ kGW := kin2 (i := 225) rfl rfl
theorem q_m_X3_77 : Cond.methodLink RX3 77 yX3_readFreePlace ∈ kGW := kin2 (i := 227) rfl rfl
theorem q_i_X3_readFreePlace : Cond.instanceMethod yX3_readFreePlace ∈ kGW := kin2 (i := 229) rfl rfl
theorem q_c_X3_readFreePlace : Cond.code yX3_readFreePlace cX3_readFreePlace 4 (some .int) ∈ kGW := kin2 (i := 230) rfl rfl
theorem q_m_X3_81 : Cond.methodLink RX3 81 yX1_ringAt ∈ kGW := kin2 (i := 231) rfl rfl
theorem q_i_X1_ringAt : Cond.instanceMethod yX1_ringAt ∈ kGW := kin2 (i := 232) rfl rfl
theorem q_s_X1_ringAt : Cond.selects RX1 yX1_ringAt yX1_ringAt ∈ kGW := kin2 (i := 233) rfl rfl
theorem q_c_X1_ringAt : Cond.code yX1_ringAt cX1_ringAt 3 (some .int) ∈ kGW := kin2 (i := 234) rfl rfl
theorem q_m_X3_30 : Cond.methodLink RX3 30 yX10_hasNextClause ∈ kGW := kin2 (i := 235) rfl rfl
theorem q_i_X10_hasNextClause : Cond.instanceMethod yX10_hasNextClause ∈ kGW := kin2 (i := 236) rfl rfl
theorem q_s_X10_hasNextClause : Cond.selects RX10 yX10_hasNextClause yX10_hasNextClause ∈ kGW := kin2 (i := 237) rfl rfl
theorem q_c_X10_hasNextClause : Cond.code yX10_hasNextClause cX10_hasNextClause 2 (some .boolean) ∈ kGW := kin2 (i := 238) rfl rfl
theorem q_m_X10_57 : Cond.methodLink RX10 57 yX10_isSign ∈ kGW := kin2 (i := 239) rfl rfl
theorem q_i_X10_isSign : Cond.instanceMethod yX10_isSign ∈ kGW := kin3 (i := 0) rfl rfl
theorem q_s_X10_isSign : Cond.selects RX10 yX10_isSign yX10_isSign ∈ kGW := kin3 (i := 1) rfl rfl
theorem q_c_X10_isSign : Cond.code yX10_isSign cX10_isSign 2 (some .boolean) ∈ kGW := kin3 (i := 2) rfl rfl
theorem q_m_X10_61 : Cond.methodLink RX10 61 yX10_failAt ∈ kGW := kin3 (i := 3) rfl rfl
theorem q_m_X3_38 : Cond.methodLink RX3 38 yX3_complete ∈ kGW := kin3 (i := 4) rfl rfl
theorem q_i_X3_complete : Cond.instanceMethod yX3_complete ∈ kGW := kin3 (i := 6) rfl rfl
theorem q_c_X3_complete : Cond.code yX3_complete cX3_complete 3 none ∈ kGW := kin3 (i := 7) rfl rfl
theorem q_m_X11_105 : Cond.methodLink RX11 105 yX1_copyFrom ∈ kGW := kin3 (i := 8) rfl rfl
theorem q_i_X1_copyFrom : Cond.instanceMethod yX1_copyFrom ∈ kGW := kin3 (i := 9) rfl rfl
theorem q_s_X1_copyFrom : Cond.selects RX1 yX1_copyFrom yX1_copyFrom ∈ kGW := kin3 (i := 10) rfl rfl
theorem q_c_X1_copyFrom : Cond.code yX1_copyFrom cX1_copyFrom 2 none ∈ kGW := kin3 (i := 11) rfl rfl
theorem q_m_X1_15 : Cond.methodLink RX1 15 arraycopyName ∈ kGW := kin3 (i := 12) rfl rfl
theorem q_s_arraycopyName : Cond.static arraycopyName ∈ kGW := kin3 (i := 13) rfl rfl
theorem q_n_arraycopyName : Cond.native arraycopyName ∈ kGW := kin3 (i := 14) rfl rfl
theorem q_a_byte : Cond.arrayClass .byte ∈ kGW := kin3 (i := 15) rfl rfl
theorem q_m_L_28 : Cond.methodLink RL 28 yX11_rule ∈ kGW := kin3 (i := 16) rfl rfl
theorem q_i_X11_rule : Cond.instanceMethod yX11_rule ∈ kGW := kin3 (i := 17) rfl rfl
theorem q_s_X11_rule : Cond.selects RX11 yX11_rule yX11_rule ∈ kGW := kin3 (i := 18) rfl rfl
theorem q_c_X11_rule : Cond.code yX11_rule cX11_rule 2 (some .int) ∈ kGW := kin3 (i := 19) rfl rfl
theorem q_m_X11_128 : Cond.methodLink RX11 128 yX8_readFrom ∈ kGW := kin3 (i := 20) rfl rfl
theorem q_i_X8_readFrom : Cond.instanceMethod yX8_readFrom ∈ kGW := kin3 (i := 21) rfl rfl
theorem q_s_X8_readFrom : Cond.selects RX8 yX8_readFrom yX8_readFrom ∈ kGW := kin3 (i := 22) rfl rfl
theorem q_c_X8_readFrom : Cond.code yX8_readFrom cX8_readFrom 3 (some .int) ∈ kGW := kin3 (i := 23) rfl rfl
theorem q_m_X8_24 : Cond.methodLink RX8 24 yX10_open ∈ kGW := kin3 (i := 24) rfl rfl
theorem q_m_X8_27 : Cond.methodLink RX8 27 yX8_readClause ∈ kGW := kin3 (i := 25) rfl rfl
theorem q_i_X8_readClause : Cond.instanceMethod yX8_readClause ∈ kGW := kin3 (i := 27) rfl rfl
theorem q_c_X8_readClause : Cond.code yX8_readClause cX8_readClause 3 none ∈ kGW := kin3 (i := 28) rfl rfl
theorem q_m_X8_49 : Cond.methodLink RX8 49 yX10_isWord ∈ kGW := kin3 (i := 29) rfl rfl
theorem q_i_X10_isWord : Cond.instanceMethod yX10_isWord ∈ kGW := kin3 (i := 30) rfl rfl
theorem q_s_X10_isWord : Cond.selects RX10 yX10_isWord yX10_isWord ∈ kGW := kin3 (i := 31) rfl rfl
theorem q_c_X10_isWord : Cond.code yX10_isWord cX10_isWord 2 (some .boolean) ∈ kGW := kin3 (i := 32) rfl rfl
theorem q_m_X8_56 : Cond.methodLink RX8 56 yX10_failAt ∈ kGW := kin3 (i := 33) rfl rfl
theorem q_m_X8_60 : Cond.methodLink RX8 60 yX10_advance ∈ kGW := kin3 (i := 34) rfl rfl
theorem q_m_X8_63 : Cond.methodLink RX8 63 yX8_readSum ∈ kGW := kin3 (i := 35) rfl rfl
theorem q_i_X8_readSum : Cond.instanceMethod yX8_readSum ∈ kGW := kin3 (i := 37) rfl rfl
theorem q_c_X8_readSum : Cond.code yX8_readSum cX8_readSum 5 none ∈ kGW := kin3 (i := 38) rfl rfl
theorem q_m_X8_92 : Cond.methodLink RX8 92 yX8_readValue ∈ kGW := kin3 (i := 39) rfl rfl
theorem q_i_X8_readValue : Cond.instanceMethod yX8_readValue ∈ kGW := kin3 (i := 41) rfl rfl
theorem q_c_X8_readValue : Cond.code yX8_readValue cX8_readValue 4 none ∈ kGW := kin3 (i := 42) rfl rfl
theorem q_m_X8_70 : Cond.methodLink RX8 70 yX8_addStep ∈ kGW := kin3 (i := 43) rfl rfl
theorem q_i_X8_addStep : Cond.instanceMethod yX8_addStep ∈ kGW := kin3 (i := 45) rfl rfl
theorem q_c_X8_addStep : Cond.code yX8_addStep cX8_addStep 3 none ∈ kGW := kin3 (i := 46) rfl rfl
theorem q_m_X8_95 : Cond.methodLink RX8 95 yX8_reckoningOf ∈ kGW := kin3 (i := 47) rfl rfl
theorem q_s_X8_reckoningOf : Cond.static yX8_reckoningOf ∈ kGW := kin3 (i := 48) rfl rfl
theorem q_c_X8_reckoningOf : Cond.code yX8_reckoningOf cX8_reckoningOf 1 (some .int) ∈ kGW := kin3 (i := 49) rfl rfl
theorem q_m_X8_67 : Cond.methodLink RX8 67 yX8_readTest ∈ kGW := kin3 (i := 50) rfl rfl
theorem q_i_X8_readTest : Cond.instanceMethod yX8_readTest ∈ kGW := kin3 (i := 52) rfl rfl
theorem q_c_X8_readTest : Cond.code yX8_readTest cX8_readTest 5 none ∈ kGW := kin3 (i := 53) rfl rfl
theorem q_m_X8_73 : Cond.methodLink RX8 73 yX8_readFact ∈ kGW := kin3 (i := 54) rfl rfl
theorem q_i_X8_readFact : Cond.instanceMethod yX8_readFact ∈ kGW := kin3 (i := 56) rfl rfl
theorem q_c_X8_readFact : Cond.code yX8_readFact cX8_readFact 5 none ∈ kGW := kin3 (i := 57) rfl rfl
theorem q_m_X8_76 : Cond.methodLink RX8 76 yX10_isSign ∈ kGW := kin3 (i := 58) rfl rfl
theorem q_m_X8_79 : Cond.methodLink RX8 79 yX8_readComparison ∈ kGW := kin3 (i := 59) rfl rfl
theorem q_i_X8_readComparison : Cond.instanceMethod yX8_readComparison ∈ kGW := kin3 (i := 61) rfl rfl
theorem q_c_X8_readComparison : Cond.code yX8_readComparison cX8_readComparison 3 (some .int) ∈ kGW := kin3 (i := 62) rfl rfl
theorem q_m_X8_83 : Cond.methodLink RX8 83 yX8_comparisonOf ∈ kGW := kin3 (i := 63) rfl rfl
theorem q_s_X8_comparisonOf : Cond.static yX8_comparisonOf ∈ kGW := kin3 (i := 64) rfl rfl
theorem q_c_X8_comparisonOf : Cond.code yX8_comparisonOf cX8_comparisonOf 1 (some .int) ∈ kGW := kin3 (i := 65) rfl rfl
theorem q_m_X8_31 : Cond.methodLink RX8 31 yX10_hasNextClause ∈ kGW := kin3 (i := 66) rfl rfl
theorem q_m_X11_129 : Cond.methodLink RX11 129 yX8_made ∈ kGW := kin3 (i := 67) rfl rfl
theorem q_i_X8_made : Cond.instanceMethod yX8_made ∈ kGW := kin3 (i := 68) rfl rfl
theorem q_s_X8_made : Cond.selects RX8 yX8_made yX8_made ∈ kGW := kin3 (i := 69) rfl rfl
theorem q_c_X8_made : Cond.code yX8_made cX8_made 1 (some (.object "StrawButts$Rule")) ∈ kGW := kin3 (i := 70) rfl rfl
theorem q_k_X8_38 : Cond.classLink RX8 38 RX7 ∈ kGW := kin3 (i := 71) rfl rfl
theorem q_n_X7 : Cond.instantiable RX7 2 ∈ kGW := kin3 (i := 72) rfl rfl
theorem q_m_X8_40 : Cond.methodLink RX8 40 yJ7_copyOf_59c91 ∈ kGW := kin3 (i := 73) rfl rfl
theorem q_s_J7_copyOf_59c91 : Cond.static yJ7_copyOf_59c91 ∈ kGW := kin3 (i := 74) rfl rfl
theorem q_c_J7_copyOf_59c91 : Cond.code yJ7_copyOf_59c91 cJ7_copyOf_59c91 3 (some (.array .int)) ∈ kGW := kin3 (i := 75) rfl rfl
theorem q_k_J7_317 : Cond.classLink RJ7 317 "[I" ∈ kGW := kin3 (i := 82) rfl rfl
theorem q_m_J7_304 : Cond.methodLink RJ7 304 yJ9_min_7cf53 ∈ kGW := kin3 (i := 83) rfl rfl
theorem q_s_J9_min_7cf53 : Cond.static yJ9_min_7cf53 ∈ kGW := kin3 (i := 84) rfl rfl
theorem q_c_J9_min_7cf53 : Cond.code yJ9_min_7cf53 cJ9_min_7cf53 2 (some .int) ∈ kGW := kin3 (i := 85) rfl rfl
theorem q_m_J7_150 : Cond.methodLink RJ7 150 arraycopyName ∈ kGW := kin3 (i := 86) rfl rfl
theorem q_m_X8_46 : Cond.methodLink RX8 46 yX7_init ∈ kGW := kin3 (i := 87) rfl rfl
theorem q_i_X7_init : Cond.instanceMethod yX7_init ∈ kGW := kin3 (i := 88) rfl rfl
theorem q_c_X7_init : Cond.code yX7_init cX7_init 4 none ∈ kGW := kin3 (i := 89) rfl rfl
theorem q_m_X7_1 : Cond.methodLink RX7 1 objectInit ∈ kGW := kin3 (i := 90) rfl rfl
theorem q_f_X7_7 : Cond.fieldLink RX7 7 "StrawButts$Rule" "steps" "[I" ∈ kGW := kin3 (i := 91) rfl rfl
theorem q_f_X7_13 : Cond.fieldLink RX7 13 "StrawButts$Rule" "asksRound" "Z" ∈ kGW := kin3 (i := 92) rfl rfl
theorem q_f_X6_63 : Cond.fieldLink RX6 63 "StrawButts$Rule" "asksRound" "Z" ∈ kGW := kin3 (i := 93) rfl rfl
theorem q_m_L_32 : Cond.methodLink RL 32 yX11_force ∈ kGW := kin3 (i := 99) rfl rfl
theorem q_i_X11_force : Cond.instanceMethod yX11_force ∈ kGW := kin3 (i := 100) rfl rfl
theorem q_s_X11_force : Cond.selects RX11 yX11_force yX11_force ∈ kGW := kin3 (i := 101) rfl rfl
theorem q_c_X11_force : Cond.code yX11_force cX11_force 3 (some .int) ∈ kGW := kin3 (i := 102) rfl rfl
theorem q_m_L_36 : Cond.methodLink RL 36 yX11_ring ∈ kGW := kin3 (i := 103) rfl rfl
theorem q_i_X11_ring : Cond.instanceMethod yX11_ring ∈ kGW := kin3 (i := 104) rfl rfl
theorem q_s_X11_ring : Cond.selects RX11 yX11_ring yX11_ring ∈ kGW := kin3 (i := 105) rfl rfl
theorem q_c_X11_ring : Cond.code yX11_ring cX11_ring 3 (some .int) ∈ kGW := kin3 (i := 106) rfl rfl
theorem q_m_X11_136 : Cond.methodLink RX11 136 yX1_hasRing ∈ kGW := kin3 (i := 107) rfl rfl
theorem q_i_X1_hasRing : Cond.instanceMethod yX1_hasRing ∈ kGW := kin3 (i := 108) rfl rfl
theorem q_s_X1_hasRing : Cond.selects RX1 yX1_hasRing yX1_hasRing ∈ kGW := kin3 (i := 109) rfl rfl
theorem q_c_X1_hasRing : Cond.code yX1_hasRing cX1_hasRing 2 (some .boolean) ∈ kGW := kin3 (i := 110) rfl rfl
theorem q_m_L_41 : Cond.methodLink RL 41 yX11_archer ∈ kGW := kin3 (i := 112) rfl rfl
theorem q_i_X11_archer : Cond.instanceMethod yX11_archer ∈ kGW := kin3 (i := 113) rfl rfl
theorem q_s_X11_archer : Cond.selects RX11 yX11_archer yX11_archer ∈ kGW := kin3 (i := 114) rfl rfl
theorem q_c_X11_archer : Cond.code yX11_archer cX11_archer 3 (some .int) ∈ kGW := kin3 (i := 115) rfl rfl
theorem q_m_X11_139 : Cond.methodLink RX11 139 yX1_hasArcher ∈ kGW := kin3 (i := 116) rfl rfl
theorem q_i_X1_hasArcher : Cond.instanceMethod yX1_hasArcher ∈ kGW := kin3 (i := 117) rfl rfl
theorem q_s_X1_hasArcher : Cond.selects RX1 yX1_hasArcher yX1_hasArcher ∈ kGW := kin3 (i := 118) rfl rfl
theorem q_c_X1_hasArcher : Cond.code yX1_hasArcher cX1_hasArcher 2 (some .boolean) ∈ kGW := kin3 (i := 119) rfl rfl
theorem q_m_L_45 : Cond.methodLink RL 45 yX11_wind ∈ kGW := kin3 (i := 120) rfl rfl
theorem q_i_X11_wind : Cond.instanceMethod yX11_wind ∈ kGW := kin3 (i := 121) rfl rfl
theorem q_s_X11_wind : Cond.selects RX11 yX11_wind yX11_wind ∈ kGW := kin3 (i := 122) rfl rfl
theorem q_c_X11_wind : Cond.code yX11_wind cX11_wind 2 (some .int) ∈ kGW := kin3 (i := 123) rfl rfl
theorem q_m_X11_142 : Cond.methodLink RX11 142 yX1_windOf ∈ kGW := kin3 (i := 124) rfl rfl
theorem q_i_X1_windOf : Cond.instanceMethod yX1_windOf ∈ kGW := kin3 (i := 125) rfl rfl
theorem q_s_X1_windOf : Cond.selects RX1 yX1_windOf yX1_windOf ∈ kGW := kin3 (i := 126) rfl rfl
theorem q_c_X1_windOf : Cond.code yX1_windOf cX1_windOf 3 (some .int) ∈ kGW := kin3 (i := 127) rfl rfl
theorem q_m_L_151 : Cond.methodLink RL 151 yX11_count ∈ kGW := kin3 (i := 128) rfl rfl
theorem q_i_X11_count : Cond.instanceMethod yX11_count ∈ kGW := kin3 (i := 129) rfl rfl
theorem q_s_X11_count : Cond.selects RX11 yX11_count yX11_count ∈ kGW := kin3 (i := 130) rfl rfl
theorem q_c_X11_count : Cond.code yX11_count cX11_count 2 (some .int) ∈ kGW := kin3 (i := 131) rfl rfl
theorem q_m_X11_146 : Cond.methodLink RX11 146 yX1_sumOfArchers ∈ kGW := kin3 (i := 132) rfl rfl
theorem q_i_X1_sumOfArchers : Cond.instanceMethod yX1_sumOfArchers ∈ kGW := kin3 (i := 133) rfl rfl
theorem q_s_X1_sumOfArchers : Cond.selects RX1 yX1_sumOfArchers yX1_sumOfArchers ∈ kGW := kin3 (i := 134) rfl rfl
theorem q_c_X1_sumOfArchers : Cond.code yX1_sumOfArchers cX1_sumOfArchers 4 (some .int) ∈ kGW := kin3 (i := 135) rfl rfl
theorem q_m_L_49 : Cond.methodLink RL 49 yX11_round ∈ kGW := kin3 (i := 136) rfl rfl
theorem q_i_X11_round : Cond.instanceMethod yX11_round ∈ kGW := kin3 (i := 137) rfl rfl
theorem q_s_X11_round : Cond.selects RX11 yX11_round yX11_round ∈ kGW := kin3 (i := 138) rfl rfl
theorem q_c_X11_round : Cond.code yX11_round cX11_round 2 (some .int) ∈ kGW := kin3 (i := 139) rfl rfl
theorem q_m_X11_152 : Cond.methodLink RX11 152 yX1_isTold ∈ kGW := kin3 (i := 140) rfl rfl
theorem q_i_X1_isTold : Cond.instanceMethod yX1_isTold ∈ kGW := kin3 (i := 141) rfl rfl
theorem q_s_X1_isTold : Cond.selects RX1 yX1_isTold yX1_isTold ∈ kGW := kin3 (i := 142) rfl rfl
theorem q_c_X1_isTold : Cond.code yX1_isTold cX1_isTold 1 (some .boolean) ∈ kGW := kin3 (i := 143) rfl rfl
theorem q_m_X11_156 : Cond.methodLink RX11 156 yX0_keep ∈ kGW := kin3 (i := 144) rfl rfl
theorem q_i_X0_keep : Cond.instanceMethod yX0_keep ∈ kGW := kin3 (i := 145) rfl rfl
theorem q_s_X0_keep : Cond.selects RX0 yX0_keep yX0_keep ∈ kGW := kin3 (i := 146) rfl rfl
theorem q_c_X0_keep : Cond.code yX0_keep cX0_keep 2 none ∈ kGW := kin3 (i := 147) rfl rfl
theorem q_m_X0_27 : Cond.methodLink RX0 27 arraycopyName ∈ kGW := kin3 (i := 148) rfl rfl
theorem q_m_X0_33 : Cond.methodLink RX0 33 yJ9_min_7cf53 ∈ kGW := kin3 (i := 149) rfl rfl
theorem q_m_X11_159 : Cond.methodLink RX11 159 yX11_ruleInForce ∈ kGW := kin3 (i := 150) rfl rfl
theorem q_i_X11_ruleInForce : Cond.instanceMethod yX11_ruleInForce ∈ kGW := kin3 (i := 152) rfl rfl
theorem q_c_X11_ruleInForce : Cond.code yX11_ruleInForce cX11_ruleInForce 1 (some (.object "StrawButts$Rule")) ∈ kGW := kin3 (i := 153) rfl rfl
theorem q_m_X11_162 : Cond.methodLink RX11 162 yX6_startFrom ∈ kGW := kin3 (i := 154) rfl rfl
theorem q_i_X6_startFrom : Cond.instanceMethod yX6_startFrom ∈ kGW := kin3 (i := 155) rfl rfl
theorem q_s_X6_startFrom : Cond.selects RX6 yX6_startFrom yX6_startFrom ∈ kGW := kin3 (i := 156) rfl rfl
theorem q_c_X6_startFrom : Cond.code yX6_startFrom cX6_startFrom 3 none ∈ kGW := kin3 (i := 157) rfl rfl
theorem q_m_X6_46 : Cond.methodLink RX6 46 yX1_copyFrom ∈ kGW := kin3 (i := 158) rfl rfl
theorem q_m_X6_50 : Cond.methodLink RX6 50 yJ7_fill_53178 ∈ kGW := kin3 (i := 159) rfl rfl
theorem q_m_X11_166 : Cond.methodLink RX11 166 yX6_playRound ∈ kGW := kin3 (i := 160) rfl rfl
theorem q_i_X6_playRound : Cond.instanceMethod yX6_playRound ∈ kGW := kin3 (i := 161) rfl rfl
theorem q_s_X6_playRound : Cond.selects RX6 yX6_playRound yX6_playRound ∈ kGW := kin3 (i := 162) rfl rfl
theorem q_c_X6_playRound : Cond.code yX6_playRound cX6_playRound 5 (some .int) ∈ kGW := kin3 (i := 163) rfl rfl
theorem q_m_X6_59 : Cond.methodLink RX6 59 yX6_takeTurn ∈ kGW := kin3 (i := 164) rfl rfl
theorem q_i_X6_takeTurn : Cond.instanceMethod yX6_takeTurn ∈ kGW := kin3 (i := 166) rfl rfl
theorem q_c_X6_takeTurn : Cond.code yX6_takeTurn cX6_takeTurn 4 (some .int) ∈ kGW := kin3 (i := 167) rfl rfl
theorem q_m_X6_73 : Cond.methodLink RX6 73 yX1_windOf ∈ kGW := kin3 (i := 168) rfl rfl
theorem q_m_X6_76 : Cond.methodLink RX6 76 yX6_aimOf ∈ kGW := kin3 (i := 169) rfl rfl
theorem q_i_X6_aimOf : Cond.instanceMethod yX6_aimOf ∈ kGW := kin3 (i := 171) rfl rfl
theorem q_c_X6_aimOf : Cond.code yX6_aimOf cX6_aimOf 10 (some .int) ∈ kGW := kin3 (i := 172) rfl rfl
theorem q_m_X6_84 : Cond.methodLink RX6 84 yX1_drift ∈ kGW := kin3 (i := 173) rfl rfl
theorem q_i_X1_drift : Cond.instanceMethod yX1_drift ∈ kGW := kin3 (i := 174) rfl rfl
theorem q_s_X1_drift : Cond.selects RX1 yX1_drift yX1_drift ∈ kGW := kin3 (i := 175) rfl rfl
theorem q_c_X1_drift : Cond.code yX1_drift cX1_drift 4 (some .int) ∈ kGW := kin3 (i := 176) rfl rfl
theorem q_m_X6_87 : Cond.methodLink RX6 87 yX7_worth ∈ kGW := kin3 (i := 177) rfl rfl
theorem q_i_X7_worth : Cond.instanceMethod yX7_worth ∈ kGW := kin3 (i := 178) rfl rfl
theorem q_s_X7_worth : Cond.selects RX7 yX7_worth yX7_worth ∈ kGW := kin3 (i := 179) rfl rfl
theorem q_c_X7_worth : Cond.code yX7_worth cX7_worth 7 (some .long) ∈ kGW := kin3 (i := 180) rfl rfl
theorem q_m_X7_17 : Cond.methodLink RX7 17 yX7_joined ∈ kGW := kin3 (i := 181) rfl rfl
theorem q_s_X7_joined : Cond.static yX7_joined ∈ kGW := kin3 (i := 182) rfl rfl
theorem q_c_X7_joined : Cond.code yX7_joined cX7_joined 5 (some .long) ∈ kGW := kin3 (i := 183) rfl rfl
theorem q_m_X6_80 : Cond.methodLink RX6 80 yX1_loose ∈ kGW := kin3 (i := 184) rfl rfl
theorem q_i_X1_loose : Cond.instanceMethod yX1_loose ∈ kGW := kin3 (i := 185) rfl rfl
theorem q_s_X1_loose : Cond.selects RX1 yX1_loose yX1_loose ∈ kGW := kin3 (i := 186) rfl rfl
theorem q_c_X1_loose : Cond.code yX1_loose cX1_loose 6 (some .int) ∈ kGW := kin3 (i := 187) rfl rfl
theorem q_m_X1_42 : Cond.methodLink RX1 42 yX1_landing ∈ kGW := kin3 (i := 188) rfl rfl
theorem q_i_X1_landing : Cond.instanceMethod yX1_landing ∈ kGW := kin3 (i := 189) rfl rfl
theorem q_s_X1_landing : Cond.selects RX1 yX1_landing yX1_landing ∈ kGW := kin3 (i := 190) rfl rfl
theorem q_c_X1_landing : Cond.code yX1_landing cX1_landing 5 (some .int) ∈ kGW := kin3 (i := 191) rfl rfl
theorem q_m_X1_31 : Cond.methodLink RX1 31 yX1_drift ∈ kGW := kin3 (i := 192) rfl rfl
theorem q_m_X1_39 : Cond.methodLink RX1 39 yX1_ringAt ∈ kGW := kin3 (i := 193) rfl rfl
theorem q_m_X1_46 : Cond.methodLink RX1 46 yJ9_max_7cf53 ∈ kGW := kin3 (i := 194) rfl rfl
theorem q_s_J9_max_7cf53 : Cond.static yJ9_max_7cf53 ∈ kGW := kin3 (i := 195) rfl rfl
theorem q_c_J9_max_7cf53 : Cond.code yJ9_max_7cf53 cJ9_max_7cf53 2 (some .int) ∈ kGW := kin3 (i := 196) rfl rfl
theorem q_m_X6_66 : Cond.methodLink RX6 66 yX1_sumOfArchers ∈ kGW := kin3 (i := 197) rfl rfl
theorem q_m_L_53 : Cond.methodLink RL 53 yX11_shoot ∈ kGW := kin3 (i := 198) rfl rfl
theorem q_i_X11_shoot : Cond.instanceMethod yX11_shoot ∈ kGW := kin3 (i := 199) rfl rfl
theorem q_s_X11_shoot : Cond.selects RX11 yX11_shoot yX11_shoot ∈ kGW := kin3 (i := 200) rfl rfl
theorem q_c_X11_shoot : Cond.code yX11_shoot cX11_shoot 4 (some .int) ∈ kGW := kin3 (i := 201) rfl rfl
theorem q_m_X11_171 : Cond.methodLink RX11 171 yX1_loose ∈ kGW := kin3 (i := 202) rfl rfl
theorem q_m_X11_175 : Cond.methodLink RX11 175 yX11_placeOrHedge ∈ kGW := kin3 (i := 203) rfl rfl
theorem q_s_X11_placeOrHedge : Cond.static yX11_placeOrHedge ∈ kGW := kin3 (i := 204) rfl rfl
theorem q_c_X11_placeOrHedge : Cond.code yX11_placeOrHedge cX11_placeOrHedge 1 (some .int) ∈ kGW := kin3 (i := 205) rfl rfl
theorem q_m_L_57 : Cond.methodLink RL 57 yX11_pull ∈ kGW := kin3 (i := 206) rfl rfl
theorem q_i_X11_pull : Cond.instanceMethod yX11_pull ∈ kGW := kin3 (i := 207) rfl rfl
theorem q_s_X11_pull : Cond.selects RX11 yX11_pull yX11_pull ∈ kGW := kin3 (i := 208) rfl rfl
theorem q_c_X11_pull : Cond.code yX11_pull cX11_pull 5 (some .int) ∈ kGW := kin3 (i := 209) rfl rfl
theorem q_m_X11_178 : Cond.methodLink RX11 178 yJ9_min_7cf53 ∈ kGW := kin3 (i := 210) rfl rfl
theorem q_m_L_61 : Cond.methodLink RL 61 yX11_breath ∈ kGW := kin3 (i := 211) rfl rfl
theorem q_i_X11_breath : Cond.instanceMethod yX11_breath ∈ kGW := kin3 (i := 212) rfl rfl
theorem q_s_X11_breath : Cond.selects RX11 yX11_breath yX11_breath ∈ kGW := kin3 (i := 213) rfl rfl
theorem q_c_X11_breath : Cond.code yX11_breath cX11_breath 3 (some .int) ∈ kGW := kin3 (i := 214) rfl rfl
theorem q_m_L_65 : Cond.methodLink RL 65 yX11_teach ∈ kGW := kin3 (i := 215) rfl rfl
theorem q_i_X11_teach : Cond.instanceMethod yX11_teach ∈ kGW := kin3 (i := 216) rfl rfl
theorem q_s_X11_teach : Cond.selects RX11 yX11_teach yX11_teach ∈ kGW := kin3 (i := 217) rfl rfl
theorem q_c_X11_teach : Cond.code yX11_teach cX11_teach 5 (some .int) ∈ kGW := kin3 (i := 218) rfl rfl
theorem q_m_L_69 : Cond.methodLink RL 69 yX11_undo ∈ kGW := kin3 (i := 219) rfl rfl
theorem q_i_X11_undo : Cond.instanceMethod yX11_undo ∈ kGW := kin3 (i := 220) rfl rfl
theorem q_s_X11_undo : Cond.selects RX11 yX11_undo yX11_undo ∈ kGW := kin3 (i := 221) rfl rfl
theorem q_c_X11_undo : Cond.code yX11_undo cX11_undo 1 (some .int) ∈ kGW := kin3 (i := 222) rfl rfl
theorem q_m_X11_184 : Cond.methodLink RX11 184 yX0_takeBack ∈ kGW := kin3 (i := 223) rfl rfl
theorem q_i_X0_takeBack : Cond.instanceMethod yX0_takeBack ∈ kGW := kin3 (i := 224) rfl rfl
theorem q_s_X0_takeBack : Cond.selects RX0 yX0_takeBack yX0_takeBack ∈ kGW := kin3 (i := 225) rfl rfl
theorem q_c_X0_takeBack : Cond.code yX0_takeBack cX0_takeBack 2 none ∈ kGW := kin3 (i := 226) rfl rfl
theorem q_m_L_73 : Cond.methodLink RL 73 yX11_ahead ∈ kGW := kin3 (i := 227) rfl rfl
theorem q_i_X11_ahead : Cond.instanceMethod yX11_ahead ∈ kGW := kin3 (i := 228) rfl rfl
theorem q_s_X11_ahead : Cond.selects RX11 yX11_ahead yX11_ahead ∈ kGW := kin3 (i := 229) rfl rfl
theorem q_c_X11_ahead : Cond.code yX11_ahead cX11_ahead 5 (some .int) ∈ kGW := kin3 (i := 230) rfl rfl
theorem q_m_X11_187 : Cond.methodLink RX11 187 yX6_playRounds ∈ kGW := kin3 (i := 231) rfl rfl
theorem q_i_X6_playRounds : Cond.instanceMethod yX6_playRounds ∈ kGW := kin3 (i := 232) rfl rfl
theorem q_s_X6_playRounds : Cond.selects RX6 yX6_playRounds yX6_playRounds ∈ kGW := kin3 (i := 233) rfl rfl
theorem q_c_X6_playRounds : Cond.code yX6_playRounds cX6_playRounds 3 none ∈ kGW := kin3 (i := 234) rfl rfl
theorem q_m_X6_69 : Cond.methodLink RX6 69 yX6_playRound ∈ kGW := kin3 (i := 235) rfl rfl
theorem q_m_L_78 : Cond.methodLink RL 78 yX11_eased ∈ kGW := kin3 (i := 236) rfl rfl
theorem q_i_X11_eased : Cond.instanceMethod yX11_eased ∈ kGW := kin3 (i := 237) rfl rfl
theorem q_s_X11_eased : Cond.selects RX11 yX11_eased yX11_eased ∈ kGW := kin3 (i := 238) rfl rfl
theorem q_c_X11_eased : Cond.code yX11_eased cX11_eased 2 (some .int) ∈ kGW := kin3 (i := 239) rfl rfl
theorem q_m_X11_190 : Cond.methodLink RX11 190 yX2_firstWell ∈ kGW := kin4 (i := 0) rfl rfl
theorem q_i_X2_firstWell : Cond.instanceMethod yX2_firstWell ∈ kGW := kin4 (i := 1) rfl rfl
theorem q_s_X2_firstWell : Cond.selects RX2 yX2_firstWell yX2_firstWell ∈ kGW := kin4 (i := 2) rfl rfl
theorem q_c_X2_firstWell : Cond.code yX2_firstWell cX2_firstWell 6 (some .int) ∈ kGW := kin4 (i := 3) rfl rfl
theorem q_m_X2_39 : Cond.methodLink RX2 39 yX6_playRound ∈ kGW := kin4 (i := 4) rfl rfl
theorem q_m_X2_43 : Cond.methodLink RX2 43 yX2_areWell ∈ kGW := kin4 (i := 5) rfl rfl
theorem q_s_X2_areWell : Cond.static yX2_areWell ∈ kGW := kin4 (i := 6) rfl rfl
theorem q_c_X2_areWell : Cond.code yX2_areWell cX2_areWell 4 (some .boolean) ∈ kGW := kin4 (i := 7) rfl rfl
theorem q_m_L_82 : Cond.methodLink RL 82 yX11_allEased ∈ kGW := kin4 (i := 8) rfl rfl
theorem q_i_X11_allEased : Cond.instanceMethod yX11_allEased ∈ kGW := kin4 (i := 9) rfl rfl
theorem q_s_X11_allEased : Cond.selects RX11 yX11_allEased yX11_allEased ∈ kGW := kin4 (i := 10) rfl rfl
theorem q_c_X11_allEased : Cond.code yX11_allEased cX11_allEased 1 (some .int) ∈ kGW := kin4 (i := 11) rfl rfl
theorem q_m_L_86 : Cond.methodLink RL 86 yX11_down ∈ kGW := kin4 (i := 12) rfl rfl
theorem q_i_X11_down : Cond.instanceMethod yX11_down ∈ kGW := kin4 (i := 13) rfl rfl
theorem q_s_X11_down : Cond.selects RX11 yX11_down yX11_down ∈ kGW := kin4 (i := 14) rfl rfl
theorem q_c_X11_down : Cond.code yX11_down cX11_down 4 (some .int) ∈ kGW := kin4 (i := 15) rfl rfl
theorem q_m_X11_194 : Cond.methodLink RX11 194 yX1_landing ∈ kGW := kin4 (i := 16) rfl rfl
theorem q_m_L_90 : Cond.methodLink RL 90 yX11_bestAim ∈ kGW := kin4 (i := 17) rfl rfl
theorem q_i_X11_bestAim : Cond.instanceMethod yX11_bestAim ∈ kGW := kin4 (i := 18) rfl rfl
theorem q_s_X11_bestAim : Cond.selects RX11 yX11_bestAim yX11_bestAim ∈ kGW := kin4 (i := 19) rfl rfl
theorem q_c_X11_bestAim : Cond.code yX11_bestAim cX11_bestAim 7 (some .int) ∈ kGW := kin4 (i := 20) rfl rfl
theorem q_m_X11_197 : Cond.methodLink RX11 197 yX1_ringThatHitsOwn ∈ kGW := kin4 (i := 21) rfl rfl
theorem q_i_X1_ringThatHitsOwn : Cond.instanceMethod yX1_ringThatHitsOwn ∈ kGW := kin4 (i := 22) rfl rfl
theorem q_s_X1_ringThatHitsOwn : Cond.selects RX1 yX1_ringThatHitsOwn yX1_ringThatHitsOwn ∈ kGW := kin4 (i := 23) rfl rfl
theorem q_c_X1_ringThatHitsOwn : Cond.code yX1_ringThatHitsOwn cX1_ringThatHitsOwn 4 (some .int) ∈ kGW := kin4 (i := 24) rfl rfl
theorem q_m_X1_35 : Cond.methodLink RX1 35 yX1_windOf ∈ kGW := kin4 (i := 25) rfl rfl
theorem q_m_L_94 : Cond.methodLink RL 94 yX11_row ∈ kGW := kin4 (i := 26) rfl rfl
theorem q_i_X11_row : Cond.instanceMethod yX11_row ∈ kGW := kin4 (i := 27) rfl rfl
theorem q_s_X11_row : Cond.selects RX11 yX11_row yX11_row ∈ kGW := kin4 (i := 28) rfl rfl
theorem q_c_X11_row : Cond.code yX11_row cX11_row 4 (some .int) ∈ kGW := kin4 (i := 29) rfl rfl
theorem q_m_X11_200 : Cond.methodLink RX11 200 yX2_bestRow ∈ kGW := kin4 (i := 30) rfl rfl
theorem q_i_X2_bestRow : Cond.instanceMethod yX2_bestRow ∈ kGW := kin4 (i := 31) rfl rfl
theorem q_s_X2_bestRow : Cond.selects RX2 yX2_bestRow yX2_bestRow ∈ kGW := kin4 (i := 32) rfl rfl
theorem q_c_X2_bestRow : Cond.code yX2_bestRow cX2_bestRow 14 (some .int) ∈ kGW := kin4 (i := 33) rfl rfl
theorem q_m_X2_51 : Cond.methodLink RX2 51 yJ9_min_7cf53 ∈ kGW := kin4 (i := 34) rfl rfl
theorem q_m_X2_57 : Cond.methodLink RX2 57 yX1_ringThatHitsOwn ∈ kGW := kin4 (i := 35) rfl rfl
theorem q_m_L_98 : Cond.methodLink RL 98 yX11_hold ∈ kGW := kin4 (i := 36) rfl rfl
theorem q_i_X11_hold : Cond.instanceMethod yX11_hold ∈ kGW := kin4 (i := 37) rfl rfl
theorem q_s_X11_hold : Cond.selects RX11 yX11_hold yX11_hold ∈ kGW := kin4 (i := 38) rfl rfl
theorem q_c_X11_hold : Cond.code yX11_hold cX11_hold 5 (some .int) ∈ kGW := kin4 (i := 39) rfl rfl
theorem q_m_X11_204 : Cond.methodLink RX11 204 yX1_drift ∈ kGW := kin4 (i := 40) rfl rfl
theorem q_m_L_102 : Cond.methodLink RL 102 yX11_leastSkill ∈ kGW := kin4 (i := 41) rfl rfl
theorem q_i_X11_leastSkill : Cond.instanceMethod yX11_leastSkill ∈ kGW := kin4 (i := 42) rfl rfl
theorem q_s_X11_leastSkill : Cond.selects RX11 yX11_leastSkill yX11_leastSkill ∈ kGW := kin4 (i := 43) rfl rfl
theorem q_c_X11_leastSkill : Cond.code yX11_leastSkill cX11_leastSkill 4 (some .int) ∈ kGW := kin4 (i := 44) rfl rfl
theorem q_m_L_106 : Cond.methodLink RL 106 yX11_set ∈ kGW := kin4 (i := 45) rfl rfl
theorem q_i_X11_set : Cond.instanceMethod yX11_set ∈ kGW := kin4 (i := 46) rfl rfl
theorem q_s_X11_set : Cond.selects RX11 yX11_set yX11_set ∈ kGW := kin4 (i := 47) rfl rfl
theorem q_c_X11_set : Cond.code yX11_set cX11_set 4 (some .int) ∈ kGW := kin4 (i := 48) rfl rfl
theorem q_m_X11_207 : Cond.methodLink RX11 207 yX2_findPlace ∈ kGW := kin4 (i := 49) rfl rfl
theorem q_i_X2_findPlace : Cond.instanceMethod yX2_findPlace ∈ kGW := kin4 (i := 50) rfl rfl
theorem q_s_X2_findPlace : Cond.selects RX2 yX2_findPlace yX2_findPlace ∈ kGW := kin4 (i := 51) rfl rfl
theorem q_c_X2_findPlace : Cond.code yX2_findPlace cX2_findPlace 7 none ∈ kGW := kin4 (i := 52) rfl rfl
theorem q_m_X2_60 : Cond.methodLink RX2 60 yX6_startFrom ∈ kGW := kin4 (i := 53) rfl rfl
theorem q_m_X2_64 : Cond.methodLink RX2 64 yX6_playRounds ∈ kGW := kin4 (i := 54) rfl rfl
theorem q_m_X2_68 : Cond.methodLink RX2 68 yX2_easedSince ∈ kGW := kin4 (i := 55) rfl rfl
theorem q_i_X2_easedSince : Cond.instanceMethod yX2_easedSince ∈ kGW := kin4 (i := 56) rfl rfl
theorem q_s_X2_easedSince : Cond.selects RX2 yX2_easedSince yX2_easedSince ∈ kGW := kin4 (i := 57) rfl rfl
theorem q_c_X2_easedSince : Cond.code yX2_easedSince cX2_easedSince 3 (some .int) ∈ kGW := kin4 (i := 58) rfl rfl
theorem q_m_X2_80 : Cond.methodLink RX2 80 yX1_sumOfArchers ∈ kGW := kin4 (i := 59) rfl rfl
theorem q_m_X2_72 : Cond.methodLink RX2 72 yX1_ringAt ∈ kGW := kin4 (i := 60) rfl rfl
theorem q_m_X2_76 : Cond.methodLink RX2 76 yX2_takeIfMore ∈ kGW := kin4 (i := 61) rfl rfl
theorem q_i_X2_takeIfMore : Cond.instanceMethod yX2_takeIfMore ∈ kGW := kin4 (i := 63) rfl rfl
theorem q_c_X2_takeIfMore : Cond.code yX2_takeIfMore cX2_takeIfMore 3 none ∈ kGW := kin4 (i := 64) rfl rfl
theorem q_m_L_110 : Cond.methodLink RL 110 yX11_given ∈ kGW := kin4 (i := 65) rfl rfl
theorem q_i_X11_given : Cond.instanceMethod yX11_given ∈ kGW := kin4 (i := 66) rfl rfl
theorem q_s_X11_given : Cond.selects RX11 yX11_given yX11_given ∈ kGW := kin4 (i := 67) rfl rfl
theorem q_c_X11_given : Cond.code yX11_given cX11_given 3 (some .int) ∈ kGW := kin4 (i := 68) rfl rfl
theorem q_m_X11_217 : Cond.methodLink RX11 217 yX2_findHeir ∈ kGW := kin4 (i := 69) rfl rfl
theorem q_i_X2_findHeir : Cond.instanceMethod yX2_findHeir ∈ kGW := kin4 (i := 70) rfl rfl
theorem q_s_X2_findHeir : Cond.selects RX2 yX2_findHeir yX2_findHeir ∈ kGW := kin4 (i := 71) rfl rfl
theorem q_c_X2_findHeir : Cond.code yX2_findHeir cX2_findHeir 8 none ∈ kGW := kin4 (i := 72) rfl rfl
theorem q_m_L_122 : Cond.methodLink RL 122 yX11_rests ∈ kGW := kin4 (i := 73) rfl rfl
theorem q_i_X11_rests : Cond.instanceMethod yX11_rests ∈ kGW := kin4 (i := 74) rfl rfl
theorem q_s_X11_rests : Cond.selects RX11 yX11_rests yX11_rests ∈ kGW := kin4 (i := 75) rfl rfl
theorem q_c_X11_rests : Cond.code yX11_rests cX11_rests 5 (some .int) ∈ kGW := kin4 (i := 76) rfl rfl
theorem q_m_X11_221 : Cond.methodLink RX11 221 yX2_weighRings ∈ kGW := kin4 (i := 77) rfl rfl
theorem q_i_X2_weighRings : Cond.instanceMethod yX2_weighRings ∈ kGW := kin4 (i := 78) rfl rfl
theorem q_s_X2_weighRings : Cond.selects RX2 yX2_weighRings yX2_weighRings ∈ kGW := kin4 (i := 79) rfl rfl
theorem q_c_X2_weighRings : Cond.code yX2_weighRings cX2_weighRings 9 none ∈ kGW := kin4 (i := 80) rfl rfl
theorem q_m_X2_86 : Cond.methodLink RX2 86 yX2_gainOf ∈ kGW := kin4 (i := 81) rfl rfl
theorem q_s_X2_gainOf : Cond.static yX2_gainOf ∈ kGW := kin4 (i := 82) rfl rfl
theorem q_c_X2_gainOf : Cond.code yX2_gainOf cX2_gainOf 4 (some .int) ∈ kGW := kin4 (i := 83) rfl rfl
theorem q_m_X11_225 : Cond.methodLink RX11 225 yX2_restsOf ∈ kGW := kin4 (i := 84) rfl rfl
theorem q_i_X2_restsOf : Cond.instanceMethod yX2_restsOf ∈ kGW := kin4 (i := 85) rfl rfl
theorem q_s_X2_restsOf : Cond.selects RX2 yX2_restsOf yX2_restsOf ∈ kGW := kin4 (i := 86) rfl rfl
theorem q_c_X2_restsOf : Cond.code yX2_restsOf cX2_restsOf 6 (some .int) ∈ kGW := kin4 (i := 87) rfl rfl
theorem q_m_X2_90 : Cond.methodLink RX2 90 yX2_isRest ∈ kGW := kin4 (i := 88) rfl rfl
theorem q_i_X2_isRest : Cond.instanceMethod yX2_isRest ∈ kGW := kin4 (i := 90) rfl rfl
theorem q_c_X2_isRest : Cond.code yX2_isRest cX2_isRest 7 (some .boolean) ∈ kGW := kin4 (i := 91) rfl rfl
theorem q_m_L_127 : Cond.methodLink RL 127 yX11_pence ∈ kGW := kin4 (i := 92) rfl rfl
theorem q_i_X11_pence : Cond.instanceMethod yX11_pence ∈ kGW := kin4 (i := 93) rfl rfl
theorem q_s_X11_pence : Cond.selects RX11 yX11_pence yX11_pence ∈ kGW := kin4 (i := 94) rfl rfl
theorem q_c_X11_pence : Cond.code yX11_pence cX11_pence 3 (some .int) ∈ kGW := kin4 (i := 95) rfl rfl
theorem q_m_X11_228 : Cond.methodLink RX11 228 yX2_penceOf ∈ kGW := kin4 (i := 96) rfl rfl
theorem q_i_X2_penceOf : Cond.instanceMethod yX2_penceOf ∈ kGW := kin4 (i := 97) rfl rfl
theorem q_s_X2_penceOf : Cond.selects RX2 yX2_penceOf yX2_penceOf ∈ kGW := kin4 (i := 98) rfl rfl
theorem q_c_X2_penceOf : Cond.code yX2_penceOf cX2_penceOf 12 (some .int) ∈ kGW := kin4 (i := 99) rfl rfl
theorem q_m_L_131 : Cond.methodLink RL 131 yX11_note ∈ kGW := kin4 (i := 100) rfl rfl
theorem q_i_X11_note : Cond.instanceMethod yX11_note ∈ kGW := kin4 (i := 101) rfl rfl
theorem q_s_X11_note : Cond.selects RX11 yX11_note yX11_note ∈ kGW := kin4 (i := 102) rfl rfl
theorem q_c_X11_note : Cond.code yX11_note cX11_note 5 (some .int) ∈ kGW := kin4 (i := 103) rfl rfl
theorem q_m_X11_232 : Cond.methodLink RX11 232 yX5_isFull ∈ kGW := kin4 (i := 104) rfl rfl
theorem q_i_X5_isFull : Cond.instanceMethod yX5_isFull ∈ kGW := kin4 (i := 105) rfl rfl
theorem q_s_X5_isFull : Cond.selects RX5 yX5_isFull yX5_isFull ∈ kGW := kin4 (i := 106) rfl rfl
theorem q_c_X5_isFull : Cond.code yX5_isFull cX5_isFull 1 (some .boolean) ∈ kGW := kin4 (i := 107) rfl rfl
theorem q_m_X11_235 : Cond.methodLink RX11 235 yX5_add ∈ kGW := kin4 (i := 108) rfl rfl
theorem q_i_X5_add : Cond.instanceMethod yX5_add ∈ kGW := kin4 (i := 109) rfl rfl
theorem q_s_X5_add : Cond.selects RX5 yX5_add yX5_add ∈ kGW := kin4 (i := 110) rfl rfl
theorem q_c_X5_add : Cond.code yX5_add cX5_add 4 none ∈ kGW := kin4 (i := 111) rfl rfl
theorem q_m_X5_31 : Cond.methodLink RX5 31 yX5_isFull ∈ kGW := kin4 (i := 112) rfl rfl
theorem q_m_L_114 : Cond.methodLink RL 114 yX11_skilled ∈ kGW := kin4 (i := 113) rfl rfl
theorem q_i_X11_skilled : Cond.instanceMethod yX11_skilled ∈ kGW := kin4 (i := 114) rfl rfl
theorem q_s_X11_skilled : Cond.selects RX11 yX11_skilled yX11_skilled ∈ kGW := kin4 (i := 115) rfl rfl
theorem q_c_X11_skilled : Cond.code yX11_skilled cX11_skilled 2 (some .int) ∈ kGW := kin4 (i := 116) rfl rfl
theorem q_m_X11_239 : Cond.methodLink RX11 239 yX9_numbersThatFit ∈ kGW := kin4 (i := 117) rfl rfl
theorem q_i_X9_numbersThatFit : Cond.instanceMethod yX9_numbersThatFit ∈ kGW := kin4 (i := 118) rfl rfl
theorem q_s_X9_numbersThatFit : Cond.selects RX9 yX9_numbersThatFit yX9_numbersThatFit ∈ kGW := kin4 (i := 119) rfl rfl
theorem q_c_X9_numbersThatFit : Cond.code yX9_numbersThatFit cX9_numbersThatFit 9 (some .int) ∈ kGW := kin4 (i := 120) rfl rfl
theorem q_m_X9_29 : Cond.methodLink RX9 29 yX6_startFrom ∈ kGW := kin4 (i := 121) rfl rfl
theorem q_m_X9_48 : Cond.methodLink RX9 48 yX9_fits ∈ kGW := kin4 (i := 122) rfl rfl
theorem q_s_X9_fits : Cond.static yX9_fits ∈ kGW := kin4 (i := 123) rfl rfl
theorem q_c_X9_fits : Cond.code yX9_fits cX9_fits 6 (some .boolean) ∈ kGW := kin4 (i := 124) rfl rfl
theorem q_m_X9_56 : Cond.methodLink RX9 56 yX5_lastRound ∈ kGW := kin4 (i := 125) rfl rfl
theorem q_i_X5_lastRound : Cond.instanceMethod yX5_lastRound ∈ kGW := kin4 (i := 126) rfl rfl
theorem q_s_X5_lastRound : Cond.selects RX5 yX5_lastRound yX5_lastRound ∈ kGW := kin4 (i := 127) rfl rfl
theorem q_c_X5_lastRound : Cond.code yX5_lastRound cX5_lastRound 3 (some .int) ∈ kGW := kin4 (i := 128) rfl rfl
theorem q_m_X5_35 : Cond.methodLink RX5 35 yJ9_max_7cf53 ∈ kGW := kin4 (i := 129) rfl rfl
theorem q_m_X9_62 : Cond.methodLink RX9 62 yJ9_max_7cf53 ∈ kGW := kin4 (i := 130) rfl rfl
theorem q_m_X9_72 : Cond.methodLink RX9 72 yX6_playRound ∈ kGW := kin4 (i := 131) rfl rfl
theorem q_m_X9_77 : Cond.methodLink RX9 77 yX5_agree ∈ kGW := kin4 (i := 132) rfl rfl
theorem q_i_X5_agree : Cond.instanceMethod yX5_agree ∈ kGW := kin4 (i := 133) rfl rfl
theorem q_s_X5_agree : Cond.selects RX5 yX5_agree yX5_agree ∈ kGW := kin4 (i := 134) rfl rfl
theorem q_c_X5_agree : Cond.code yX5_agree cX5_agree 4 (some .boolean) ∈ kGW := kin4 (i := 135) rfl rfl
theorem q_m_X9_81 : Cond.methodLink RX9 81 arraycopyName ∈ kGW := kin4 (i := 136) rfl rfl
theorem q_m_L_118 : Cond.methodLink RL 118 yX11_ails ∈ kGW := kin4 (i := 137) rfl rfl
theorem q_i_X11_ails : Cond.instanceMethod yX11_ails ∈ kGW := kin4 (i := 138) rfl rfl
theorem q_s_X11_ails : Cond.selects RX11 yX11_ails yX11_ails ∈ kGW := kin4 (i := 139) rfl rfl
theorem q_c_X11_ails : Cond.code yX11_ails cX11_ails 3 (some .int) ∈ kGW := kin4 (i := 140) rfl rfl
theorem q_m_L_135 : Cond.methodLink RL 135 yX11_ruled ∈ kGW := kin4 (i := 141) rfl rfl
theorem q_i_X11_ruled : Cond.instanceMethod yX11_ruled ∈ kGW := kin4 (i := 142) rfl rfl
theorem q_s_X11_ruled : Cond.selects RX11 yX11_ruled yX11_ruled ∈ kGW := kin4 (i := 143) rfl rfl
theorem q_c_X11_ruled : Cond.code yX11_ruled cX11_ruled 2 (some .int) ∈ kGW := kin4 (i := 144) rfl rfl
theorem q_m_X11_243 : Cond.methodLink RX11 243 yX9_lookAhead ∈ kGW := kin4 (i := 145) rfl rfl
theorem q_i_X9_lookAhead : Cond.instanceMethod yX9_lookAhead ∈ kGW := kin4 (i := 146) rfl rfl
theorem q_s_X9_lookAhead : Cond.selects RX9 yX9_lookAhead yX9_lookAhead ∈ kGW := kin4 (i := 147) rfl rfl
theorem q_c_X9_lookAhead : Cond.code yX9_lookAhead cX9_lookAhead 7 none ∈ kGW := kin4 (i := 148) rfl rfl
theorem q_m_L_139 : Cond.methodLink RL 139 yX11_look ∈ kGW := kin4 (i := 150) rfl rfl
theorem q_i_X11_look : Cond.instanceMethod yX11_look ∈ kGW := kin4 (i := 151) rfl rfl
theorem q_s_X11_look : Cond.selects RX11 yX11_look yX11_look ∈ kGW := kin4 (i := 152) rfl rfl
theorem q_c_X11_look : Cond.code yX11_look cX11_look 5 (some .int) ∈ kGW := kin4 (i := 153) rfl rfl
theorem q_m_X11_253 : Cond.methodLink RX11 253 yX9_bestParted ∈ kGW := kin4 (i := 154) rfl rfl
theorem q_i_X9_bestParted : Cond.instanceMethod yX9_bestParted ∈ kGW := kin4 (i := 155) rfl rfl
theorem q_s_X9_bestParted : Cond.selects RX9 yX9_bestParted yX9_bestParted ∈ kGW := kin4 (i := 156) rfl rfl
theorem q_c_X9_bestParted : Cond.code yX9_bestParted cX9_bestParted 4 (some .int) ∈ kGW := kin4 (i := 157) rfl rfl
theorem q_m_X9_87 : Cond.methodLink RX9 87 yX9_mostAlike ∈ kGW := kin4 (i := 158) rfl rfl
theorem q_i_X9_mostAlike : Cond.instanceMethod yX9_mostAlike ∈ kGW := kin4 (i := 159) rfl rfl
theorem q_s_X9_mostAlike : Cond.selects RX9 yX9_mostAlike yX9_mostAlike ∈ kGW := kin4 (i := 160) rfl rfl
theorem q_c_X9_mostAlike : Cond.code yX9_mostAlike cX9_mostAlike 6 (some .int) ∈ kGW := kin4 (i := 161) rfl rfl
theorem q_m_X11_256 : Cond.methodLink RX11 256 yX9_mostAlike ∈ kGW := kin4 (i := 162) rfl rfl
theorem q_m_L_143 : Cond.methodLink RL 143 yX11_seed ∈ kGW := kin4 (i := 163) rfl rfl
theorem q_i_X11_seed : Cond.instanceMethod yX11_seed ∈ kGW := kin4 (i := 164) rfl rfl
theorem q_s_X11_seed : Cond.selects RX11 yX11_seed yX11_seed ∈ kGW := kin4 (i := 165) rfl rfl
theorem q_c_X11_seed : Cond.code yX11_seed cX11_seed 3 (some .int) ∈ kGW := kin4 (i := 166) rfl rfl
theorem q_m_L_147 : Cond.methodLink RL 147 yX11_gusts ∈ kGW := kin4 (i := 167) rfl rfl
theorem q_i_X11_gusts : Cond.instanceMethod yX11_gusts ∈ kGW := kin4 (i := 168) rfl rfl
theorem q_s_X11_gusts : Cond.selects RX11 yX11_gusts yX11_gusts ∈ kGW := kin4 (i := 169) rfl rfl
theorem q_c_X11_gusts : Cond.code yX11_gusts cX11_gusts 8 (some .int) ∈ kGW := kin4 (i := 170) rfl rfl
theorem q_m_X11_262 : Cond.methodLink RX11 262 yX2_blowRounds ∈ kGW := kin4 (i := 171) rfl rfl
theorem q_i_X2_blowRounds : Cond.instanceMethod yX2_blowRounds ∈ kGW := kin4 (i := 172) rfl rfl
theorem q_s_X2_blowRounds : Cond.selects RX2 yX2_blowRounds yX2_blowRounds ∈ kGW := kin4 (i := 173) rfl rfl
theorem q_c_X2_blowRounds : Cond.code yX2_blowRounds cX2_blowRounds 5 none ∈ kGW := kin4 (i := 174) rfl rfl
theorem q_m_X2_94 : Cond.methodLink RX2 94 yX2_drawn ∈ kGW := kin4 (i := 175) rfl rfl
theorem q_i_X2_drawn : Cond.instanceMethod yX2_drawn ∈ kGW := kin4 (i := 177) rfl rfl
theorem q_c_X2_drawn : Cond.code yX2_drawn cX2_drawn 1 (some .int) ∈ kGW := kin4 (i := 178) rfl rfl
theorem q_q_X2_100 : Cond.constantLong RX2 100 (1103515245) ∈ kGW := kin4 (i := 179) rfl rfl
theorem q_q_X2_102 : Cond.constantLong RX2 102 (12345) ∈ kGW := kin4 (i := 180) rfl rfl
theorem q_q_X2_104 : Cond.constantLong RX2 104 (2147483647) ∈ kGW := kin4 (i := 181) rfl rfl
theorem q_q_X2_106 : Cond.constant RX2 106 (65536) ∈ kGW := kin4 (i := 182) rfl rfl
theorem q_m_X11_266 : Cond.methodLink RX11 266 yX2_easedSince ∈ kGW := kin4 (i := 183) rfl rfl
theorem q_m_L_155 : Cond.methodLink RL 155 yX11_image ∈ kGW := kin4 (i := 184) rfl rfl
theorem q_i_X11_image : Cond.instanceMethod yX11_image ∈ kGW := kin4 (i := 185) rfl rfl
theorem q_s_X11_image : Cond.selects RX11 yX11_image yX11_image ∈ kGW := kin4 (i := 186) rfl rfl
theorem q_c_X11_image : Cond.code yX11_image cX11_image 2 (some .int) ∈ kGW := kin4 (i := 187) rfl rfl
theorem q_m_X11_270 : Cond.methodLink RX11 270 yX4_copyFrom ∈ kGW := kin4 (i := 188) rfl rfl
theorem q_i_X4_copyFrom : Cond.instanceMethod yX4_copyFrom ∈ kGW := kin4 (i := 189) rfl rfl
theorem q_s_X4_copyFrom : Cond.selects RX4 yX4_copyFrom yX4_copyFrom ∈ kGW := kin4 (i := 190) rfl rfl
theorem q_c_X4_copyFrom : Cond.code yX4_copyFrom cX4_copyFrom 2 none ∈ kGW := kin4 (i := 191) rfl rfl
theorem q_m_X4_39 : Cond.methodLink RX4 39 yX1_copyFrom ∈ kGW := kin4 (i := 192) rfl rfl
theorem q_m_X4_43 : Cond.methodLink RX4 43 yX5_copyFrom ∈ kGW := kin4 (i := 193) rfl rfl
theorem q_i_X5_copyFrom : Cond.instanceMethod yX5_copyFrom ∈ kGW := kin4 (i := 194) rfl rfl
theorem q_s_X5_copyFrom : Cond.selects RX5 yX5_copyFrom yX5_copyFrom ∈ kGW := kin4 (i := 195) rfl rfl
theorem q_c_X5_copyFrom : Cond.code yX5_copyFrom cX5_copyFrom 2 none ∈ kGW := kin4 (i := 196) rfl rfl
theorem q_m_X5_25 : Cond.methodLink RX5 25 arraycopyName ∈ kGW := kin4 (i := 197) rfl rfl
theorem q_m_L_159 : Cond.methodLink RL 159 yX11_back ∈ kGW := kin4 (i := 198) rfl rfl
theorem q_i_X11_back : Cond.instanceMethod yX11_back ∈ kGW := kin4 (i := 199) rfl rfl
theorem q_s_X11_back : Cond.selects RX11 yX11_back yX11_back ∈ kGW := kin4 (i := 200) rfl rfl
theorem q_c_X11_back : Cond.code yX11_back cX11_back 2 (some .int) ∈ kGW := kin4 (i := 201) rfl rfl
theorem q_k_L_10 : Cond.classLink RL 10 RX12 ∈ kGW := kin4 (i := 202) rfl rfl
theorem q_n_X12 : Cond.instantiable RX12 39 ∈ kGW := kin4 (i := 203) rfl rfl
theorem q_m_L_12 : Cond.methodLink RL 12 yX12_init ∈ kGW := kin4 (i := 204) rfl rfl
theorem q_i_X12_init : Cond.instanceMethod yX12_init ∈ kGW := kin4 (i := 205) rfl rfl
theorem q_c_X12_init : Cond.code yX12_init cX12_init 1 none ∈ kGW := kin4 (i := 206) rfl rfl
theorem q_m_X12_1 : Cond.methodLink RX12 1 objectInit ∈ kGW := kin4 (i := 207) rfl rfl
theorem q_f_X12_7 : Cond.fieldLink RX12 7 "StrawButtsModel" "tape" "[B" ∈ kGW := kin4 (i := 208) rfl rfl
theorem q_f_X12_89 : Cond.fieldLink RX12 89 "StrawButtsModel" "taped" "I" ∈ kGW := kin4 (i := 209) rfl rfl
theorem q_f_X12_267 : Cond.fieldLink RX12 267 "StrawButtsModel" "rules" "I" ∈ kGW := kin4 (i := 210) rfl rfl
theorem q_f_X12_13 : Cond.fieldLink RX12 13 "StrawButtsModel" "sign" "[I" ∈ kGW := kin4 (i := 211) rfl rfl
theorem q_f_X12_17 : Cond.fieldLink RX12 17 "StrawButtsModel" "length" "[I" ∈ kGW := kin4 (i := 212) rfl rfl
theorem q_f_X12_20 : Cond.fieldLink RX12 20 "StrawButtsModel" "clause" "[I" ∈ kGW := kin4 (i := 213) rfl rfl
theorem q_f_X12_23 : Cond.fieldLink RX12 23 "StrawButtsModel" "clauses" "[I" ∈ kGW := kin4 (i := 214) rfl rfl
theorem q_f_X12_26 : Cond.fieldLink RX12 26 "StrawButtsModel" "read" "[I" ∈ kGW := kin4 (i := 215) rfl rfl
theorem q_f_X12_99 : Cond.fieldLink RX12 99 "StrawButtsModel" "next" "I" ∈ kGW := kin4 (i := 216) rfl rfl
theorem q_f_X12_96 : Cond.fieldLink RX12 96 "StrawButtsModel" "wrong" "I" ∈ kGW := kin4 (i := 217) rfl rfl
theorem q_f_X12_124 : Cond.fieldLink RX12 124 "StrawButtsModel" "number" "I" ∈ kGW := kin4 (i := 218) rfl rfl
theorem q_f_X12_157 : Cond.fieldLink RX12 157 "StrawButtsModel" "text" "I" ∈ kGW := kin4 (i := 219) rfl rfl
theorem q_f_X12_160 : Cond.fieldLink RX12 160 "StrawButtsModel" "made" "I" ∈ kGW := kin4 (i := 220) rfl rfl
theorem q_f_X12_163 : Cond.fieldLink RX12 163 "StrawButtsModel" "deep" "I" ∈ kGW := kin4 (i := 221) rfl rfl
theorem q_f_X12_255 : Cond.fieldLink RX12 255 "StrawButtsModel" "lines" "I" ∈ kGW := kin4 (i := 222) rfl rfl
theorem q_f_X12_29 : Cond.fieldLink RX12 29 "StrawButtsModel" "open" "[I" ∈ kGW := kin4 (i := 223) rfl rfl
theorem q_f_X12_166 : Cond.fieldLink RX12 166 "StrawButtsModel" "opened" "I" ∈ kGW := kin4 (i := 224) rfl rfl
theorem q_f_X12_32 : Cond.fieldLink RX12 32 "StrawButtsModel" "stack" "[J" ∈ kGW := kin4 (i := 225) rfl rfl
theorem q_f_X12_279 : Cond.fieldLink RX12 279 "StrawButtsModel" "top" "I" ∈ kGW := kin4 (i := 226) rfl rfl
theorem q_f_X12_36 : Cond.fieldLink RX12 36 "StrawButtsModel" "word" "[J" ∈ kGW := kin4 (i := 227) rfl rfl
theorem q_f_X12_39 : Cond.fieldLink RX12 39 "StrawButtsModel" "said" "[I" ∈ kGW := kin4 (i := 228) rfl rfl
theorem q_f_X12_42 : Cond.fieldLink RX12 42 "StrawButtsModel" "force" "I" ∈ kGW := kin4 (i := 229) rfl rfl
theorem q_f_X12_442 : Cond.fieldLink RX12 442 "StrawButtsModel" "x" "I" ∈ kGW := kin4 (i := 230) rfl rfl
theorem q_f_X12_46 : Cond.fieldLink RX12 46 "StrawButtsModel" "windAlone" "I" ∈ kGW := kin4 (i := 231) rfl rfl
theorem q_f_X12_49 : Cond.fieldLink RX12 49 "StrawButtsModel" "planned" "[I" ∈ kGW := kin4 (i := 232) rfl rfl
theorem q_f_X12_52 : Cond.fieldLink RX12 52 "StrawButtsModel" "cameOf" "[I" ∈ kGW := kin4 (i := 233) rfl rfl
theorem q_f_X12_55 : Cond.fieldLink RX12 55 "StrawButtsModel" "wasSaid" "[I" ∈ kGW := kin4 (i := 234) rfl rfl
theorem q_f_X12_276 : Cond.fieldLink RX12 276 "StrawButtsModel" "undone" "I" ∈ kGW := kin4 (i := 235) rfl rfl
theorem q_f_X12_58 : Cond.fieldLink RX12 58 "StrawButtsModel" "kept" "[I" ∈ kGW := kin4 (i := 236) rfl rfl
theorem q_f_X12_61 : Cond.fieldLink RX12 61 "StrawButtsModel" "rowNow" "[I" ∈ kGW := kin4 (i := 237) rfl rfl
theorem q_f_X12_64 : Cond.fieldLink RX12 64 "StrawButtsModel" "rowBest" "[I" ∈ kGW := kin4 (i := 238) rfl rfl
theorem q_f_X12_67 : Cond.fieldLink RX12 67 "StrawButtsModel" "hasBy" "[I" ∈ kGW := kin4 (i := 239) rfl rfl
theorem q_f_X12_70 : Cond.fieldLink RX12 70 "StrawButtsModel" "isFit" "[Z" ∈ kGW := kin5 (i := 0) rfl rfl
theorem q_f_X12_74 : Cond.fieldLink RX12 74 "StrawButtsModel" "cameThen" "[I" ∈ kGW := kin5 (i := 1) rfl rfl
theorem q_f_X12_445 : Cond.fieldLink RX12 445 "StrawButtsModel" "drawX" "J" ∈ kGW := kin5 (i := 2) rfl rfl
theorem q_f_X12_77 : Cond.fieldLink RX12 77 "StrawButtsModel" "images" "[I" ∈ kGW := kin5 (i := 3) rfl rfl
theorem q_f_X12_80 : Cond.fieldLink RX12 80 "StrawButtsModel" "imageForce" "[I" ∈ kGW := kin5 (i := 4) rfl rfl
theorem q_f_X12_83 : Cond.fieldLink RX12 83 "StrawButtsModel" "imageX" "[I" ∈ kGW := kin5 (i := 5) rfl rfl
theorem q_f_X12_86 : Cond.fieldLink RX12 86 "StrawButtsModel" "isMade" "[Z" ∈ kGW := kin5 (i := 6) rfl rfl
theorem q_a_boolean : Cond.arrayClass .boolean ∈ kGW := kin5 (i := 86) rfl rfl
theorem q_m_L_17 : Cond.methodLink RL 17 yX12_feed ∈ kGW := kin5 (i := 87) rfl rfl
theorem q_i_X12_feed : Cond.instanceMethod yX12_feed ∈ kGW := kin5 (i := 88) rfl rfl
theorem q_s_X12_feed : Cond.selects RX12 yX12_feed yX12_feed ∈ kGW := kin5 (i := 89) rfl rfl
theorem q_c_X12_feed : Cond.code yX12_feed cX12_feed 6 (some .int) ∈ kGW := kin5 (i := 90) rfl rfl
theorem q_m_X12_92 : Cond.methodLink RX12 92 yX12_four ∈ kGW := kin5 (i := 91) rfl rfl
theorem q_i_X12_four : Cond.instanceMethod yX12_four ∈ kGW := kin5 (i := 93) rfl rfl
theorem q_c_X12_four : Cond.code yX12_four cX12_four 3 none ∈ kGW := kin5 (i := 94) rfl rfl
theorem q_m_L_22 : Cond.methodLink RL 22 yX12_end ∈ kGW := kin5 (i := 95) rfl rfl
theorem q_i_X12_end : Cond.instanceMethod yX12_end ∈ kGW := kin5 (i := 96) rfl rfl
theorem q_s_X12_end : Cond.selects RX12 yX12_end yX12_end ∈ kGW := kin5 (i := 97) rfl rfl
theorem q_c_X12_end : Cond.code yX12_end cX12_end 2 (some .int) ∈ kGW := kin5 (i := 98) rfl rfl
theorem q_m_L_31 : Cond.methodLink RL 31 yX12_rule ∈ kGW := kin5 (i := 99) rfl rfl
theorem q_i_X12_rule : Cond.instanceMethod yX12_rule ∈ kGW := kin5 (i := 100) rfl rfl
theorem q_s_X12_rule : Cond.selects RX12 yX12_rule yX12_rule ∈ kGW := kin5 (i := 101) rfl rfl
theorem q_c_X12_rule : Cond.code yX12_rule cX12_rule 1 (some .int) ∈ kGW := kin5 (i := 102) rfl rfl
theorem q_m_X12_270 : Cond.methodLink RX12 270 yX12_readsAll ∈ kGW := kin5 (i := 103) rfl rfl
theorem q_i_X12_readsAll : Cond.instanceMethod yX12_readsAll ∈ kGW := kin5 (i := 105) rfl rfl
theorem q_c_X12_readsAll : Cond.code yX12_readsAll cX12_readsAll 2 (some .boolean) ∈ kGW := kin5 (i := 106) rfl rfl
theorem q_m_X12_264 : Cond.methodLink RX12 264 yX12_clauseHere ∈ kGW := kin5 (i := 107) rfl rfl
theorem q_i_X12_clauseHere : Cond.instanceMethod yX12_clauseHere ∈ kGW := kin5 (i := 109) rfl rfl
theorem q_c_X12_clauseHere : Cond.code yX12_clauseHere cX12_clauseHere 3 (some .boolean) ∈ kGW := kin5 (i := 110) rfl rfl
theorem q_m_X12_102 : Cond.methodLink RX12 102 yX12_see ∈ kGW := kin5 (i := 111) rfl rfl
theorem q_i_X12_see : Cond.instanceMethod yX12_see ∈ kGW := kin5 (i := 113) rfl rfl
theorem q_c_X12_see : Cond.code yX12_see cX12_see 1 (some .int) ∈ kGW := kin5 (i := 114) rfl rfl
theorem q_m_X12_250 : Cond.methodLink RX12 250 yX12_isGreenWord ∈ kGW := kin5 (i := 115) rfl rfl
theorem q_i_X12_isGreenWord : Cond.instanceMethod yX12_isGreenWord ∈ kGW := kin5 (i := 117) rfl rfl
theorem q_c_X12_isGreenWord : Cond.code yX12_isGreenWord cX12_isGreenWord 1 (some .boolean) ∈ kGW := kin5 (i := 118) rfl rfl
theorem q_q_X12_236 : Cond.constantLong RX12 236 (444300879214) ∈ kGW := kin5 (i := 119) rfl rfl
theorem q_m_X12_110 : Cond.methodLink RX12 110 yX12_isWord ∈ kGW := kin5 (i := 120) rfl rfl
theorem q_i_X12_isWord : Cond.instanceMethod yX12_isWord ∈ kGW := kin5 (i := 122) rfl rfl
theorem q_c_X12_isWord : Cond.code yX12_isWord cX12_isWord 6 (some .boolean) ∈ kGW := kin5 (i := 123) rfl rfl
theorem q_m_X12_106 : Cond.methodLink RX12 106 yX12_isLetter ∈ kGW := kin5 (i := 124) rfl rfl
theorem q_i_X12_isLetter : Cond.instanceMethod yX12_isLetter ∈ kGW := kin5 (i := 126) rfl rfl
theorem q_c_X12_isLetter : Cond.code yX12_isLetter cX12_isLetter 2 (some .boolean) ∈ kGW := kin5 (i := 127) rfl rfl
theorem q_q_X12_151 : Cond.constantLong RX12 151 (2003398244) ∈ kGW := kin5 (i := 128) rfl rfl
theorem q_q_X12_133 : Cond.constantLong RX12 133 (1919512167) ∈ kGW := kin5 (i := 129) rfl rfl
theorem q_q_X12_131 : Cond.constantLong RX12 131 (107143921952114) ∈ kGW := kin5 (i := 130) rfl rfl
theorem q_q_X12_253 : Cond.constantLong RX12 253 (6383981) ∈ kGW := kin5 (i := 131) rfl rfl
theorem q_m_X12_120 : Cond.methodLink RX12 120 yX12_fails ∈ kGW := kin5 (i := 132) rfl rfl
theorem q_i_X12_fails : Cond.instanceMethod yX12_fails ∈ kGW := kin5 (i := 134) rfl rfl
theorem q_c_X12_fails : Cond.code yX12_fails cX12_fails 3 (some .boolean) ∈ kGW := kin5 (i := 135) rfl rfl
theorem q_m_X12_258 : Cond.methodLink RX12 258 yX12_greenLineHere ∈ kGW := kin5 (i := 136) rfl rfl
theorem q_i_X12_greenLineHere : Cond.instanceMethod yX12_greenLineHere ∈ kGW := kin5 (i := 138) rfl rfl
theorem q_c_X12_greenLineHere : Cond.code yX12_greenLineHere cX12_greenLineHere 2 (some .boolean) ∈ kGW := kin5 (i := 139) rfl rfl
theorem q_m_X12_238 : Cond.methodLink RX12 238 yX12_isGreenHere ∈ kGW := kin5 (i := 140) rfl rfl
theorem q_i_X12_isGreenHere : Cond.instanceMethod yX12_isGreenHere ∈ kGW := kin5 (i := 142) rfl rfl
theorem q_c_X12_isGreenHere : Cond.code yX12_isGreenHere cX12_isGreenHere 2 (some .boolean) ∈ kGW := kin5 (i := 143) rfl rfl
theorem q_m_X12_114 : Cond.methodLink RX12 114 yX12_passWord ∈ kGW := kin5 (i := 144) rfl rfl
theorem q_i_X12_passWord : Cond.instanceMethod yX12_passWord ∈ kGW := kin5 (i := 146) rfl rfl
theorem q_c_X12_passWord : Cond.code yX12_passWord cX12_passWord 1 none ∈ kGW := kin5 (i := 147) rfl rfl
theorem q_m_X12_229 : Cond.methodLink RX12 229 yX12_cellHere ∈ kGW := kin5 (i := 148) rfl rfl
theorem q_i_X12_cellHere : Cond.instanceMethod yX12_cellHere ∈ kGW := kin5 (i := 150) rfl rfl
theorem q_c_X12_cellHere : Cond.code yX12_cellHere cX12_cellHere 4 (some .boolean) ∈ kGW := kin5 (i := 151) rfl rfl
theorem q_m_X12_178 : Cond.methodLink RX12 178 yX12_numberHere ∈ kGW := kin5 (i := 152) rfl rfl
theorem q_i_X12_numberHere : Cond.instanceMethod yX12_numberHere ∈ kGW := kin5 (i := 154) rfl rfl
theorem q_c_X12_numberHere : Cond.code yX12_numberHere cX12_numberHere 5 (some .boolean) ∈ kGW := kin5 (i := 155) rfl rfl
theorem q_m_X12_117 : Cond.methodLink RX12 117 yX12_isDigit ∈ kGW := kin5 (i := 156) rfl rfl
theorem q_i_X12_isDigit : Cond.instanceMethod yX12_isDigit ∈ kGW := kin5 (i := 158) rfl rfl
theorem q_c_X12_isDigit : Cond.code yX12_isDigit cX12_isDigit 2 (some .boolean) ∈ kGW := kin5 (i := 159) rfl rfl
theorem q_m_X12_127 : Cond.methodLink RX12 127 yX12_in ∈ kGW := kin5 (i := 160) rfl rfl
theorem q_s_X12_in : Cond.static yX12_in ∈ kGW := kin5 (i := 161) rfl rfl
theorem q_c_X12_in : Cond.code yX12_in cX12_in 6 (some .boolean) ∈ kGW := kin5 (i := 162) rfl rfl
theorem q_m_X12_241 : Cond.methodLink RX12 241 yX12_isWindHere ∈ kGW := kin5 (i := 163) rfl rfl
theorem q_i_X12_isWindHere : Cond.instanceMethod yX12_isWindHere ∈ kGW := kin5 (i := 165) rfl rfl
theorem q_c_X12_isWindHere : Cond.code yX12_isWindHere cX12_isWindHere 2 (some .boolean) ∈ kGW := kin5 (i := 166) rfl rfl
theorem q_m_X12_244 : Cond.methodLink RX12 244 yX12_isRingHere ∈ kGW := kin5 (i := 167) rfl rfl
theorem q_i_X12_isRingHere : Cond.instanceMethod yX12_isRingHere ∈ kGW := kin5 (i := 169) rfl rfl
theorem q_c_X12_isRingHere : Cond.code yX12_isRingHere cX12_isRingHere 3 (some .boolean) ∈ kGW := kin5 (i := 170) rfl rfl
theorem q_m_X12_233 : Cond.methodLink RX12 233 yX12_isTaken ∈ kGW := kin5 (i := 171) rfl rfl
theorem q_i_X12_isTaken : Cond.instanceMethod yX12_isTaken ∈ kGW := kin5 (i := 173) rfl rfl
theorem q_c_X12_isTaken : Cond.code yX12_isTaken cX12_isTaken 3 (some .boolean) ∈ kGW := kin5 (i := 174) rfl rfl
theorem q_m_X12_247 : Cond.methodLink RX12 247 yX12_isArcherHere ∈ kGW := kin5 (i := 175) rfl rfl
theorem q_i_X12_isArcherHere : Cond.instanceMethod yX12_isArcherHere ∈ kGW := kin5 (i := 177) rfl rfl
theorem q_c_X12_isArcherHere : Cond.code yX12_isArcherHere cX12_isArcherHere 3 (some .boolean) ∈ kGW := kin5 (i := 178) rfl rfl
theorem q_m_X12_261 : Cond.methodLink RX12 261 yX12_isAimHere ∈ kGW := kin5 (i := 179) rfl rfl
theorem q_i_X12_isAimHere : Cond.instanceMethod yX12_isAimHere ∈ kGW := kin5 (i := 181) rfl rfl
theorem q_c_X12_isAimHere : Cond.code yX12_isAimHere cX12_isAimHere 2 (some .boolean) ∈ kGW := kin5 (i := 182) rfl rfl
theorem q_m_X12_194 : Cond.methodLink RX12 194 yX12_sum ∈ kGW := kin5 (i := 183) rfl rfl
theorem q_i_X12_sum : Cond.instanceMethod yX12_sum ∈ kGW := kin5 (i := 185) rfl rfl
theorem q_c_X12_sum : Cond.code yX12_sum cX12_sum 2 (some .boolean) ∈ kGW := kin5 (i := 186) rfl rfl
theorem q_m_X12_191 : Cond.methodLink RX12 191 yX12_term ∈ kGW := kin5 (i := 187) rfl rfl
theorem q_i_X12_term : Cond.instanceMethod yX12_term ∈ kGW := kin5 (i := 189) rfl rfl
theorem q_c_X12_term : Cond.code yX12_term cX12_term 2 (some .boolean) ∈ kGW := kin5 (i := 190) rfl rfl
theorem q_m_X12_187 : Cond.methodLink RX12 187 yX12_value ∈ kGW := kin5 (i := 191) rfl rfl
theorem q_i_X12_value : Cond.instanceMethod yX12_value ∈ kGW := kin5 (i := 193) rfl rfl
theorem q_c_X12_value : Cond.code yX12_value cX12_value 3 (some .boolean) ∈ kGW := kin5 (i := 194) rfl rfl
theorem q_q_X12_177 : Cond.constant RX12 177 (99999) ∈ kGW := kin5 (i := 195) rfl rfl
theorem q_m_X12_181 : Cond.methodLink RX12 181 yX12_makes ∈ kGW := kin5 (i := 196) rfl rfl
theorem q_i_X12_makes : Cond.instanceMethod yX12_makes ∈ kGW := kin5 (i := 198) rfl rfl
theorem q_c_X12_makes : Cond.code yX12_makes cX12_makes 2 (some .boolean) ∈ kGW := kin5 (i := 199) rfl rfl
theorem q_m_X12_173 : Cond.methodLink RX12 173 yX12_puts ∈ kGW := kin5 (i := 200) rfl rfl
theorem q_i_X12_puts : Cond.instanceMethod yX12_puts ∈ kGW := kin5 (i := 202) rfl rfl
theorem q_c_X12_puts : Cond.code yX12_puts cX12_puts 3 none ∈ kGW := kin5 (i := 203) rfl rfl
theorem q_m_X12_184 : Cond.methodLink RX12 184 yX12_wordHere ∈ kGW := kin5 (i := 204) rfl rfl
theorem q_i_X12_wordHere : Cond.instanceMethod yX12_wordHere ∈ kGW := kin5 (i := 206) rfl rfl
theorem q_c_X12_wordHere : Cond.code yX12_wordHere cX12_wordHere 1 (some .int) ∈ kGW := kin5 (i := 207) rfl rfl
theorem q_q_X12_135 : Cond.constantLong RX12 135 (7305070) ∈ kGW := kin5 (i := 208) rfl rfl
theorem q_q_X12_137 : Cond.constantLong RX12 137 (482854658917) ∈ kGW := kin5 (i := 209) rfl rfl
theorem q_q_X12_139 : Cond.constantLong RX12 139 (435426649459) ∈ kGW := kin5 (i := 210) rfl rfl
theorem q_q_X12_141 : Cond.constantLong RX12 141 (495875089259) ∈ kGW := kin5 (i := 211) rfl rfl
theorem q_q_X12_143 : Cond.constantLong RX12 143 (495723310188) ∈ kGW := kin5 (i := 212) rfl rfl
theorem q_q_X12_145 : Cond.constantLong RX12 145 (1635213689) ∈ kGW := kin5 (i := 213) rfl rfl
theorem q_q_X12_147 : Cond.constantLong RX12 147 (6909036) ∈ kGW := kin5 (i := 214) rfl rfl
theorem q_q_X12_149 : Cond.constantLong RX12 149 (107144174073715) ∈ kGW := kin5 (i := 215) rfl rfl
theorem q_q_X12_153 : Cond.constantLong RX12 153 (431416239732) ∈ kGW := kin5 (i := 216) rfl rfl
theorem q_q_X12_155 : Cond.constantLong RX12 155 (491496238692) ∈ kGW := kin5 (i := 217) rfl rfl
theorem q_q_X12_221 : Cond.constantLong RX12 221 (26982) ∈ kGW := kin5 (i := 218) rfl rfl
theorem q_m_X12_223 : Cond.methodLink RX12 223 yX12_takesWord ∈ kGW := kin5 (i := 219) rfl rfl
theorem q_i_X12_takesWord : Cond.instanceMethod yX12_takesWord ∈ kGW := kin5 (i := 221) rfl rfl
theorem q_c_X12_takesWord : Cond.code yX12_takesWord cX12_takesWord 3 (some .boolean) ∈ kGW := kin5 (i := 222) rfl rfl
theorem q_m_X12_226 : Cond.methodLink RX12 226 yX12_tested ∈ kGW := kin5 (i := 223) rfl rfl
theorem q_i_X12_tested : Cond.instanceMethod yX12_tested ∈ kGW := kin5 (i := 225) rfl rfl
theorem q_c_X12_tested : Cond.code yX12_tested cX12_tested 3 (some .boolean) ∈ kGW := kin5 (i := 226) rfl rfl
theorem q_m_X12_211 : Cond.methodLink RX12 211 yX12_fact ∈ kGW := kin5 (i := 227) rfl rfl
theorem q_i_X12_fact : Cond.instanceMethod yX12_fact ∈ kGW := kin5 (i := 229) rfl rfl
theorem q_c_X12_fact : Cond.code yX12_fact cX12_fact 3 (some .boolean) ∈ kGW := kin5 (i := 230) rfl rfl
theorem q_q_X12_197 : Cond.constantLong RX12 197 (7237492) ∈ kGW := kin5 (i := 231) rfl rfl
theorem q_m_X12_199 : Cond.methodLink RX12 199 yX12_opens ∈ kGW := kin5 (i := 232) rfl rfl
theorem q_i_X12_opens : Cond.instanceMethod yX12_opens ∈ kGW := kin5 (i := 234) rfl rfl
theorem q_c_X12_opens : Cond.code yX12_opens cX12_opens 2 (some .boolean) ∈ kGW := kin5 (i := 235) rfl rfl
theorem q_m_X12_202 : Cond.methodLink RX12 202 yX12_compare ∈ kGW := kin5 (i := 236) rfl rfl
theorem q_i_X12_compare : Cond.instanceMethod yX12_compare ∈ kGW := kin5 (i := 238) rfl rfl
theorem q_c_X12_compare : Cond.code yX12_compare cX12_compare 5 (some .boolean) ∈ kGW := kin5 (i := 239) rfl rfl
theorem q_m_X12_214 : Cond.methodLink RX12 214 yX12_closes ∈ kGW := kin6 (i := 0) rfl rfl
theorem q_i_X12_closes : Cond.instanceMethod yX12_closes ∈ kGW := kin6 (i := 2) rfl rfl
theorem q_c_X12_closes : Cond.code yX12_closes cX12_closes 1 none ∈ kGW := kin6 (i := 3) rfl rfl
theorem q_m_X12_205 : Cond.methodLink RX12 205 yX12_layDown ∈ kGW := kin6 (i := 4) rfl rfl
theorem q_i_X12_layDown : Cond.instanceMethod yX12_layDown ∈ kGW := kin6 (i := 6) rfl rfl
theorem q_c_X12_layDown : Cond.code yX12_layDown cX12_layDown 2 none ∈ kGW := kin6 (i := 7) rfl rfl
theorem q_m_X12_169 : Cond.methodLink RX12 169 yX12_strength ∈ kGW := kin6 (i := 8) rfl rfl
theorem q_s_X12_strength : Cond.static yX12_strength ∈ kGW := kin6 (i := 9) rfl rfl
theorem q_c_X12_strength : Cond.code yX12_strength cX12_strength 1 (some .int) ∈ kGW := kin6 (i := 10) rfl rfl
theorem q_m_X12_208 : Cond.methodLink RX12 208 yX12_isInside ∈ kGW := kin6 (i := 11) rfl rfl
theorem q_i_X12_isInside : Cond.instanceMethod yX12_isInside ∈ kGW := kin6 (i := 13) rfl rfl
theorem q_c_X12_isInside : Cond.code yX12_isInside cX12_isInside 2 (some .boolean) ∈ kGW := kin6 (i := 14) rfl rfl
theorem q_q_X12_217 : Cond.constantLong RX12 217 (6385252) ∈ kGW := kin6 (i := 15) rfl rfl
theorem q_q_X12_219 : Cond.constantLong RX12 219 (28530) ∈ kGW := kin6 (i := 16) rfl rfl
theorem q_m_L_27 : Cond.methodLink RL 27 yX12_green ∈ kGW := kin6 (i := 17) rfl rfl
theorem q_i_X12_green : Cond.instanceMethod yX12_green ∈ kGW := kin6 (i := 18) rfl rfl
theorem q_s_X12_green : Cond.selects RX12 yX12_green yX12_green ∈ kGW := kin6 (i := 19) rfl rfl
theorem q_c_X12_green : Cond.code yX12_green cX12_green 2 (some .int) ∈ kGW := kin6 (i := 20) rfl rfl
theorem q_m_X12_273 : Cond.methodLink RX12 273 yX12_begins ∈ kGW := kin6 (i := 21) rfl rfl
theorem q_i_X12_begins : Cond.instanceMethod yX12_begins ∈ kGW := kin6 (i := 23) rfl rfl
theorem q_c_X12_begins : Cond.code yX12_begins cX12_begins 3 none ∈ kGW := kin6 (i := 24) rfl rfl
theorem q_m_L_35 : Cond.methodLink RL 35 yX12_force ∈ kGW := kin6 (i := 25) rfl rfl
theorem q_i_X12_force : Cond.instanceMethod yX12_force ∈ kGW := kin6 (i := 26) rfl rfl
theorem q_s_X12_force : Cond.selects RX12 yX12_force yX12_force ∈ kGW := kin6 (i := 27) rfl rfl
theorem q_c_X12_force : Cond.code yX12_force cX12_force 3 (some .int) ∈ kGW := kin6 (i := 28) rfl rfl
theorem q_m_X12_306 : Cond.methodLink RX12 306 yX12_isRule ∈ kGW := kin6 (i := 29) rfl rfl
theorem q_i_X12_isRule : Cond.instanceMethod yX12_isRule ∈ kGW := kin6 (i := 31) rfl rfl
theorem q_c_X12_isRule : Cond.code yX12_isRule cX12_isRule 2 (some .boolean) ∈ kGW := kin6 (i := 32) rfl rfl
theorem q_m_L_40 : Cond.methodLink RL 40 yX12_ring ∈ kGW := kin6 (i := 33) rfl rfl
theorem q_i_X12_ring : Cond.instanceMethod yX12_ring ∈ kGW := kin6 (i := 34) rfl rfl
theorem q_s_X12_ring : Cond.selects RX12 yX12_ring yX12_ring ∈ kGW := kin6 (i := 35) rfl rfl
theorem q_c_X12_ring : Cond.code yX12_ring cX12_ring 3 (some .int) ∈ kGW := kin6 (i := 36) rfl rfl
theorem q_m_X12_309 : Cond.methodLink RX12 309 yX12_isRing ∈ kGW := kin6 (i := 37) rfl rfl
theorem q_i_X12_isRing : Cond.instanceMethod yX12_isRing ∈ kGW := kin6 (i := 39) rfl rfl
theorem q_c_X12_isRing : Cond.code yX12_isRing cX12_isRing 2 (some .boolean) ∈ kGW := kin6 (i := 40) rfl rfl
theorem q_q_X12_312 : Cond.constantLong RX12 312 (2) ∈ kGW := kin6 (i := 41) rfl rfl
theorem q_m_L_44 : Cond.methodLink RL 44 yX12_archer ∈ kGW := kin6 (i := 42) rfl rfl
theorem q_i_X12_archer : Cond.instanceMethod yX12_archer ∈ kGW := kin6 (i := 43) rfl rfl
theorem q_s_X12_archer : Cond.selects RX12 yX12_archer yX12_archer ∈ kGW := kin6 (i := 44) rfl rfl
theorem q_c_X12_archer : Cond.code yX12_archer cX12_archer 3 (some .int) ∈ kGW := kin6 (i := 45) rfl rfl
theorem q_m_X12_314 : Cond.methodLink RX12 314 yX12_isArcher ∈ kGW := kin6 (i := 46) rfl rfl
theorem q_i_X12_isArcher : Cond.instanceMethod yX12_isArcher ∈ kGW := kin6 (i := 48) rfl rfl
theorem q_c_X12_isArcher : Cond.code yX12_isArcher cX12_isArcher 2 (some .boolean) ∈ kGW := kin6 (i := 49) rfl rfl
theorem q_m_X12_303 : Cond.methodLink RX12 303 yX12_skillOf ∈ kGW := kin6 (i := 50) rfl rfl
theorem q_i_X12_skillOf : Cond.instanceMethod yX12_skillOf ∈ kGW := kin6 (i := 52) rfl rfl
theorem q_c_X12_skillOf : Cond.code yX12_skillOf cX12_skillOf 2 (some .int) ∈ kGW := kin6 (i := 53) rfl rfl
theorem q_m_X12_317 : Cond.methodLink RX12 317 yX12_illOf ∈ kGW := kin6 (i := 54) rfl rfl
theorem q_i_X12_illOf : Cond.instanceMethod yX12_illOf ∈ kGW := kin6 (i := 56) rfl rfl
theorem q_c_X12_illOf : Cond.code yX12_illOf cX12_illOf 2 (some .int) ∈ kGW := kin6 (i := 57) rfl rfl
theorem q_m_X12_320 : Cond.methodLink RX12 320 yX12_arrowsOf ∈ kGW := kin6 (i := 58) rfl rfl
theorem q_i_X12_arrowsOf : Cond.instanceMethod yX12_arrowsOf ∈ kGW := kin6 (i := 60) rfl rfl
theorem q_c_X12_arrowsOf : Cond.code yX12_arrowsOf cX12_arrowsOf 2 (some .int) ∈ kGW := kin6 (i := 61) rfl rfl
theorem q_m_L_48 : Cond.methodLink RL 48 yX12_wind ∈ kGW := kin6 (i := 62) rfl rfl
theorem q_i_X12_wind : Cond.instanceMethod yX12_wind ∈ kGW := kin6 (i := 63) rfl rfl
theorem q_s_X12_wind : Cond.selects RX12 yX12_wind yX12_wind ∈ kGW := kin6 (i := 64) rfl rfl
theorem q_c_X12_wind : Cond.code yX12_wind cX12_wind 2 (some .int) ∈ kGW := kin6 (i := 65) rfl rfl
theorem q_m_X12_323 : Cond.methodLink RX12 323 yX12_comingRound ∈ kGW := kin6 (i := 66) rfl rfl
theorem q_i_X12_comingRound : Cond.instanceMethod yX12_comingRound ∈ kGW := kin6 (i := 68) rfl rfl
theorem q_c_X12_comingRound : Cond.code yX12_comingRound cX12_comingRound 1 (some .int) ∈ kGW := kin6 (i := 69) rfl rfl
theorem q_m_X12_294 : Cond.methodLink RX12 294 yX12_isGreen ∈ kGW := kin6 (i := 70) rfl rfl
theorem q_i_X12_isGreen : Cond.instanceMethod yX12_isGreen ∈ kGW := kin6 (i := 72) rfl rfl
theorem q_c_X12_isGreen : Cond.code yX12_isGreen cX12_isGreen 1 (some .boolean) ∈ kGW := kin6 (i := 73) rfl rfl
theorem q_m_X12_297 : Cond.methodLink RX12 297 yX12_windOn ∈ kGW := kin6 (i := 74) rfl rfl
theorem q_i_X12_windOn : Cond.instanceMethod yX12_windOn ∈ kGW := kin6 (i := 76) rfl rfl
theorem q_c_X12_windOn : Cond.code yX12_windOn cX12_windOn 2 (some .int) ∈ kGW := kin6 (i := 77) rfl rfl
theorem q_m_L_72 : Cond.methodLink RL 72 yX12_undo ∈ kGW := kin6 (i := 78) rfl rfl
theorem q_i_X12_undo : Cond.instanceMethod yX12_undo ∈ kGW := kin6 (i := 79) rfl rfl
theorem q_s_X12_undo : Cond.selects RX12 yX12_undo yX12_undo ∈ kGW := kin6 (i := 80) rfl rfl
theorem q_c_X12_undo : Cond.code yX12_undo cX12_undo 2 (some .int) ∈ kGW := kin6 (i := 81) rfl rfl
theorem q_m_L_52 : Cond.methodLink RL 52 yX12_round ∈ kGW := kin6 (i := 82) rfl rfl
theorem q_i_X12_round : Cond.instanceMethod yX12_round ∈ kGW := kin6 (i := 83) rfl rfl
theorem q_s_X12_round : Cond.selects RX12 yX12_round yX12_round ∈ kGW := kin6 (i := 84) rfl rfl
theorem q_c_X12_round : Cond.code yX12_round cX12_round 1 (some .int) ∈ kGW := kin6 (i := 85) rfl rfl
theorem q_m_X12_363 : Cond.methodLink RX12 363 yX12_keepsAct ∈ kGW := kin6 (i := 86) rfl rfl
theorem q_i_X12_keepsAct : Cond.instanceMethod yX12_keepsAct ∈ kGW := kin6 (i := 88) rfl rfl
theorem q_c_X12_keepsAct : Cond.code yX12_keepsAct cX12_keepsAct 2 none ∈ kGW := kin6 (i := 89) rfl rfl
theorem q_m_X12_360 : Cond.methodLink RX12 360 yX12_passes ∈ kGW := kin6 (i := 90) rfl rfl
theorem q_i_X12_passes : Cond.instanceMethod yX12_passes ∈ kGW := kin6 (i := 92) rfl rfl
theorem q_c_X12_passes : Cond.code yX12_passes cX12_passes 3 (some .int) ∈ kGW := kin6 (i := 93) rfl rfl
theorem q_m_X12_357 : Cond.methodLink RX12 357 yX12_turnOf ∈ kGW := kin6 (i := 94) rfl rfl
theorem q_i_X12_turnOf : Cond.instanceMethod yX12_turnOf ∈ kGW := kin6 (i := 96) rfl rfl
theorem q_c_X12_turnOf : Cond.code yX12_turnOf cX12_turnOf 3 (some .boolean) ∈ kGW := kin6 (i := 97) rfl rfl
theorem q_m_X12_351 : Cond.methodLink RX12 351 yX12_choice ∈ kGW := kin6 (i := 98) rfl rfl
theorem q_i_X12_choice : Cond.instanceMethod yX12_choice ∈ kGW := kin6 (i := 100) rfl rfl
theorem q_c_X12_choice : Cond.code yX12_choice cX12_choice 8 (some .int) ∈ kGW := kin6 (i := 101) rfl rfl
theorem q_m_X12_337 : Cond.methodLink RX12 337 yX12_sumOf ∈ kGW := kin6 (i := 102) rfl rfl
theorem q_i_X12_sumOf : Cond.instanceMethod yX12_sumOf ∈ kGW := kin6 (i := 104) rfl rfl
theorem q_c_X12_sumOf : Cond.code yX12_sumOf cX12_sumOf 3 (some .long) ∈ kGW := kin6 (i := 105) rfl rfl
theorem q_m_X12_300 : Cond.methodLink RX12 300 yX12_windNow ∈ kGW := kin6 (i := 106) rfl rfl
theorem q_i_X12_windNow : Cond.instanceMethod yX12_windNow ∈ kGW := kin6 (i := 108) rfl rfl
theorem q_c_X12_windNow : Cond.code yX12_windNow cX12_windNow 1 (some .int) ∈ kGW := kin6 (i := 109) rfl rfl
theorem q_m_X12_330 : Cond.methodLink RX12 330 yX12_driftOf ∈ kGW := kin6 (i := 110) rfl rfl
theorem q_i_X12_driftOf : Cond.instanceMethod yX12_driftOf ∈ kGW := kin6 (i := 112) rfl rfl
theorem q_c_X12_driftOf : Cond.code yX12_driftOf cX12_driftOf 2 (some .int) ∈ kGW := kin6 (i := 113) rfl rfl
theorem q_m_X12_333 : Cond.methodLink RX12 333 yX12_summedBy ∈ kGW := kin6 (i := 114) rfl rfl
theorem q_i_X12_summedBy : Cond.instanceMethod yX12_summedBy ∈ kGW := kin6 (i := 116) rfl rfl
theorem q_c_X12_summedBy : Cond.code yX12_summedBy cX12_summedBy 4 (some .long) ∈ kGW := kin6 (i := 117) rfl rfl
theorem q_m_X12_326 : Cond.methodLink RX12 326 yX12_reckons ∈ kGW := kin6 (i := 118) rfl rfl
theorem q_i_X12_reckons : Cond.instanceMethod yX12_reckons ∈ kGW := kin6 (i := 120) rfl rfl
theorem q_c_X12_reckons : Cond.code yX12_reckons cX12_reckons 11 (some .long) ∈ kGW := kin6 (i := 121) rfl rfl
theorem q_m_X12_282 : Cond.methodLink RX12 282 yX12_push ∈ kGW := kin6 (i := 122) rfl rfl
theorem q_i_X12_push : Cond.instanceMethod yX12_push ∈ kGW := kin6 (i := 124) rfl rfl
theorem q_c_X12_push : Cond.code yX12_push cX12_push 3 none ∈ kGW := kin6 (i := 125) rfl rfl
theorem q_m_X12_286 : Cond.methodLink RX12 286 yX12_pop ∈ kGW := kin6 (i := 126) rfl rfl
theorem q_i_X12_pop : Cond.instanceMethod yX12_pop ∈ kGW := kin6 (i := 128) rfl rfl
theorem q_c_X12_pop : Cond.code yX12_pop cX12_pop 1 (some .long) ∈ kGW := kin6 (i := 129) rfl rfl
theorem q_m_X12_290 : Cond.methodLink RX12 290 yX12_one ∈ kGW := kin6 (i := 130) rfl rfl
theorem q_s_X12_one : Cond.static yX12_one ∈ kGW := kin6 (i := 131) rfl rfl
theorem q_c_X12_one : Cond.code yX12_one cX12_one 5 (some .long) ∈ kGW := kin6 (i := 132) rfl rfl
theorem q_m_X12_354 : Cond.methodLink RX12 354 yX12_shoots ∈ kGW := kin6 (i := 133) rfl rfl
theorem q_i_X12_shoots : Cond.instanceMethod yX12_shoots ∈ kGW := kin6 (i := 135) rfl rfl
theorem q_c_X12_shoots : Cond.code yX12_shoots cX12_shoots 5 (some .int) ∈ kGW := kin6 (i := 136) rfl rfl
theorem q_m_X12_341 : Cond.methodLink RX12 341 yX12_downOf ∈ kGW := kin6 (i := 137) rfl rfl
theorem q_i_X12_downOf : Cond.instanceMethod yX12_downOf ∈ kGW := kin6 (i := 139) rfl rfl
theorem q_c_X12_downOf : Cond.code yX12_downOf cX12_downOf 4 (some .int) ∈ kGW := kin6 (i := 140) rfl rfl
theorem q_m_X12_345 : Cond.methodLink RX12 345 yX12_ringAt ∈ kGW := kin6 (i := 141) rfl rfl
theorem q_i_X12_ringAt : Cond.instanceMethod yX12_ringAt ∈ kGW := kin6 (i := 143) rfl rfl
theorem q_c_X12_ringAt : Cond.code yX12_ringAt cX12_ringAt 3 (some .int) ∈ kGW := kin6 (i := 144) rfl rfl
theorem q_m_X12_348 : Cond.methodLink RX12 348 yX12_eases1 ∈ kGW := kin6 (i := 145) rfl rfl
theorem q_i_X12_eases1 : Cond.instanceMethod yX12_eases1 ∈ kGW := kin6 (i := 147) rfl rfl
theorem q_c_X12_eases1 : Cond.code yX12_eases1 cX12_eases1 3 none ∈ kGW := kin6 (i := 148) rfl rfl
theorem q_m_L_56 : Cond.methodLink RL 56 yX12_shoot ∈ kGW := kin6 (i := 149) rfl rfl
theorem q_i_X12_shoot : Cond.instanceMethod yX12_shoot ∈ kGW := kin6 (i := 150) rfl rfl
theorem q_s_X12_shoot : Cond.selects RX12 yX12_shoot yX12_shoot ∈ kGW := kin6 (i := 151) rfl rfl
theorem q_c_X12_shoot : Cond.code yX12_shoot cX12_shoot 4 (some .int) ∈ kGW := kin6 (i := 152) rfl rfl
theorem q_m_L_60 : Cond.methodLink RL 60 yX12_pull ∈ kGW := kin6 (i := 153) rfl rfl
theorem q_i_X12_pull : Cond.instanceMethod yX12_pull ∈ kGW := kin6 (i := 154) rfl rfl
theorem q_s_X12_pull : Cond.selects RX12 yX12_pull yX12_pull ∈ kGW := kin6 (i := 155) rfl rfl
theorem q_c_X12_pull : Cond.code yX12_pull cX12_pull 4 (some .int) ∈ kGW := kin6 (i := 156) rfl rfl
theorem q_m_L_64 : Cond.methodLink RL 64 yX12_breath ∈ kGW := kin6 (i := 157) rfl rfl
theorem q_i_X12_breath : Cond.instanceMethod yX12_breath ∈ kGW := kin6 (i := 158) rfl rfl
theorem q_s_X12_breath : Cond.selects RX12 yX12_breath yX12_breath ∈ kGW := kin6 (i := 159) rfl rfl
theorem q_c_X12_breath : Cond.code yX12_breath cX12_breath 2 (some .int) ∈ kGW := kin6 (i := 160) rfl rfl
theorem q_q_X12_366 : Cond.constantLong RX12 366 (20) ∈ kGW := kin6 (i := 161) rfl rfl
theorem q_m_L_68 : Cond.methodLink RL 68 yX12_teach ∈ kGW := kin6 (i := 162) rfl rfl
theorem q_i_X12_teach : Cond.instanceMethod yX12_teach ∈ kGW := kin6 (i := 163) rfl rfl
theorem q_s_X12_teach : Cond.selects RX12 yX12_teach yX12_teach ∈ kGW := kin6 (i := 164) rfl rfl
theorem q_c_X12_teach : Cond.code yX12_teach cX12_teach 4 (some .int) ∈ kGW := kin6 (i := 165) rfl rfl
theorem q_q_X12_368 : Cond.constantLong RX12 368 (9) ∈ kGW := kin6 (i := 166) rfl rfl
theorem q_m_L_77 : Cond.methodLink RL 77 yX12_ahead ∈ kGW := kin6 (i := 167) rfl rfl
theorem q_i_X12_ahead : Cond.instanceMethod yX12_ahead ∈ kGW := kin6 (i := 168) rfl rfl
theorem q_s_X12_ahead : Cond.selects RX12 yX12_ahead yX12_ahead ∈ kGW := kin6 (i := 169) rfl rfl
theorem q_c_X12_ahead : Cond.code yX12_ahead cX12_ahead 5 (some .int) ∈ kGW := kin6 (i := 170) rfl rfl
theorem q_q_X12_370 : Cond.constantLong RX12 370 (100) ∈ kGW := kin6 (i := 171) rfl rfl
theorem q_m_X12_372 : Cond.methodLink RX12 372 yX12_keeps ∈ kGW := kin6 (i := 172) rfl rfl
theorem q_i_X12_keeps : Cond.instanceMethod yX12_keeps ∈ kGW := kin6 (i := 174) rfl rfl
theorem q_c_X12_keeps : Cond.code yX12_keeps cX12_keeps 2 none ∈ kGW := kin6 (i := 175) rfl rfl
theorem q_m_X12_375 : Cond.methodLink RX12 375 yX12_passesAll ∈ kGW := kin6 (i := 176) rfl rfl
theorem q_i_X12_passesAll : Cond.instanceMethod yX12_passesAll ∈ kGW := kin6 (i := 178) rfl rfl
theorem q_c_X12_passesAll : Cond.code yX12_passesAll cX12_passesAll 3 none ∈ kGW := kin6 (i := 179) rfl rfl
theorem q_m_X12_378 : Cond.methodLink RX12 378 yX12_laysBack ∈ kGW := kin6 (i := 180) rfl rfl
theorem q_i_X12_laysBack : Cond.instanceMethod yX12_laysBack ∈ kGW := kin6 (i := 182) rfl rfl
theorem q_c_X12_laysBack : Cond.code yX12_laysBack cX12_laysBack 2 none ∈ kGW := kin6 (i := 183) rfl rfl
theorem q_m_L_81 : Cond.methodLink RL 81 yX12_eased ∈ kGW := kin6 (i := 184) rfl rfl
theorem q_i_X12_eased : Cond.instanceMethod yX12_eased ∈ kGW := kin6 (i := 185) rfl rfl
theorem q_s_X12_eased : Cond.selects RX12 yX12_eased yX12_eased ∈ kGW := kin6 (i := 186) rfl rfl
theorem q_c_X12_eased : Cond.code yX12_eased cX12_eased 2 (some .int) ∈ kGW := kin6 (i := 187) rfl rfl
theorem q_m_X12_384 : Cond.methodLink RX12 384 yX12_easedIn ∈ kGW := kin6 (i := 188) rfl rfl
theorem q_i_X12_easedIn : Cond.instanceMethod yX12_easedIn ∈ kGW := kin6 (i := 190) rfl rfl
theorem q_c_X12_easedIn : Cond.code yX12_easedIn cX12_easedIn 4 (some .int) ∈ kGW := kin6 (i := 191) rfl rfl
theorem q_m_X12_381 : Cond.methodLink RX12 381 yX12_sumOver ∈ kGW := kin6 (i := 192) rfl rfl
theorem q_i_X12_sumOver : Cond.instanceMethod yX12_sumOver ∈ kGW := kin6 (i := 194) rfl rfl
theorem q_c_X12_sumOver : Cond.code yX12_sumOver cX12_sumOver 4 (some .int) ∈ kGW := kin6 (i := 195) rfl rfl
theorem q_m_L_85 : Cond.methodLink RL 85 yX12_allEased ∈ kGW := kin6 (i := 196) rfl rfl
theorem q_i_X12_allEased : Cond.instanceMethod yX12_allEased ∈ kGW := kin6 (i := 197) rfl rfl
theorem q_s_X12_allEased : Cond.selects RX12 yX12_allEased yX12_allEased ∈ kGW := kin6 (i := 198) rfl rfl
theorem q_c_X12_allEased : Cond.code yX12_allEased cX12_allEased 1 (some .int) ∈ kGW := kin6 (i := 199) rfl rfl
theorem q_m_L_89 : Cond.methodLink RL 89 yX12_down ∈ kGW := kin6 (i := 200) rfl rfl
theorem q_i_X12_down : Cond.instanceMethod yX12_down ∈ kGW := kin6 (i := 201) rfl rfl
theorem q_s_X12_down : Cond.selects RX12 yX12_down yX12_down ∈ kGW := kin6 (i := 202) rfl rfl
theorem q_c_X12_down : Cond.code yX12_down cX12_down 4 (some .int) ∈ kGW := kin6 (i := 203) rfl rfl
theorem q_m_L_93 : Cond.methodLink RL 93 yX12_bestAim ∈ kGW := kin6 (i := 204) rfl rfl
theorem q_i_X12_bestAim : Cond.instanceMethod yX12_bestAim ∈ kGW := kin6 (i := 205) rfl rfl
theorem q_s_X12_bestAim : Cond.selects RX12 yX12_bestAim yX12_bestAim ∈ kGW := kin6 (i := 206) rfl rfl
theorem q_c_X12_bestAim : Cond.code yX12_bestAim cX12_bestAim 6 (some .int) ∈ kGW := kin6 (i := 207) rfl rfl
theorem q_m_X12_387 : Cond.methodLink RX12 387 yX12_easeBy ∈ kGW := kin6 (i := 208) rfl rfl
theorem q_i_X12_easeBy : Cond.instanceMethod yX12_easeBy ∈ kGW := kin6 (i := 210) rfl rfl
theorem q_c_X12_easeBy : Cond.code yX12_easeBy cX12_easeBy 5 (some .int) ∈ kGW := kin6 (i := 211) rfl rfl
theorem q_m_L_97 : Cond.methodLink RL 97 yX12_row ∈ kGW := kin6 (i := 212) rfl rfl
theorem q_i_X12_row : Cond.instanceMethod yX12_row ∈ kGW := kin6 (i := 213) rfl rfl
theorem q_s_X12_row : Cond.selects RX12 yX12_row yX12_row ∈ kGW := kin6 (i := 214) rfl rfl
theorem q_c_X12_row : Cond.code yX12_row cX12_row 5 (some .int) ∈ kGW := kin6 (i := 215) rfl rfl
theorem q_q_X12_399 : Cond.constantLong RX12 399 (5) ∈ kGW := kin6 (i := 216) rfl rfl
theorem q_m_X12_401 : Cond.methodLink RX12 401 yX12_findsRow ∈ kGW := kin6 (i := 217) rfl rfl
theorem q_i_X12_findsRow : Cond.instanceMethod yX12_findsRow ∈ kGW := kin6 (i := 219) rfl rfl
theorem q_c_X12_findsRow : Cond.code yX12_findsRow cX12_findsRow 8 (some .int) ∈ kGW := kin6 (i := 220) rfl rfl
theorem q_m_X12_390 : Cond.methodLink RX12 390 yX12_arrowsIn ∈ kGW := kin6 (i := 221) rfl rfl
theorem q_i_X12_arrowsIn : Cond.instanceMethod yX12_arrowsIn ∈ kGW := kin6 (i := 223) rfl rfl
theorem q_c_X12_arrowsIn : Cond.code yX12_arrowsIn cX12_arrowsIn 4 (some .int) ∈ kGW := kin6 (i := 224) rfl rfl
theorem q_m_X12_393 : Cond.methodLink RX12 393 yX12_easeByRow ∈ kGW := kin6 (i := 225) rfl rfl
theorem q_i_X12_easeByRow : Cond.instanceMethod yX12_easeByRow ∈ kGW := kin6 (i := 227) rfl rfl
theorem q_c_X12_easeByRow : Cond.code yX12_easeByRow cX12_easeByRow 5 (some .int) ∈ kGW := kin6 (i := 228) rfl rfl
theorem q_m_X12_396 : Cond.methodLink RX12 396 yX12_nextRow ∈ kGW := kin6 (i := 229) rfl rfl
theorem q_i_X12_nextRow : Cond.instanceMethod yX12_nextRow ∈ kGW := kin6 (i := 231) rfl rfl
theorem q_c_X12_nextRow : Cond.code yX12_nextRow cX12_nextRow 3 (some .boolean) ∈ kGW := kin6 (i := 232) rfl rfl
theorem q_m_L_101 : Cond.methodLink RL 101 yX12_hold ∈ kGW := kin6 (i := 233) rfl rfl
theorem q_i_X12_hold : Cond.instanceMethod yX12_hold ∈ kGW := kin6 (i := 234) rfl rfl
theorem q_s_X12_hold : Cond.selects RX12 yX12_hold yX12_hold ∈ kGW := kin6 (i := 235) rfl rfl
theorem q_c_X12_hold : Cond.code yX12_hold cX12_hold 4 (some .int) ∈ kGW := kin6 (i := 236) rfl rfl
theorem q_m_L_105 : Cond.methodLink RL 105 yX12_leastSkill ∈ kGW := kin6 (i := 237) rfl rfl
theorem q_i_X12_leastSkill : Cond.instanceMethod yX12_leastSkill ∈ kGW := kin6 (i := 238) rfl rfl
theorem q_s_X12_leastSkill : Cond.selects RX12 yX12_leastSkill yX12_leastSkill ∈ kGW := kin6 (i := 239) rfl rfl
theorem q_c_X12_leastSkill : Cond.code yX12_leastSkill cX12_leastSkill 5 (some .int) ∈ kGW := kin7 (i := 0) rfl rfl
theorem q_q_X12_404 : Cond.constantLong RX12 404 (40) ∈ kGW := kin7 (i := 1) rfl rfl
theorem q_m_L_109 : Cond.methodLink RL 109 yX12_set ∈ kGW := kin7 (i := 2) rfl rfl
theorem q_i_X12_set : Cond.instanceMethod yX12_set ∈ kGW := kin7 (i := 3) rfl rfl
theorem q_s_X12_set : Cond.selects RX12 yX12_set yX12_set ∈ kGW := kin7 (i := 4) rfl rfl
theorem q_c_X12_set : Cond.code yX12_set cX12_set 8 (some .int) ∈ kGW := kin7 (i := 5) rfl rfl
theorem q_m_X12_406 : Cond.methodLink RX12 406 yX12_easeIn ∈ kGW := kin7 (i := 6) rfl rfl
theorem q_i_X12_easeIn : Cond.instanceMethod yX12_easeIn ∈ kGW := kin7 (i := 8) rfl rfl
theorem q_c_X12_easeIn : Cond.code yX12_easeIn cX12_easeIn 4 (some .int) ∈ kGW := kin7 (i := 9) rfl rfl
theorem q_m_L_113 : Cond.methodLink RL 113 yX12_given ∈ kGW := kin7 (i := 10) rfl rfl
theorem q_i_X12_given : Cond.instanceMethod yX12_given ∈ kGW := kin7 (i := 11) rfl rfl
theorem q_s_X12_given : Cond.selects RX12 yX12_given yX12_given ∈ kGW := kin7 (i := 12) rfl rfl
theorem q_c_X12_given : Cond.code yX12_given cX12_given 7 (some .int) ∈ kGW := kin7 (i := 13) rfl rfl
theorem q_m_X12_409 : Cond.methodLink RX12 409 yX12_givesAll ∈ kGW := kin7 (i := 14) rfl rfl
theorem q_i_X12_givesAll : Cond.instanceMethod yX12_givesAll ∈ kGW := kin7 (i := 16) rfl rfl
theorem q_c_X12_givesAll : Cond.code yX12_givesAll cX12_givesAll 4 none ∈ kGW := kin7 (i := 17) rfl rfl
theorem q_m_L_126 : Cond.methodLink RL 126 yX12_rests ∈ kGW := kin7 (i := 18) rfl rfl
theorem q_i_X12_rests : Cond.instanceMethod yX12_rests ∈ kGW := kin7 (i := 19) rfl rfl
theorem q_s_X12_rests : Cond.selects RX12 yX12_rests yX12_rests ∈ kGW := kin7 (i := 20) rfl rfl
theorem q_c_X12_rests : Cond.code yX12_rests cX12_rests 9 (some .int) ∈ kGW := kin7 (i := 21) rfl rfl
theorem q_m_X12_415 : Cond.methodLink RX12 415 yX12_fillsRest ∈ kGW := kin7 (i := 22) rfl rfl
theorem q_i_X12_fillsRest : Cond.instanceMethod yX12_fillsRest ∈ kGW := kin7 (i := 24) rfl rfl
theorem q_c_X12_fillsRest : Cond.code yX12_fillsRest cX12_fillsRest 9 none ∈ kGW := kin7 (i := 25) rfl rfl
theorem q_m_X12_412 : Cond.methodLink RX12 412 yX12_hasThen ∈ kGW := kin7 (i := 26) rfl rfl
theorem q_i_X12_hasThen : Cond.instanceMethod yX12_hasThen ∈ kGW := kin7 (i := 28) rfl rfl
theorem q_c_X12_hasThen : Cond.code yX12_hasThen cX12_hasThen 3 (some .int) ∈ kGW := kin7 (i := 29) rfl rfl
theorem q_m_X12_419 : Cond.methodLink RX12 419 yX12_isRest ∈ kGW := kin7 (i := 30) rfl rfl
theorem q_i_X12_isRest : Cond.instanceMethod yX12_isRest ∈ kGW := kin7 (i := 32) rfl rfl
theorem q_c_X12_isRest : Cond.code yX12_isRest cX12_isRest 4 (some .boolean) ∈ kGW := kin7 (i := 33) rfl rfl
theorem q_m_L_130 : Cond.methodLink RL 130 yX12_pence ∈ kGW := kin7 (i := 34) rfl rfl
theorem q_i_X12_pence : Cond.instanceMethod yX12_pence ∈ kGW := kin7 (i := 35) rfl rfl
theorem q_s_X12_pence : Cond.selects RX12 yX12_pence yX12_pence ∈ kGW := kin7 (i := 36) rfl rfl
theorem q_c_X12_pence : Cond.code yX12_pence cX12_pence 13 (some .int) ∈ kGW := kin7 (i := 37) rfl rfl
theorem q_q_X12_422 : Cond.constantLong RX12 422 (9999) ∈ kGW := kin7 (i := 38) rfl rfl
theorem q_m_L_134 : Cond.methodLink RL 134 yX12_note ∈ kGW := kin7 (i := 39) rfl rfl
theorem q_i_X12_note : Cond.instanceMethod yX12_note ∈ kGW := kin7 (i := 40) rfl rfl
theorem q_s_X12_note : Cond.selects RX12 yX12_note yX12_note ∈ kGW := kin7 (i := 41) rfl rfl
theorem q_c_X12_note : Cond.code yX12_note cX12_note 5 (some .int) ∈ kGW := kin7 (i := 42) rfl rfl
theorem q_q_X12_424 : Cond.constantLong RX12 424 (-1) ∈ kGW := kin7 (i := 43) rfl rfl
theorem q_m_L_138 : Cond.methodLink RL 138 yX12_ruled ∈ kGW := kin7 (i := 44) rfl rfl
theorem q_i_X12_ruled : Cond.instanceMethod yX12_ruled ∈ kGW := kin7 (i := 45) rfl rfl
theorem q_s_X12_ruled : Cond.selects RX12 yX12_ruled yX12_ruled ∈ kGW := kin7 (i := 46) rfl rfl
theorem q_c_X12_ruled : Cond.code yX12_ruled cX12_ruled 5 (some .int) ∈ kGW := kin7 (i := 47) rfl rfl
theorem q_m_X12_432 : Cond.methodLink RX12 432 yX12_fillsFits ∈ kGW := kin7 (i := 48) rfl rfl
theorem q_i_X12_fillsFits : Cond.instanceMethod yX12_fillsFits ∈ kGW := kin7 (i := 50) rfl rfl
theorem q_c_X12_fillsFits : Cond.code yX12_fillsFits cX12_fillsFits 4 none ∈ kGW := kin7 (i := 51) rfl rfl
theorem q_m_X12_429 : Cond.methodLink RX12 429 yX12_areAllSo ∈ kGW := kin7 (i := 52) rfl rfl
theorem q_i_X12_areAllSo : Cond.instanceMethod yX12_areAllSo ∈ kGW := kin7 (i := 54) rfl rfl
theorem q_c_X12_areAllSo : Cond.code yX12_areAllSo cX12_areAllSo 6 (some .boolean) ∈ kGW := kin7 (i := 55) rfl rfl
theorem q_m_X12_426 : Cond.methodLink RX12 426 yX12_areNotesSo ∈ kGW := kin7 (i := 56) rfl rfl
theorem q_i_X12_areNotesSo : Cond.instanceMethod yX12_areNotesSo ∈ kGW := kin7 (i := 58) rfl rfl
theorem q_c_X12_areNotesSo : Cond.code yX12_areNotesSo cX12_areNotesSo 3 (some .boolean) ∈ kGW := kin7 (i := 59) rfl rfl
theorem q_m_L_142 : Cond.methodLink RL 142 yX12_look ∈ kGW := kin7 (i := 60) rfl rfl
theorem q_i_X12_look : Cond.instanceMethod yX12_look ∈ kGW := kin7 (i := 61) rfl rfl
theorem q_s_X12_look : Cond.selects RX12 yX12_look yX12_look ∈ kGW := kin7 (i := 62) rfl rfl
theorem q_c_X12_look : Cond.code yX12_look cX12_look 7 (some .int) ∈ kGW := kin7 (i := 63) rfl rfl
theorem q_m_X12_435 : Cond.methodLink RX12 435 yX12_alikeAt ∈ kGW := kin7 (i := 64) rfl rfl
theorem q_i_X12_alikeAt : Cond.instanceMethod yX12_alikeAt ∈ kGW := kin7 (i := 66) rfl rfl
theorem q_c_X12_alikeAt : Cond.code yX12_alikeAt cX12_alikeAt 6 (some .int) ∈ kGW := kin7 (i := 67) rfl rfl
theorem q_m_L_117 : Cond.methodLink RL 117 yX12_skilled ∈ kGW := kin7 (i := 68) rfl rfl
theorem q_i_X12_skilled : Cond.instanceMethod yX12_skilled ∈ kGW := kin7 (i := 69) rfl rfl
theorem q_s_X12_skilled : Cond.selects RX12 yX12_skilled yX12_skilled ∈ kGW := kin7 (i := 70) rfl rfl
theorem q_c_X12_skilled : Cond.code yX12_skilled cX12_skilled 2 (some .int) ∈ kGW := kin7 (i := 71) rfl rfl
theorem q_m_X12_438 : Cond.methodLink RX12 438 yX12_canBe ∈ kGW := kin7 (i := 72) rfl rfl
theorem q_i_X12_canBe : Cond.instanceMethod yX12_canBe ∈ kGW := kin7 (i := 74) rfl rfl
theorem q_c_X12_canBe : Cond.code yX12_canBe cX12_canBe 7 (some .int) ∈ kGW := kin7 (i := 75) rfl rfl
theorem q_m_L_121 : Cond.methodLink RL 121 yX12_ails ∈ kGW := kin7 (i := 76) rfl rfl
theorem q_i_X12_ails : Cond.instanceMethod yX12_ails ∈ kGW := kin7 (i := 77) rfl rfl
theorem q_s_X12_ails : Cond.selects RX12 yX12_ails yX12_ails ∈ kGW := kin7 (i := 78) rfl rfl
theorem q_c_X12_ails : Cond.code yX12_ails cX12_ails 2 (some .int) ∈ kGW := kin7 (i := 79) rfl rfl
theorem q_m_L_146 : Cond.methodLink RL 146 yX12_seed ∈ kGW := kin7 (i := 80) rfl rfl
theorem q_i_X12_seed : Cond.instanceMethod yX12_seed ∈ kGW := kin7 (i := 81) rfl rfl
theorem q_s_X12_seed : Cond.selects RX12 yX12_seed yX12_seed ∈ kGW := kin7 (i := 82) rfl rfl
theorem q_c_X12_seed : Cond.code yX12_seed cX12_seed 3 (some .int) ∈ kGW := kin7 (i := 83) rfl rfl
theorem q_m_L_150 : Cond.methodLink RL 150 yX12_gusts ∈ kGW := kin7 (i := 84) rfl rfl
theorem q_i_X12_gusts : Cond.instanceMethod yX12_gusts ∈ kGW := kin7 (i := 85) rfl rfl
theorem q_s_X12_gusts : Cond.selects RX12 yX12_gusts yX12_gusts ∈ kGW := kin7 (i := 86) rfl rfl
theorem q_c_X12_gusts : Cond.code yX12_gusts cX12_gusts 10 (some .int) ∈ kGW := kin7 (i := 87) rfl rfl
theorem q_q_X12_457 : Cond.constantLong RX12 457 (10) ∈ kGW := kin7 (i := 88) rfl rfl
theorem q_m_X12_459 : Cond.methodLink RX12 459 yX12_draw ∈ kGW := kin7 (i := 89) rfl rfl
theorem q_i_X12_draw : Cond.instanceMethod yX12_draw ∈ kGW := kin7 (i := 91) rfl rfl
theorem q_c_X12_draw : Cond.code yX12_draw cX12_draw 2 (some .int) ∈ kGW := kin7 (i := 92) rfl rfl
theorem q_q_X12_449 : Cond.constantLong RX12 449 (1103515245) ∈ kGW := kin7 (i := 93) rfl rfl
theorem q_q_X12_451 : Cond.constantLong RX12 451 (12345) ∈ kGW := kin7 (i := 94) rfl rfl
theorem q_q_X12_453 : Cond.constantLong RX12 453 (2147483648) ∈ kGW := kin7 (i := 95) rfl rfl
theorem q_q_X12_455 : Cond.constantLong RX12 455 (65536) ∈ kGW := kin7 (i := 96) rfl rfl
theorem q_m_L_154 : Cond.methodLink RL 154 yX12_count ∈ kGW := kin7 (i := 97) rfl rfl
theorem q_i_X12_count : Cond.instanceMethod yX12_count ∈ kGW := kin7 (i := 98) rfl rfl
theorem q_s_X12_count : Cond.selects RX12 yX12_count yX12_count ∈ kGW := kin7 (i := 99) rfl rfl
theorem q_c_X12_count : Cond.code yX12_count cX12_count 2 (some .int) ∈ kGW := kin7 (i := 100) rfl rfl
theorem q_m_L_158 : Cond.methodLink RL 158 yX12_image ∈ kGW := kin7 (i := 101) rfl rfl
theorem q_i_X12_image : Cond.instanceMethod yX12_image ∈ kGW := kin7 (i := 102) rfl rfl
theorem q_s_X12_image : Cond.selects RX12 yX12_image yX12_image ∈ kGW := kin7 (i := 103) rfl rfl
theorem q_c_X12_image : Cond.code yX12_image cX12_image 3 (some .int) ∈ kGW := kin7 (i := 104) rfl rfl
theorem q_q_X12_462 : Cond.constantLong RX12 462 (3) ∈ kGW := kin7 (i := 105) rfl rfl
theorem q_m_L_162 : Cond.methodLink RL 162 yX12_back ∈ kGW := kin7 (i := 106) rfl rfl
theorem q_i_X12_back : Cond.instanceMethod yX12_back ∈ kGW := kin7 (i := 107) rfl rfl
theorem q_s_X12_back : Cond.selects RX12 yX12_back yX12_back ∈ kGW := kin7 (i := 108) rfl rfl
theorem q_c_X12_back : Cond.code yX12_back cX12_back 3 (some .int) ∈ kGW := kin7 (i := 109) rfl rfl
theorem q_f_J0_9 : Cond.fieldLink RJ0 9 "java/lang/String" "value" "[B" ∈ kGW := kin7 (i := 110) rfl rfl
theorem q_f_J0_15 : Cond.fieldLink RJ0 15 "java/lang/String" "coder" "B" ∈ kGW := kin7 (i := 111) rfl rfl
theorem q_s_X10_scanToken : Cond.selects RX10 yX10_scanToken yX10_scanToken ∈ kGW := kinp (i := 0) rfl rfl
theorem q_s_X10_isDigit : Cond.selects RX10 yX10_isDigit yX10_isDigit ∈ kGW := kinp (i := 1) rfl rfl
theorem q_s_X10_scanNumber : Cond.selects RX10 yX10_scanNumber yX10_scanNumber ∈ kGW := kinp (i := 2) rfl rfl
theorem q_s_X10_addToken : Cond.selects RX10 yX10_addToken yX10_addToken ∈ kGW := kinp (i := 3) rfl rfl
theorem q_s_X10_isLetter : Cond.selects RX10 yX10_isLetter yX10_isLetter ∈ kGW := kinp (i := 4) rfl rfl
theorem q_s_X10_scanWord : Cond.selects RX10 yX10_scanWord yX10_scanWord ∈ kGW := kinp (i := 5) rfl rfl
theorem q_s_X10_wordOf : Cond.selects RX10 yX10_wordOf yX10_wordOf ∈ kGW := kinp (i := 6) rfl rfl
theorem q_s_X10_isNamed : Cond.selects RX10 yX10_isNamed yX10_isNamed ∈ kGW := kinp (i := 7) rfl rfl
theorem q_s_X3_readClause : Cond.selects RX3 yX3_readClause yX3_readClause ∈ kGW := kinp (i := 8) rfl rfl
theorem q_s_X3_isFullOf : Cond.selects RX3 yX3_isFullOf yX3_isFullOf ∈ kGW := kinp (i := 9) rfl rfl
theorem q_s_X3_readNumbers : Cond.selects RX3 yX3_readNumbers yX3_readNumbers ∈ kGW := kinp (i := 10) rfl rfl
theorem q_s_X3_readNumber : Cond.selects RX3 yX3_readNumber yX3_readNumber ∈ kGW := kinp (i := 11) rfl rfl
theorem q_s_X3_readFreePlace : Cond.selects RX3 yX3_readFreePlace yX3_readFreePlace ∈ kGW := kinp (i := 12) rfl rfl
theorem q_s_X3_complete : Cond.selects RX3 yX3_complete yX3_complete ∈ kGW := kinp (i := 13) rfl rfl
theorem q_s_X8_readClause : Cond.selects RX8 yX8_readClause yX8_readClause ∈ kGW := kinp (i := 14) rfl rfl
theorem q_s_X8_readSum : Cond.selects RX8 yX8_readSum yX8_readSum ∈ kGW := kinp (i := 15) rfl rfl
theorem q_s_X8_readValue : Cond.selects RX8 yX8_readValue yX8_readValue ∈ kGW := kinp (i := 16) rfl rfl
theorem q_s_X8_addStep : Cond.selects RX8 yX8_addStep yX8_addStep ∈ kGW := kinp (i := 17) rfl rfl
theorem q_s_X8_readTest : Cond.selects RX8 yX8_readTest yX8_readTest ∈ kGW := kinp (i := 18) rfl rfl
theorem q_s_X8_readFact : Cond.selects RX8 yX8_readFact yX8_readFact ∈ kGW := kinp (i := 19) rfl rfl
theorem q_s_X8_readComparison : Cond.selects RX8 yX8_readComparison yX8_readComparison ∈ kGW := kinp (i := 20) rfl rfl
theorem q_s_X11_ruleInForce : Cond.selects RX11 yX11_ruleInForce yX11_ruleInForce ∈ kGW := kinp (i := 21) rfl rfl
theorem q_s_X6_takeTurn : Cond.selects RX6 yX6_takeTurn yX6_takeTurn ∈ kGW := kinp (i := 22) rfl rfl
theorem q_s_X6_aimOf : Cond.selects RX6 yX6_aimOf yX6_aimOf ∈ kGW := kinp (i := 23) rfl rfl
theorem q_s_X2_takeIfMore : Cond.selects RX2 yX2_takeIfMore yX2_takeIfMore ∈ kGW := kinp (i := 24) rfl rfl
theorem q_s_X2_isRest : Cond.selects RX2 yX2_isRest yX2_isRest ∈ kGW := kinp (i := 25) rfl rfl
theorem q_s_X2_drawn : Cond.selects RX2 yX2_drawn yX2_drawn ∈ kGW := kinp (i := 26) rfl rfl
theorem q_s_X12_four : Cond.selects RX12 yX12_four yX12_four ∈ kGW := kinp (i := 27) rfl rfl
theorem q_s_X12_readsAll : Cond.selects RX12 yX12_readsAll yX12_readsAll ∈ kGW := kinp (i := 28) rfl rfl
theorem q_s_X12_clauseHere : Cond.selects RX12 yX12_clauseHere yX12_clauseHere ∈ kGW := kinp (i := 29) rfl rfl
theorem q_s_X12_see : Cond.selects RX12 yX12_see yX12_see ∈ kGW := kinp (i := 30) rfl rfl
theorem q_s_X12_isGreenWord : Cond.selects RX12 yX12_isGreenWord yX12_isGreenWord ∈ kGW := kinp (i := 31) rfl rfl
theorem q_s_X12_isWord : Cond.selects RX12 yX12_isWord yX12_isWord ∈ kGW := kinp (i := 32) rfl rfl
theorem q_s_X12_isLetter : Cond.selects RX12 yX12_isLetter yX12_isLetter ∈ kGW := kinp (i := 33) rfl rfl
theorem q_s_X12_fails : Cond.selects RX12 yX12_fails yX12_fails ∈ kGW := kinp (i := 34) rfl rfl
theorem q_s_X12_greenLineHere : Cond.selects RX12 yX12_greenLineHere yX12_greenLineHere ∈ kGW := kinp (i := 35) rfl rfl
theorem q_s_X12_isGreenHere : Cond.selects RX12 yX12_isGreenHere yX12_isGreenHere ∈ kGW := kinp (i := 36) rfl rfl
theorem q_s_X12_passWord : Cond.selects RX12 yX12_passWord yX12_passWord ∈ kGW := kinp (i := 37) rfl rfl
theorem q_s_X12_cellHere : Cond.selects RX12 yX12_cellHere yX12_cellHere ∈ kGW := kinp (i := 38) rfl rfl
theorem q_s_X12_numberHere : Cond.selects RX12 yX12_numberHere yX12_numberHere ∈ kGW := kinp (i := 39) rfl rfl
theorem q_s_X12_isDigit : Cond.selects RX12 yX12_isDigit yX12_isDigit ∈ kGW := kinp (i := 40) rfl rfl
theorem q_s_X12_isWindHere : Cond.selects RX12 yX12_isWindHere yX12_isWindHere ∈ kGW := kinp (i := 41) rfl rfl
theorem q_s_X12_isRingHere : Cond.selects RX12 yX12_isRingHere yX12_isRingHere ∈ kGW := kinp (i := 42) rfl rfl
theorem q_s_X12_isTaken : Cond.selects RX12 yX12_isTaken yX12_isTaken ∈ kGW := kinp (i := 43) rfl rfl
theorem q_s_X12_isArcherHere : Cond.selects RX12 yX12_isArcherHere yX12_isArcherHere ∈ kGW := kinp (i := 44) rfl rfl
theorem q_s_X12_isAimHere : Cond.selects RX12 yX12_isAimHere yX12_isAimHere ∈ kGW := kinp (i := 45) rfl rfl
theorem q_s_X12_sum : Cond.selects RX12 yX12_sum yX12_sum ∈ kGW := kinp (i := 46) rfl rfl
theorem q_s_X12_term : Cond.selects RX12 yX12_term yX12_term ∈ kGW := kinp (i := 47) rfl rfl
theorem q_s_X12_value : Cond.selects RX12 yX12_value yX12_value ∈ kGW := kinp (i := 48) rfl rfl
theorem q_s_X12_makes : Cond.selects RX12 yX12_makes yX12_makes ∈ kGW := kinp (i := 49) rfl rfl
theorem q_s_X12_puts : Cond.selects RX12 yX12_puts yX12_puts ∈ kGW := kinp (i := 50) rfl rfl
theorem q_s_X12_wordHere : Cond.selects RX12 yX12_wordHere yX12_wordHere ∈ kGW := kinp (i := 51) rfl rfl
theorem q_s_X12_takesWord : Cond.selects RX12 yX12_takesWord yX12_takesWord ∈ kGW := kinp (i := 52) rfl rfl
theorem q_s_X12_tested : Cond.selects RX12 yX12_tested yX12_tested ∈ kGW := kinp (i := 53) rfl rfl
theorem q_s_X12_fact : Cond.selects RX12 yX12_fact yX12_fact ∈ kGW := kinp (i := 54) rfl rfl
theorem q_s_X12_opens : Cond.selects RX12 yX12_opens yX12_opens ∈ kGW := kinp (i := 55) rfl rfl
theorem q_s_X12_compare : Cond.selects RX12 yX12_compare yX12_compare ∈ kGW := kinp (i := 56) rfl rfl
theorem q_s_X12_closes : Cond.selects RX12 yX12_closes yX12_closes ∈ kGW := kinp (i := 57) rfl rfl
theorem q_s_X12_layDown : Cond.selects RX12 yX12_layDown yX12_layDown ∈ kGW := kinp (i := 58) rfl rfl
theorem q_s_X12_isInside : Cond.selects RX12 yX12_isInside yX12_isInside ∈ kGW := kinp (i := 59) rfl rfl
theorem q_s_X12_begins : Cond.selects RX12 yX12_begins yX12_begins ∈ kGW := kinp (i := 60) rfl rfl
theorem q_s_X12_isRule : Cond.selects RX12 yX12_isRule yX12_isRule ∈ kGW := kinp (i := 61) rfl rfl
theorem q_s_X12_isRing : Cond.selects RX12 yX12_isRing yX12_isRing ∈ kGW := kinp (i := 62) rfl rfl
theorem q_s_X12_isArcher : Cond.selects RX12 yX12_isArcher yX12_isArcher ∈ kGW := kinp (i := 63) rfl rfl
theorem q_s_X12_skillOf : Cond.selects RX12 yX12_skillOf yX12_skillOf ∈ kGW := kinp (i := 64) rfl rfl
theorem q_s_X12_illOf : Cond.selects RX12 yX12_illOf yX12_illOf ∈ kGW := kinp (i := 65) rfl rfl
theorem q_s_X12_arrowsOf : Cond.selects RX12 yX12_arrowsOf yX12_arrowsOf ∈ kGW := kinp (i := 66) rfl rfl
theorem q_s_X12_comingRound : Cond.selects RX12 yX12_comingRound yX12_comingRound ∈ kGW := kinp (i := 67) rfl rfl
theorem q_s_X12_isGreen : Cond.selects RX12 yX12_isGreen yX12_isGreen ∈ kGW := kinp (i := 68) rfl rfl
theorem q_s_X12_windOn : Cond.selects RX12 yX12_windOn yX12_windOn ∈ kGW := kinp (i := 69) rfl rfl
theorem q_s_X12_keepsAct : Cond.selects RX12 yX12_keepsAct yX12_keepsAct ∈ kGW := kinp (i := 70) rfl rfl
theorem q_s_X12_passes : Cond.selects RX12 yX12_passes yX12_passes ∈ kGW := kinp (i := 71) rfl rfl
theorem q_s_X12_turnOf : Cond.selects RX12 yX12_turnOf yX12_turnOf ∈ kGW := kinp (i := 72) rfl rfl
theorem q_s_X12_choice : Cond.selects RX12 yX12_choice yX12_choice ∈ kGW := kinp (i := 73) rfl rfl
theorem q_s_X12_sumOf : Cond.selects RX12 yX12_sumOf yX12_sumOf ∈ kGW := kinp (i := 74) rfl rfl
theorem q_s_X12_windNow : Cond.selects RX12 yX12_windNow yX12_windNow ∈ kGW := kinp (i := 75) rfl rfl
theorem q_s_X12_driftOf : Cond.selects RX12 yX12_driftOf yX12_driftOf ∈ kGW := kinp (i := 76) rfl rfl
theorem q_s_X12_summedBy : Cond.selects RX12 yX12_summedBy yX12_summedBy ∈ kGW := kinp (i := 77) rfl rfl
theorem q_s_X12_reckons : Cond.selects RX12 yX12_reckons yX12_reckons ∈ kGW := kinp (i := 78) rfl rfl
theorem q_s_X12_push : Cond.selects RX12 yX12_push yX12_push ∈ kGW := kinp (i := 79) rfl rfl
theorem q_s_X12_pop : Cond.selects RX12 yX12_pop yX12_pop ∈ kGW := kinp (i := 80) rfl rfl
theorem q_s_X12_shoots : Cond.selects RX12 yX12_shoots yX12_shoots ∈ kGW := kinp (i := 81) rfl rfl
theorem q_s_X12_downOf : Cond.selects RX12 yX12_downOf yX12_downOf ∈ kGW := kinp (i := 82) rfl rfl
theorem q_s_X12_ringAt : Cond.selects RX12 yX12_ringAt yX12_ringAt ∈ kGW := kinp (i := 83) rfl rfl
theorem q_s_X12_eases1 : Cond.selects RX12 yX12_eases1 yX12_eases1 ∈ kGW := kinp (i := 84) rfl rfl
theorem q_s_X12_keeps : Cond.selects RX12 yX12_keeps yX12_keeps ∈ kGW := kinp (i := 85) rfl rfl
theorem q_s_X12_passesAll : Cond.selects RX12 yX12_passesAll yX12_passesAll ∈ kGW := kinp (i := 86) rfl rfl
theorem q_s_X12_laysBack : Cond.selects RX12 yX12_laysBack yX12_laysBack ∈ kGW := kinp (i := 87) rfl rfl
theorem q_s_X12_easedIn : Cond.selects RX12 yX12_easedIn yX12_easedIn ∈ kGW := kinp (i := 88) rfl rfl
theorem q_s_X12_sumOver : Cond.selects RX12 yX12_sumOver yX12_sumOver ∈ kGW := kinp (i := 89) rfl rfl
theorem q_s_X12_easeBy : Cond.selects RX12 yX12_easeBy yX12_easeBy ∈ kGW := kinp (i := 90) rfl rfl
theorem q_s_X12_findsRow : Cond.selects RX12 yX12_findsRow yX12_findsRow ∈ kGW := kinp (i := 91) rfl rfl
theorem q_s_X12_arrowsIn : Cond.selects RX12 yX12_arrowsIn yX12_arrowsIn ∈ kGW := kinp (i := 92) rfl rfl
theorem q_s_X12_easeByRow : Cond.selects RX12 yX12_easeByRow yX12_easeByRow ∈ kGW := kinp (i := 93) rfl rfl
theorem q_s_X12_nextRow : Cond.selects RX12 yX12_nextRow yX12_nextRow ∈ kGW := kinp (i := 94) rfl rfl
theorem q_s_X12_easeIn : Cond.selects RX12 yX12_easeIn yX12_easeIn ∈ kGW := kinp (i := 95) rfl rfl
theorem q_s_X12_givesAll : Cond.selects RX12 yX12_givesAll yX12_givesAll ∈ kGW := kinp (i := 96) rfl rfl
theorem q_s_X12_fillsRest : Cond.selects RX12 yX12_fillsRest yX12_fillsRest ∈ kGW := kinp (i := 97) rfl rfl
theorem q_s_X12_hasThen : Cond.selects RX12 yX12_hasThen yX12_hasThen ∈ kGW := kinp (i := 98) rfl rfl
theorem q_s_X12_isRest : Cond.selects RX12 yX12_isRest yX12_isRest ∈ kGW := kinp (i := 99) rfl rfl
theorem q_s_X12_fillsFits : Cond.selects RX12 yX12_fillsFits yX12_fillsFits ∈ kGW := kinp (i := 100) rfl rfl
theorem q_s_X12_areAllSo : Cond.selects RX12 yX12_areAllSo yX12_areAllSo ∈ kGW := kinp (i := 101) rfl rfl
theorem q_s_X12_areNotesSo : Cond.selects RX12 yX12_areNotesSo yX12_areNotesSo ∈ kGW := kinp (i := 102) rfl rfl
theorem q_s_X12_alikeAt : Cond.selects RX12 yX12_alikeAt yX12_alikeAt ∈ kGW := kinp (i := 103) rfl rfl
theorem q_s_X12_canBe : Cond.selects RX12 yX12_canBe yX12_canBe ∈ kGW := kinp (i := 104) rfl rfl
theorem q_s_X12_draw : Cond.selects RX12 yX12_draw yX12_draw ∈ kGW := kinp (i := 105) rfl rfl
theorem mi_X0_init : kMI yX0_init cX0_init 1 0 := ⟨q_i_X0_init, q_z_X0, q_c_X0_init, rfl, by decide +kernel⟩
theorem mv_X0_keep : kMV RX0 yX0_keep cX0_keep 2 none 1 := ⟨q_i_X0_keep, q_s_X0_keep, q_z_X0, q_c_X0_keep, by decide +kernel⟩
theorem mv_X0_takeBack : kMV RX0 yX0_takeBack cX0_takeBack 2 none 1 := ⟨q_i_X0_takeBack, q_s_X0_takeBack, q_z_X0, q_c_X0_takeBack, by decide +kernel⟩
theorem mi_X1_init : kMI yX1_init cX1_init 1 0 := ⟨q_i_X1_init, q_z_X1, q_c_X1_init, rfl, by decide +kernel⟩
theorem mv_X1_copyFrom : kMV RX1 yX1_copyFrom cX1_copyFrom 2 none 1 := ⟨q_i_X1_copyFrom, q_s_X1_copyFrom, q_z_X1, q_c_X1_copyFrom, by decide +kernel⟩
theorem mv_X1_clear : kMV RX1 yX1_clear cX1_clear 1 none 0 := ⟨q_i_X1_clear, q_s_X1_clear, q_z_X1, q_c_X1_clear, by decide +kernel⟩
theorem mv_X1_isTold : kMV RX1 yX1_isTold cX1_isTold 1 (some .boolean) 0 := ⟨q_i_X1_isTold, q_s_X1_isTold, q_z_X1, q_c_X1_isTold, by decide +kernel⟩
theorem mv_X1_hasRing : kMV RX1 yX1_hasRing cX1_hasRing 2 (some .boolean) 1 := ⟨q_i_X1_hasRing, q_s_X1_hasRing, q_z_X1, q_c_X1_hasRing, by decide +kernel⟩
theorem mv_X1_hasArcher : kMV RX1 yX1_hasArcher cX1_hasArcher 2 (some .boolean) 1 := ⟨q_i_X1_hasArcher, q_s_X1_hasArcher, q_z_X1, q_c_X1_hasArcher, by decide +kernel⟩
theorem mv_X1_windOf : kMV RX1 yX1_windOf cX1_windOf 3 (some .int) 1 := ⟨q_i_X1_windOf, q_s_X1_windOf, q_z_X1, q_c_X1_windOf, by decide +kernel⟩
theorem mv_X1_drift : kMV RX1 yX1_drift cX1_drift 4 (some .int) 2 := ⟨q_i_X1_drift, q_s_X1_drift, q_z_X1, q_c_X1_drift, by decide +kernel⟩
theorem mv_X1_landing : kMV RX1 yX1_landing cX1_landing 5 (some .int) 3 := ⟨q_i_X1_landing, q_s_X1_landing, q_z_X1, q_c_X1_landing, by decide +kernel⟩
theorem mv_X1_ringAt : kMV RX1 yX1_ringAt cX1_ringAt 3 (some .int) 1 := ⟨q_i_X1_ringAt, q_s_X1_ringAt, q_z_X1, q_c_X1_ringAt, by decide +kernel⟩
theorem mv_X1_ringThatHitsOwn : kMV RX1 yX1_ringThatHitsOwn cX1_ringThatHitsOwn 4 (some .int) 2 := ⟨q_i_X1_ringThatHitsOwn, q_s_X1_ringThatHitsOwn, q_z_X1, q_c_X1_ringThatHitsOwn, by decide +kernel⟩
theorem mv_X1_loose : kMV RX1 yX1_loose cX1_loose 6 (some .int) 3 := ⟨q_i_X1_loose, q_s_X1_loose, q_z_X1, q_c_X1_loose, by decide +kernel⟩
theorem mv_X1_sumOfArchers : kMV RX1 yX1_sumOfArchers cX1_sumOfArchers 4 (some .int) 1 := ⟨q_i_X1_sumOfArchers, q_s_X1_sumOfArchers, q_z_X1, q_c_X1_sumOfArchers, by decide +kernel⟩
theorem mi_X2_init : kMI yX2_init cX2_init 1 0 := ⟨q_i_X2_init, q_z_X2, q_c_X2_init, rfl, by decide +kernel⟩
theorem mv_X2_firstWell : kMV RX2 yX2_firstWell cX2_firstWell 6 (some .int) 3 := ⟨q_i_X2_firstWell, q_s_X2_firstWell, q_z_X2, q_c_X2_firstWell, by decide +kernel⟩
theorem ms_X2_areWell : kMS yX2_areWell cX2_areWell 4 (some .boolean) 3 := ⟨q_s_X2_areWell, q_z_X2, q_c_X2_areWell, by decide +kernel⟩
theorem mv_X2_bestRow : kMV RX2 yX2_bestRow cX2_bestRow 14 (some .int) 4 := ⟨q_i_X2_bestRow, q_s_X2_bestRow, q_z_X2, q_c_X2_bestRow, by decide +kernel⟩
theorem mv_X2_findPlace : kMV RX2 yX2_findPlace cX2_findPlace 7 none 5 := ⟨q_i_X2_findPlace, q_s_X2_findPlace, q_z_X2, q_c_X2_findPlace, by decide +kernel⟩
theorem mv_X2_findHeir : kMV RX2 yX2_findHeir cX2_findHeir 8 none 4 := ⟨q_i_X2_findHeir, q_s_X2_findHeir, q_z_X2, q_c_X2_findHeir, by decide +kernel⟩
theorem mv_X2_easedSince : kMV RX2 yX2_easedSince cX2_easedSince 3 (some .int) 2 := ⟨q_i_X2_easedSince, q_s_X2_easedSince, q_z_X2, q_c_X2_easedSince, by decide +kernel⟩
theorem mv_X2_takeIfMore : kMV RX2 yX2_takeIfMore cX2_takeIfMore 3 none 2 := ⟨q_i_X2_takeIfMore, q_s_X2_takeIfMore, q_z_X2, q_c_X2_takeIfMore, by decide +kernel⟩
theorem mv_X2_weighRings : kMV RX2 yX2_weighRings cX2_weighRings 9 none 6 := ⟨q_i_X2_weighRings, q_s_X2_weighRings, q_z_X2, q_c_X2_weighRings, by decide +kernel⟩
theorem ms_X2_gainOf : kMS yX2_gainOf cX2_gainOf 4 (some .int) 3 := ⟨q_s_X2_gainOf, q_z_X2, q_c_X2_gainOf, by decide +kernel⟩
theorem mv_X2_restsOf : kMV RX2 yX2_restsOf cX2_restsOf 6 (some .int) 2 := ⟨q_i_X2_restsOf, q_s_X2_restsOf, q_z_X2, q_c_X2_restsOf, by decide +kernel⟩
theorem mv_X2_isRest : kMV RX2 yX2_isRest cX2_isRest 7 (some .boolean) 2 := ⟨q_i_X2_isRest, q_s_X2_isRest, q_z_X2, q_c_X2_isRest, by decide +kernel⟩
theorem mv_X2_penceOf : kMV RX2 yX2_penceOf cX2_penceOf 12 (some .int) 3 := ⟨q_i_X2_penceOf, q_s_X2_penceOf, q_z_X2, q_c_X2_penceOf, by decide +kernel⟩
theorem mv_X2_blowRounds : kMV RX2 yX2_blowRounds cX2_blowRounds 5 none 3 := ⟨q_i_X2_blowRounds, q_s_X2_blowRounds, q_z_X2, q_c_X2_blowRounds, by decide +kernel⟩
theorem mv_X2_drawn : kMV RX2 yX2_drawn cX2_drawn 1 (some .int) 0 := ⟨q_i_X2_drawn, q_s_X2_drawn, q_z_X2, q_c_X2_drawn, by decide +kernel⟩
theorem mi_X3_init : kMI yX3_init cX3_init 1 0 := ⟨q_i_X3_init, q_z_X3, q_c_X3_init, rfl, by decide +kernel⟩
theorem mv_X3_readFrom : kMV RX3 yX3_readFrom cX3_readFrom 3 (some .int) 1 := ⟨q_i_X3_readFrom, q_s_X3_readFrom, q_z_X3, q_c_X3_readFrom, by decide +kernel⟩
theorem mv_X3_readClause : kMV RX3 yX3_readClause cX3_readClause 4 none 2 := ⟨q_i_X3_readClause, q_s_X3_readClause, q_z_X3, q_c_X3_readClause, by decide +kernel⟩
theorem ms_X3_opensClause : kMS yX3_opensClause cX3_opensClause 1 (some .boolean) 1 := ⟨q_s_X3_opensClause, q_z_X3, q_c_X3_opensClause, by decide +kernel⟩
theorem mv_X3_isFullOf : kMV RX3 yX3_isFullOf cX3_isFullOf 2 (some .boolean) 1 := ⟨q_i_X3_isFullOf, q_s_X3_isFullOf, q_z_X3, q_c_X3_isFullOf, by decide +kernel⟩
theorem mv_X3_readNumbers : kMV RX3 yX3_readNumbers cX3_readNumbers 5 none 2 := ⟨q_i_X3_readNumbers, q_s_X3_readNumbers, q_z_X3, q_c_X3_readNumbers, by decide +kernel⟩
theorem mv_X3_readFreePlace : kMV RX3 yX3_readFreePlace cX3_readFreePlace 4 (some .int) 1 := ⟨q_i_X3_readFreePlace, q_s_X3_readFreePlace, q_z_X3, q_c_X3_readFreePlace, by decide +kernel⟩
theorem mv_X3_readNumber : kMV RX3 yX3_readNumber cX3_readNumber 5 (some .int) 3 := ⟨q_i_X3_readNumber, q_s_X3_readNumber, q_z_X3, q_c_X3_readNumber, by decide +kernel⟩
theorem mv_X3_complete : kMV RX3 yX3_complete cX3_complete 3 none 0 := ⟨q_i_X3_complete, q_s_X3_complete, q_z_X3, q_c_X3_complete, by decide +kernel⟩
theorem mi_X4_init : kMI yX4_init cX4_init 1 0 := ⟨q_i_X4_init, q_z_X4, q_c_X4_init, rfl, by decide +kernel⟩
theorem mv_X4_copyFrom : kMV RX4 yX4_copyFrom cX4_copyFrom 2 none 1 := ⟨q_i_X4_copyFrom, q_s_X4_copyFrom, q_z_X4, q_c_X4_copyFrom, by decide +kernel⟩
theorem mi_X5_init : kMI yX5_init cX5_init 1 0 := ⟨q_i_X5_init, q_z_X5, q_c_X5_init, rfl, by decide +kernel⟩
theorem mv_X5_copyFrom : kMV RX5 yX5_copyFrom cX5_copyFrom 2 none 1 := ⟨q_i_X5_copyFrom, q_s_X5_copyFrom, q_z_X5, q_c_X5_copyFrom, by decide +kernel⟩
theorem mv_X5_isFull : kMV RX5 yX5_isFull cX5_isFull 1 (some .boolean) 0 := ⟨q_i_X5_isFull, q_s_X5_isFull, q_z_X5, q_c_X5_isFull, by decide +kernel⟩
theorem mv_X5_add : kMV RX5 yX5_add cX5_add 4 none 3 := ⟨q_i_X5_add, q_s_X5_add, q_z_X5, q_c_X5_add, by decide +kernel⟩
theorem mv_X5_lastRound : kMV RX5 yX5_lastRound cX5_lastRound 3 (some .int) 0 := ⟨q_i_X5_lastRound, q_s_X5_lastRound, q_z_X5, q_c_X5_lastRound, by decide +kernel⟩
theorem mv_X5_agree : kMV RX5 yX5_agree cX5_agree 4 (some .boolean) 2 := ⟨q_i_X5_agree, q_s_X5_agree, q_z_X5, q_c_X5_agree, by decide +kernel⟩
theorem mi_X6_init : kMI yX6_init cX6_init 1 0 := ⟨q_i_X6_init, q_z_X6, q_c_X6_init, rfl, by decide +kernel⟩
theorem mv_X6_startFrom : kMV RX6 yX6_startFrom cX6_startFrom 3 none 2 := ⟨q_i_X6_startFrom, q_s_X6_startFrom, q_z_X6, q_c_X6_startFrom, by decide +kernel⟩
theorem mv_X6_playRound : kMV RX6 yX6_playRound cX6_playRound 5 (some .int) 0 := ⟨q_i_X6_playRound, q_s_X6_playRound, q_z_X6, q_c_X6_playRound, by decide +kernel⟩
theorem mv_X6_playRounds : kMV RX6 yX6_playRounds cX6_playRounds 3 none 1 := ⟨q_i_X6_playRounds, q_s_X6_playRounds, q_z_X6, q_c_X6_playRounds, by decide +kernel⟩
theorem mv_X6_takeTurn : kMV RX6 yX6_takeTurn cX6_takeTurn 4 (some .int) 1 := ⟨q_i_X6_takeTurn, q_s_X6_takeTurn, q_z_X6, q_c_X6_takeTurn, by decide +kernel⟩
theorem mv_X6_aimOf : kMV RX6 yX6_aimOf cX6_aimOf 10 (some .int) 2 := ⟨q_i_X6_aimOf, q_s_X6_aimOf, q_z_X6, q_c_X6_aimOf, by decide +kernel⟩
theorem mi_X7_init : kMI yX7_init cX7_init 4 1 := ⟨q_i_X7_init, q_z_X7, q_c_X7_init, rfl, by decide +kernel⟩
theorem mv_X7_worth : kMV RX7 yX7_worth cX7_worth 7 (some .long) 2 := ⟨q_i_X7_worth, q_s_X7_worth, q_z_X7, q_c_X7_worth, by decide +kernel⟩
theorem ms_X7_joined : kMS yX7_joined cX7_joined 5 (some .long) 3 := ⟨q_s_X7_joined, q_z_X7, q_c_X7_joined, by decide +kernel⟩
theorem mi_X8_init : kMI yX8_init cX8_init 1 0 := ⟨q_i_X8_init, q_z_X8, q_c_X8_init, rfl, by decide +kernel⟩
theorem mv_X8_readFrom : kMV RX8 yX8_readFrom cX8_readFrom 3 (some .int) 1 := ⟨q_i_X8_readFrom, q_s_X8_readFrom, q_z_X8, q_c_X8_readFrom, by decide +kernel⟩
theorem mv_X8_made : kMV RX8 yX8_made cX8_made 1 (some (.object "StrawButts$Rule")) 0 := ⟨q_i_X8_made, q_s_X8_made, q_z_X8, q_c_X8_made, by decide +kernel⟩
theorem mv_X8_readClause : kMV RX8 yX8_readClause cX8_readClause 3 none 2 := ⟨q_i_X8_readClause, q_s_X8_readClause, q_z_X8, q_c_X8_readClause, by decide +kernel⟩
theorem mv_X8_readTest : kMV RX8 yX8_readTest cX8_readTest 5 none 2 := ⟨q_i_X8_readTest, q_s_X8_readTest, q_z_X8, q_c_X8_readTest, by decide +kernel⟩
theorem mv_X8_readFact : kMV RX8 yX8_readFact cX8_readFact 5 none 2 := ⟨q_i_X8_readFact, q_s_X8_readFact, q_z_X8, q_c_X8_readFact, by decide +kernel⟩
theorem mv_X8_readComparison : kMV RX8 yX8_readComparison cX8_readComparison 3 (some .int) 1 := ⟨q_i_X8_readComparison, q_s_X8_readComparison, q_z_X8, q_c_X8_readComparison, by decide +kernel⟩
theorem ms_X8_comparisonOf : kMS yX8_comparisonOf cX8_comparisonOf 1 (some .int) 1 := ⟨q_s_X8_comparisonOf, q_z_X8, q_c_X8_comparisonOf, by decide +kernel⟩
theorem mv_X8_readSum : kMV RX8 yX8_readSum cX8_readSum 5 none 1 := ⟨q_i_X8_readSum, q_s_X8_readSum, q_z_X8, q_c_X8_readSum, by decide +kernel⟩
theorem ms_X8_reckoningOf : kMS yX8_reckoningOf cX8_reckoningOf 1 (some .int) 1 := ⟨q_s_X8_reckoningOf, q_z_X8, q_c_X8_reckoningOf, by decide +kernel⟩
theorem mv_X8_readValue : kMV RX8 yX8_readValue cX8_readValue 4 none 1 := ⟨q_i_X8_readValue, q_s_X8_readValue, q_z_X8, q_c_X8_readValue, by decide +kernel⟩
theorem mv_X8_addStep : kMV RX8 yX8_addStep cX8_addStep 3 none 2 := ⟨q_i_X8_addStep, q_s_X8_addStep, q_z_X8, q_c_X8_addStep, by decide +kernel⟩
theorem mi_X9_init : kMI yX9_init cX9_init 1 0 := ⟨q_i_X9_init, q_z_X9, q_c_X9_init, rfl, by decide +kernel⟩
theorem mv_X9_numbersThatFit : kMV RX9 yX9_numbersThatFit cX9_numbersThatFit 9 (some .int) 6 := ⟨q_i_X9_numbersThatFit, q_s_X9_numbersThatFit, q_z_X9, q_c_X9_numbersThatFit, by decide +kernel⟩
theorem mv_X9_lookAhead : kMV RX9 yX9_lookAhead cX9_lookAhead 7 none 5 := ⟨q_i_X9_lookAhead, q_s_X9_lookAhead, q_z_X9, q_c_X9_lookAhead, by decide +kernel⟩
theorem ms_X9_fits : kMS yX9_fits cX9_fits 6 (some .boolean) 4 := ⟨q_s_X9_fits, q_z_X9, q_c_X9_fits, by decide +kernel⟩
theorem mv_X9_bestParted : kMV RX9 yX9_bestParted cX9_bestParted 4 (some .int) 1 := ⟨q_i_X9_bestParted, q_s_X9_bestParted, q_z_X9, q_c_X9_bestParted, by decide +kernel⟩
theorem mv_X9_mostAlike : kMV RX9 yX9_mostAlike cX9_mostAlike 6 (some .int) 1 := ⟨q_i_X9_mostAlike, q_s_X9_mostAlike, q_z_X9, q_c_X9_mostAlike, by decide +kernel⟩
theorem mi_X10_init : kMI yX10_init cX10_init 1 0 := ⟨q_i_X10_init, q_z_X10, q_c_X10_init, rfl, by decide +kernel⟩
theorem mv_X10_hasRoom : kMV RX10 yX10_hasRoom cX10_hasRoom 2 (some .boolean) 1 := ⟨q_i_X10_hasRoom, q_s_X10_hasRoom, q_z_X10, q_c_X10_hasRoom, by decide +kernel⟩
theorem mv_X10_addBytes : kMV RX10 yX10_addBytes cX10_addBytes 3 none 1 := ⟨q_i_X10_addBytes, q_s_X10_addBytes, q_z_X10, q_c_X10_addBytes, by decide +kernel⟩
theorem mv_X10_open : kMV RX10 yX10_open cX10_open 3 none 0 := ⟨q_i_X10_open, q_s_X10_open, q_z_X10, q_c_X10_open, by decide +kernel⟩
theorem mv_X10_advance : kMV RX10 yX10_advance cX10_advance 1 none 0 := ⟨q_i_X10_advance, q_s_X10_advance, q_z_X10, q_c_X10_advance, by decide +kernel⟩
theorem mv_X10_isSign : kMV RX10 yX10_isSign cX10_isSign 2 (some .boolean) 1 := ⟨q_i_X10_isSign, q_s_X10_isSign, q_z_X10, q_c_X10_isSign, by decide +kernel⟩
theorem mv_X10_isWord : kMV RX10 yX10_isWord cX10_isWord 2 (some .boolean) 1 := ⟨q_i_X10_isWord, q_s_X10_isWord, q_z_X10, q_c_X10_isWord, by decide +kernel⟩
theorem mv_X10_hasNextClause : kMV RX10 yX10_hasNextClause cX10_hasNextClause 2 (some .boolean) 0 := ⟨q_i_X10_hasNextClause, q_s_X10_hasNextClause, q_z_X10, q_c_X10_hasNextClause, by decide +kernel⟩
theorem mv_X10_failAt : kMV RX10 yX10_failAt cX10_failAt 3 none 2 := ⟨q_i_X10_failAt, q_s_X10_failAt, q_z_X10, q_c_X10_failAt, by decide +kernel⟩
theorem mv_X10_scanToken : kMV RX10 yX10_scanToken cX10_scanToken 4 (some .int) 1 := ⟨q_i_X10_scanToken, q_s_X10_scanToken, q_z_X10, q_c_X10_scanToken, by decide +kernel⟩
theorem mv_X10_scanNumber : kMV RX10 yX10_scanNumber cX10_scanNumber 4 (some .int) 1 := ⟨q_i_X10_scanNumber, q_s_X10_scanNumber, q_z_X10, q_c_X10_scanNumber, by decide +kernel⟩
theorem mv_X10_scanWord : kMV RX10 yX10_scanWord cX10_scanWord 4 (some .int) 1 := ⟨q_i_X10_scanWord, q_s_X10_scanWord, q_z_X10, q_c_X10_scanWord, by decide +kernel⟩
theorem mv_X10_wordOf : kMV RX10 yX10_wordOf cX10_wordOf 6 (some .int) 2 := ⟨q_i_X10_wordOf, q_s_X10_wordOf, q_z_X10, q_c_X10_wordOf, by decide +kernel⟩
theorem mv_X10_isNamed : kMV RX10 yX10_isNamed cX10_isNamed 5 (some .boolean) 3 := ⟨q_i_X10_isNamed, q_s_X10_isNamed, q_z_X10, q_c_X10_isNamed, by decide +kernel⟩
theorem mv_X10_isDigit : kMV RX10 yX10_isDigit cX10_isDigit 2 (some .boolean) 1 := ⟨q_i_X10_isDigit, q_s_X10_isDigit, q_z_X10, q_c_X10_isDigit, by decide +kernel⟩
theorem mv_X10_isLetter : kMV RX10 yX10_isLetter cX10_isLetter 2 (some .boolean) 1 := ⟨q_i_X10_isLetter, q_s_X10_isLetter, q_z_X10, q_c_X10_isLetter, by decide +kernel⟩
theorem mv_X10_addToken : kMV RX10 yX10_addToken cX10_addToken 4 none 3 := ⟨q_i_X10_addToken, q_s_X10_addToken, q_z_X10, q_c_X10_addToken, by decide +kernel⟩
theorem mi_X11_init : kMI yX11_init cX11_init 2 0 := ⟨q_i_X11_init, q_z_X11, q_c_X11_init, rfl, by decide +kernel⟩
theorem mv_X11_feed : kMV RX11 yX11_feed cX11_feed 6 (some .int) 5 := ⟨q_i_X11_feed, q_s_X11_feed, q_z_X11, q_c_X11_feed, by decide +kernel⟩
theorem mv_X11_end : kMV RX11 yX11_end cX11_end 2 (some .int) 1 := ⟨q_i_X11_end, q_s_X11_end, q_z_X11, q_c_X11_end, by decide +kernel⟩
theorem mv_X11_green : kMV RX11 yX11_green cX11_green 2 (some .int) 0 := ⟨q_i_X11_green, q_s_X11_green, q_z_X11, q_c_X11_green, by decide +kernel⟩
theorem mv_X11_rule : kMV RX11 yX11_rule cX11_rule 2 (some .int) 0 := ⟨q_i_X11_rule, q_s_X11_rule, q_z_X11, q_c_X11_rule, by decide +kernel⟩
theorem mv_X11_force : kMV RX11 yX11_force cX11_force 3 (some .int) 1 := ⟨q_i_X11_force, q_s_X11_force, q_z_X11, q_c_X11_force, by decide +kernel⟩
theorem mv_X11_ring : kMV RX11 yX11_ring cX11_ring 3 (some .int) 2 := ⟨q_i_X11_ring, q_s_X11_ring, q_z_X11, q_c_X11_ring, by decide +kernel⟩
theorem mv_X11_archer : kMV RX11 yX11_archer cX11_archer 3 (some .int) 2 := ⟨q_i_X11_archer, q_s_X11_archer, q_z_X11, q_c_X11_archer, by decide +kernel⟩
theorem mv_X11_wind : kMV RX11 yX11_wind cX11_wind 2 (some .int) 1 := ⟨q_i_X11_wind, q_s_X11_wind, q_z_X11, q_c_X11_wind, by decide +kernel⟩
theorem mv_X11_count : kMV RX11 yX11_count cX11_count 2 (some .int) 1 := ⟨q_i_X11_count, q_s_X11_count, q_z_X11, q_c_X11_count, by decide +kernel⟩
theorem mv_X11_round : kMV RX11 yX11_round cX11_round 2 (some .int) 0 := ⟨q_i_X11_round, q_s_X11_round, q_z_X11, q_c_X11_round, by decide +kernel⟩
theorem mv_X11_shoot : kMV RX11 yX11_shoot cX11_shoot 4 (some .int) 2 := ⟨q_i_X11_shoot, q_s_X11_shoot, q_z_X11, q_c_X11_shoot, by decide +kernel⟩
theorem mv_X11_pull : kMV RX11 yX11_pull cX11_pull 5 (some .int) 2 := ⟨q_i_X11_pull, q_s_X11_pull, q_z_X11, q_c_X11_pull, by decide +kernel⟩
theorem mv_X11_breath : kMV RX11 yX11_breath cX11_breath 3 (some .int) 1 := ⟨q_i_X11_breath, q_s_X11_breath, q_z_X11, q_c_X11_breath, by decide +kernel⟩
theorem mv_X11_teach : kMV RX11 yX11_teach cX11_teach 5 (some .int) 2 := ⟨q_i_X11_teach, q_s_X11_teach, q_z_X11, q_c_X11_teach, by decide +kernel⟩
theorem mv_X11_undo : kMV RX11 yX11_undo cX11_undo 1 (some .int) 0 := ⟨q_i_X11_undo, q_s_X11_undo, q_z_X11, q_c_X11_undo, by decide +kernel⟩
theorem mv_X11_ahead : kMV RX11 yX11_ahead cX11_ahead 5 (some .int) 3 := ⟨q_i_X11_ahead, q_s_X11_ahead, q_z_X11, q_c_X11_ahead, by decide +kernel⟩
theorem mv_X11_eased : kMV RX11 yX11_eased cX11_eased 2 (some .int) 1 := ⟨q_i_X11_eased, q_s_X11_eased, q_z_X11, q_c_X11_eased, by decide +kernel⟩
theorem mv_X11_allEased : kMV RX11 yX11_allEased cX11_allEased 1 (some .int) 0 := ⟨q_i_X11_allEased, q_s_X11_allEased, q_z_X11, q_c_X11_allEased, by decide +kernel⟩
theorem mv_X11_down : kMV RX11 yX11_down cX11_down 4 (some .int) 2 := ⟨q_i_X11_down, q_s_X11_down, q_z_X11, q_c_X11_down, by decide +kernel⟩
theorem mv_X11_bestAim : kMV RX11 yX11_bestAim cX11_bestAim 7 (some .int) 2 := ⟨q_i_X11_bestAim, q_s_X11_bestAim, q_z_X11, q_c_X11_bestAim, by decide +kernel⟩
theorem mv_X11_row : kMV RX11 yX11_row cX11_row 4 (some .int) 3 := ⟨q_i_X11_row, q_s_X11_row, q_z_X11, q_c_X11_row, by decide +kernel⟩
theorem mv_X11_hold : kMV RX11 yX11_hold cX11_hold 5 (some .int) 1 := ⟨q_i_X11_hold, q_s_X11_hold, q_z_X11, q_c_X11_hold, by decide +kernel⟩
theorem mv_X11_leastSkill : kMV RX11 yX11_leastSkill cX11_leastSkill 4 (some .int) 2 := ⟨q_i_X11_leastSkill, q_s_X11_leastSkill, q_z_X11, q_c_X11_leastSkill, by decide +kernel⟩
theorem mv_X11_set : kMV RX11 yX11_set cX11_set 4 (some .int) 3 := ⟨q_i_X11_set, q_s_X11_set, q_z_X11, q_c_X11_set, by decide +kernel⟩
theorem mv_X11_given : kMV RX11 yX11_given cX11_given 3 (some .int) 2 := ⟨q_i_X11_given, q_s_X11_given, q_z_X11, q_c_X11_given, by decide +kernel⟩
theorem mv_X11_rests : kMV RX11 yX11_rests cX11_rests 5 (some .int) 4 := ⟨q_i_X11_rests, q_s_X11_rests, q_z_X11, q_c_X11_rests, by decide +kernel⟩
theorem mv_X11_pence : kMV RX11 yX11_pence cX11_pence 3 (some .int) 2 := ⟨q_i_X11_pence, q_s_X11_pence, q_z_X11, q_c_X11_pence, by decide +kernel⟩
theorem mv_X11_note : kMV RX11 yX11_note cX11_note 5 (some .int) 3 := ⟨q_i_X11_note, q_s_X11_note, q_z_X11, q_c_X11_note, by decide +kernel⟩
theorem mv_X11_skilled : kMV RX11 yX11_skilled cX11_skilled 2 (some .int) 1 := ⟨q_i_X11_skilled, q_s_X11_skilled, q_z_X11, q_c_X11_skilled, by decide +kernel⟩
theorem mv_X11_ails : kMV RX11 yX11_ails cX11_ails 3 (some .int) 1 := ⟨q_i_X11_ails, q_s_X11_ails, q_z_X11, q_c_X11_ails, by decide +kernel⟩
theorem mv_X11_ruled : kMV RX11 yX11_ruled cX11_ruled 2 (some .int) 1 := ⟨q_i_X11_ruled, q_s_X11_ruled, q_z_X11, q_c_X11_ruled, by decide +kernel⟩
theorem mv_X11_look : kMV RX11 yX11_look cX11_look 5 (some .int) 2 := ⟨q_i_X11_look, q_s_X11_look, q_z_X11, q_c_X11_look, by decide +kernel⟩
theorem mv_X11_seed : kMV RX11 yX11_seed cX11_seed 3 (some .int) 1 := ⟨q_i_X11_seed, q_s_X11_seed, q_z_X11, q_c_X11_seed, by decide +kernel⟩
theorem mv_X11_gusts : kMV RX11 yX11_gusts cX11_gusts 8 (some .int) 4 := ⟨q_i_X11_gusts, q_s_X11_gusts, q_z_X11, q_c_X11_gusts, by decide +kernel⟩
theorem mv_X11_image : kMV RX11 yX11_image cX11_image 2 (some .int) 1 := ⟨q_i_X11_image, q_s_X11_image, q_z_X11, q_c_X11_image, by decide +kernel⟩
theorem mv_X11_back : kMV RX11 yX11_back cX11_back 2 (some .int) 1 := ⟨q_i_X11_back, q_s_X11_back, q_z_X11, q_c_X11_back, by decide +kernel⟩
theorem ms_X11_within : kMS yX11_within cX11_within 3 (some .boolean) 3 := ⟨q_s_X11_within, q_z_X11, q_c_X11_within, by decide +kernel⟩
theorem ms_X11_placeOrHedge : kMS yX11_placeOrHedge cX11_placeOrHedge 1 (some .int) 1 := ⟨q_s_X11_placeOrHedge, q_z_X11, q_c_X11_placeOrHedge, by decide +kernel⟩
theorem mv_X11_ruleInForce : kMV RX11 yX11_ruleInForce cX11_ruleInForce 1 (some (.object "StrawButts$Rule")) 0 := ⟨q_i_X11_ruleInForce, q_s_X11_ruleInForce, q_z_X11, q_c_X11_ruleInForce, by decide +kernel⟩
theorem mi_X12_init : kMI yX12_init cX12_init 1 0 := ⟨q_i_X12_init, q_z_X12, q_c_X12_init, rfl, by decide +kernel⟩
theorem ms_X12_in : kMS yX12_in cX12_in 6 (some .boolean) 3 := ⟨q_s_X12_in, q_z_X12, q_c_X12_in, by decide +kernel⟩
theorem mv_X12_four : kMV RX12 yX12_four cX12_four 3 none 1 := ⟨q_i_X12_four, q_s_X12_four, q_z_X12, q_c_X12_four, by decide +kernel⟩
theorem mv_X12_feed : kMV RX12 yX12_feed cX12_feed 6 (some .int) 5 := ⟨q_i_X12_feed, q_s_X12_feed, q_z_X12, q_c_X12_feed, by decide +kernel⟩
theorem mv_X12_end : kMV RX12 yX12_end cX12_end 2 (some .int) 1 := ⟨q_i_X12_end, q_s_X12_end, q_z_X12, q_c_X12_end, by decide +kernel⟩
theorem mv_X12_fails : kMV RX12 yX12_fails cX12_fails 3 (some .boolean) 2 := ⟨q_i_X12_fails, q_s_X12_fails, q_z_X12, q_c_X12_fails, by decide +kernel⟩
theorem mv_X12_see : kMV RX12 yX12_see cX12_see 1 (some .int) 0 := ⟨q_i_X12_see, q_s_X12_see, q_z_X12, q_c_X12_see, by decide +kernel⟩
theorem mv_X12_isDigit : kMV RX12 yX12_isDigit cX12_isDigit 2 (some .boolean) 1 := ⟨q_i_X12_isDigit, q_s_X12_isDigit, q_z_X12, q_c_X12_isDigit, by decide +kernel⟩
theorem mv_X12_isLetter : kMV RX12 yX12_isLetter cX12_isLetter 2 (some .boolean) 1 := ⟨q_i_X12_isLetter, q_s_X12_isLetter, q_z_X12, q_c_X12_isLetter, by decide +kernel⟩
theorem mv_X12_isWord : kMV RX12 yX12_isWord cX12_isWord 6 (some .boolean) 1 := ⟨q_i_X12_isWord, q_s_X12_isWord, q_z_X12, q_c_X12_isWord, by decide +kernel⟩
theorem mv_X12_passWord : kMV RX12 yX12_passWord cX12_passWord 1 none 0 := ⟨q_i_X12_passWord, q_s_X12_passWord, q_z_X12, q_c_X12_passWord, by decide +kernel⟩
theorem mv_X12_takesWord : kMV RX12 yX12_takesWord cX12_takesWord 3 (some .boolean) 1 := ⟨q_i_X12_takesWord, q_s_X12_takesWord, q_z_X12, q_c_X12_takesWord, by decide +kernel⟩
theorem mv_X12_numberHere : kMV RX12 yX12_numberHere cX12_numberHere 5 (some .boolean) 2 := ⟨q_i_X12_numberHere, q_s_X12_numberHere, q_z_X12, q_c_X12_numberHere, by decide +kernel⟩
theorem mv_X12_wordHere : kMV RX12 yX12_wordHere cX12_wordHere 1 (some .int) 0 := ⟨q_i_X12_wordHere, q_s_X12_wordHere, q_z_X12, q_c_X12_wordHere, by decide +kernel⟩
theorem mv_X12_puts : kMV RX12 yX12_puts cX12_puts 3 none 2 := ⟨q_i_X12_puts, q_s_X12_puts, q_z_X12, q_c_X12_puts, by decide +kernel⟩
theorem mv_X12_makes : kMV RX12 yX12_makes cX12_makes 2 (some .boolean) 1 := ⟨q_i_X12_makes, q_s_X12_makes, q_z_X12, q_c_X12_makes, by decide +kernel⟩
theorem mv_X12_opens : kMV RX12 yX12_opens cX12_opens 2 (some .boolean) 1 := ⟨q_i_X12_opens, q_s_X12_opens, q_z_X12, q_c_X12_opens, by decide +kernel⟩
theorem ms_X12_strength : kMS yX12_strength cX12_strength 1 (some .int) 1 := ⟨q_s_X12_strength, q_z_X12, q_c_X12_strength, by decide +kernel⟩
theorem mv_X12_layDown : kMV RX12 yX12_layDown cX12_layDown 2 none 1 := ⟨q_i_X12_layDown, q_s_X12_layDown, q_z_X12, q_c_X12_layDown, by decide +kernel⟩
theorem mv_X12_value : kMV RX12 yX12_value cX12_value 3 (some .boolean) 0 := ⟨q_i_X12_value, q_s_X12_value, q_z_X12, q_c_X12_value, by decide +kernel⟩
theorem mv_X12_term : kMV RX12 yX12_term cX12_term 2 (some .boolean) 0 := ⟨q_i_X12_term, q_s_X12_term, q_z_X12, q_c_X12_term, by decide +kernel⟩
theorem mv_X12_sum : kMV RX12 yX12_sum cX12_sum 2 (some .boolean) 0 := ⟨q_i_X12_sum, q_s_X12_sum, q_z_X12, q_c_X12_sum, by decide +kernel⟩
theorem mv_X12_compare : kMV RX12 yX12_compare cX12_compare 5 (some .boolean) 0 := ⟨q_i_X12_compare, q_s_X12_compare, q_z_X12, q_c_X12_compare, by decide +kernel⟩
theorem mv_X12_fact : kMV RX12 yX12_fact cX12_fact 3 (some .boolean) 0 := ⟨q_i_X12_fact, q_s_X12_fact, q_z_X12, q_c_X12_fact, by decide +kernel⟩
theorem mv_X12_isInside : kMV RX12 yX12_isInside cX12_isInside 2 (some .boolean) 0 := ⟨q_i_X12_isInside, q_s_X12_isInside, q_z_X12, q_c_X12_isInside, by decide +kernel⟩
theorem mv_X12_closes : kMV RX12 yX12_closes cX12_closes 1 none 0 := ⟨q_i_X12_closes, q_s_X12_closes, q_z_X12, q_c_X12_closes, by decide +kernel⟩
theorem mv_X12_tested : kMV RX12 yX12_tested cX12_tested 3 (some .boolean) 0 := ⟨q_i_X12_tested, q_s_X12_tested, q_z_X12, q_c_X12_tested, by decide +kernel⟩
theorem mv_X12_isAimHere : kMV RX12 yX12_isAimHere cX12_isAimHere 2 (some .boolean) 0 := ⟨q_i_X12_isAimHere, q_s_X12_isAimHere, q_z_X12, q_c_X12_isAimHere, by decide +kernel⟩
theorem mv_X12_cellHere : kMV RX12 yX12_cellHere cX12_cellHere 4 (some .boolean) 3 := ⟨q_i_X12_cellHere, q_s_X12_cellHere, q_z_X12, q_c_X12_cellHere, by decide +kernel⟩
theorem mv_X12_isGreenHere : kMV RX12 yX12_isGreenHere cX12_isGreenHere 2 (some .boolean) 1 := ⟨q_i_X12_isGreenHere, q_s_X12_isGreenHere, q_z_X12, q_c_X12_isGreenHere, by decide +kernel⟩
theorem mv_X12_isWindHere : kMV RX12 yX12_isWindHere cX12_isWindHere 2 (some .boolean) 1 := ⟨q_i_X12_isWindHere, q_s_X12_isWindHere, q_z_X12, q_c_X12_isWindHere, by decide +kernel⟩
theorem mv_X12_isTaken : kMV RX12 yX12_isTaken cX12_isTaken 3 (some .boolean) 1 := ⟨q_i_X12_isTaken, q_s_X12_isTaken, q_z_X12, q_c_X12_isTaken, by decide +kernel⟩
theorem mv_X12_isRingHere : kMV RX12 yX12_isRingHere cX12_isRingHere 3 (some .boolean) 1 := ⟨q_i_X12_isRingHere, q_s_X12_isRingHere, q_z_X12, q_c_X12_isRingHere, by decide +kernel⟩
theorem mv_X12_isArcherHere : kMV RX12 yX12_isArcherHere cX12_isArcherHere 3 (some .boolean) 1 := ⟨q_i_X12_isArcherHere, q_s_X12_isArcherHere, q_z_X12, q_c_X12_isArcherHere, by decide +kernel⟩
theorem mv_X12_greenLineHere : kMV RX12 yX12_greenLineHere cX12_greenLineHere 2 (some .boolean) 1 := ⟨q_i_X12_greenLineHere, q_s_X12_greenLineHere, q_z_X12, q_c_X12_greenLineHere, by decide +kernel⟩
theorem mv_X12_isGreenWord : kMV RX12 yX12_isGreenWord cX12_isGreenWord 1 (some .boolean) 0 := ⟨q_i_X12_isGreenWord, q_s_X12_isGreenWord, q_z_X12, q_c_X12_isGreenWord, by decide +kernel⟩
theorem mv_X12_clauseHere : kMV RX12 yX12_clauseHere cX12_clauseHere 3 (some .boolean) 0 := ⟨q_i_X12_clauseHere, q_s_X12_clauseHere, q_z_X12, q_c_X12_clauseHere, by decide +kernel⟩
theorem mv_X12_readsAll : kMV RX12 yX12_readsAll cX12_readsAll 2 (some .boolean) 0 := ⟨q_i_X12_readsAll, q_s_X12_readsAll, q_z_X12, q_c_X12_readsAll, by decide +kernel⟩
theorem mv_X12_rule : kMV RX12 yX12_rule cX12_rule 1 (some .int) 0 := ⟨q_i_X12_rule, q_s_X12_rule, q_z_X12, q_c_X12_rule, by decide +kernel⟩
theorem mv_X12_green : kMV RX12 yX12_green cX12_green 2 (some .int) 0 := ⟨q_i_X12_green, q_s_X12_green, q_z_X12, q_c_X12_green, by decide +kernel⟩
theorem mv_X12_isRule : kMV RX12 yX12_isRule cX12_isRule 2 (some .boolean) 1 := ⟨q_i_X12_isRule, q_s_X12_isRule, q_z_X12, q_c_X12_isRule, by decide +kernel⟩
theorem mv_X12_push : kMV RX12 yX12_push cX12_push 3 none 1 := ⟨q_i_X12_push, q_s_X12_push, q_z_X12, q_c_X12_push, by decide +kernel⟩
theorem mv_X12_pop : kMV RX12 yX12_pop cX12_pop 1 (some .long) 0 := ⟨q_i_X12_pop, q_s_X12_pop, q_z_X12, q_c_X12_pop, by decide +kernel⟩
theorem ms_X12_one : kMS yX12_one cX12_one 5 (some .long) 3 := ⟨q_s_X12_one, q_z_X12, q_c_X12_one, by decide +kernel⟩
theorem mv_X12_reckons : kMV RX12 yX12_reckons cX12_reckons 11 (some .long) 3 := ⟨q_i_X12_reckons, q_s_X12_reckons, q_z_X12, q_c_X12_reckons, by decide +kernel⟩
theorem mv_X12_isGreen : kMV RX12 yX12_isGreen cX12_isGreen 1 (some .boolean) 0 := ⟨q_i_X12_isGreen, q_s_X12_isGreen, q_z_X12, q_c_X12_isGreen, by decide +kernel⟩
theorem mv_X12_comingRound : kMV RX12 yX12_comingRound cX12_comingRound 1 (some .int) 0 := ⟨q_i_X12_comingRound, q_s_X12_comingRound, q_z_X12, q_c_X12_comingRound, by decide +kernel⟩
theorem mv_X12_windOn : kMV RX12 yX12_windOn cX12_windOn 2 (some .int) 1 := ⟨q_i_X12_windOn, q_s_X12_windOn, q_z_X12, q_c_X12_windOn, by decide +kernel⟩
theorem mv_X12_windNow : kMV RX12 yX12_windNow cX12_windNow 1 (some .int) 0 := ⟨q_i_X12_windNow, q_s_X12_windNow, q_z_X12, q_c_X12_windNow, by decide +kernel⟩
theorem mv_X12_isRing : kMV RX12 yX12_isRing cX12_isRing 2 (some .boolean) 1 := ⟨q_i_X12_isRing, q_s_X12_isRing, q_z_X12, q_c_X12_isRing, by decide +kernel⟩
theorem mv_X12_isArcher : kMV RX12 yX12_isArcher cX12_isArcher 2 (some .boolean) 1 := ⟨q_i_X12_isArcher, q_s_X12_isArcher, q_z_X12, q_c_X12_isArcher, by decide +kernel⟩
theorem mv_X12_skillOf : kMV RX12 yX12_skillOf cX12_skillOf 2 (some .int) 1 := ⟨q_i_X12_skillOf, q_s_X12_skillOf, q_z_X12, q_c_X12_skillOf, by decide +kernel⟩
theorem mv_X12_illOf : kMV RX12 yX12_illOf cX12_illOf 2 (some .int) 1 := ⟨q_i_X12_illOf, q_s_X12_illOf, q_z_X12, q_c_X12_illOf, by decide +kernel⟩
theorem mv_X12_arrowsOf : kMV RX12 yX12_arrowsOf cX12_arrowsOf 2 (some .int) 1 := ⟨q_i_X12_arrowsOf, q_s_X12_arrowsOf, q_z_X12, q_c_X12_arrowsOf, by decide +kernel⟩
theorem mv_X12_sumOver : kMV RX12 yX12_sumOver cX12_sumOver 4 (some .int) 1 := ⟨q_i_X12_sumOver, q_s_X12_sumOver, q_z_X12, q_c_X12_sumOver, by decide +kernel⟩
theorem mv_X12_driftOf : kMV RX12 yX12_driftOf cX12_driftOf 2 (some .int) 1 := ⟨q_i_X12_driftOf, q_s_X12_driftOf, q_z_X12, q_c_X12_driftOf, by decide +kernel⟩
theorem mv_X12_ringAt : kMV RX12 yX12_ringAt cX12_ringAt 3 (some .int) 1 := ⟨q_i_X12_ringAt, q_s_X12_ringAt, q_z_X12, q_c_X12_ringAt, by decide +kernel⟩
theorem mv_X12_begins : kMV RX12 yX12_begins cX12_begins 3 none 0 := ⟨q_i_X12_begins, q_s_X12_begins, q_z_X12, q_c_X12_begins, by decide +kernel⟩
theorem mv_X12_force : kMV RX12 yX12_force cX12_force 3 (some .int) 1 := ⟨q_i_X12_force, q_s_X12_force, q_z_X12, q_c_X12_force, by decide +kernel⟩
theorem mv_X12_ring : kMV RX12 yX12_ring cX12_ring 3 (some .int) 2 := ⟨q_i_X12_ring, q_s_X12_ring, q_z_X12, q_c_X12_ring, by decide +kernel⟩
theorem mv_X12_archer : kMV RX12 yX12_archer cX12_archer 3 (some .int) 2 := ⟨q_i_X12_archer, q_s_X12_archer, q_z_X12, q_c_X12_archer, by decide +kernel⟩
theorem mv_X12_wind : kMV RX12 yX12_wind cX12_wind 2 (some .int) 1 := ⟨q_i_X12_wind, q_s_X12_wind, q_z_X12, q_c_X12_wind, by decide +kernel⟩
theorem mv_X12_summedBy : kMV RX12 yX12_summedBy cX12_summedBy 4 (some .long) 1 := ⟨q_i_X12_summedBy, q_s_X12_summedBy, q_z_X12, q_c_X12_summedBy, by decide +kernel⟩
theorem mv_X12_sumOf : kMV RX12 yX12_sumOf cX12_sumOf 3 (some .long) 2 := ⟨q_i_X12_sumOf, q_s_X12_sumOf, q_z_X12, q_c_X12_sumOf, by decide +kernel⟩
theorem mv_X12_choice : kMV RX12 yX12_choice cX12_choice 8 (some .int) 1 := ⟨q_i_X12_choice, q_s_X12_choice, q_z_X12, q_c_X12_choice, by decide +kernel⟩
theorem mv_X12_downOf : kMV RX12 yX12_downOf cX12_downOf 4 (some .int) 2 := ⟨q_i_X12_downOf, q_s_X12_downOf, q_z_X12, q_c_X12_downOf, by decide +kernel⟩
theorem mv_X12_eases1 : kMV RX12 yX12_eases1 cX12_eases1 3 none 1 := ⟨q_i_X12_eases1, q_s_X12_eases1, q_z_X12, q_c_X12_eases1, by decide +kernel⟩
theorem mv_X12_shoots : kMV RX12 yX12_shoots cX12_shoots 5 (some .int) 2 := ⟨q_i_X12_shoots, q_s_X12_shoots, q_z_X12, q_c_X12_shoots, by decide +kernel⟩
theorem mv_X12_turnOf : kMV RX12 yX12_turnOf cX12_turnOf 3 (some .boolean) 1 := ⟨q_i_X12_turnOf, q_s_X12_turnOf, q_z_X12, q_c_X12_turnOf, by decide +kernel⟩
theorem mv_X12_passes : kMV RX12 yX12_passes cX12_passes 3 (some .int) 0 := ⟨q_i_X12_passes, q_s_X12_passes, q_z_X12, q_c_X12_passes, by decide +kernel⟩
theorem mv_X12_passesAll : kMV RX12 yX12_passesAll cX12_passesAll 3 none 1 := ⟨q_i_X12_passesAll, q_s_X12_passesAll, q_z_X12, q_c_X12_passesAll, by decide +kernel⟩
theorem mv_X12_keepsAct : kMV RX12 yX12_keepsAct cX12_keepsAct 2 none 0 := ⟨q_i_X12_keepsAct, q_s_X12_keepsAct, q_z_X12, q_c_X12_keepsAct, by decide +kernel⟩
theorem mv_X12_undo : kMV RX12 yX12_undo cX12_undo 2 (some .int) 0 := ⟨q_i_X12_undo, q_s_X12_undo, q_z_X12, q_c_X12_undo, by decide +kernel⟩
theorem mv_X12_round : kMV RX12 yX12_round cX12_round 1 (some .int) 0 := ⟨q_i_X12_round, q_s_X12_round, q_z_X12, q_c_X12_round, by decide +kernel⟩
theorem mv_X12_shoot : kMV RX12 yX12_shoot cX12_shoot 4 (some .int) 2 := ⟨q_i_X12_shoot, q_s_X12_shoot, q_z_X12, q_c_X12_shoot, by decide +kernel⟩
theorem mv_X12_pull : kMV RX12 yX12_pull cX12_pull 4 (some .int) 2 := ⟨q_i_X12_pull, q_s_X12_pull, q_z_X12, q_c_X12_pull, by decide +kernel⟩
theorem mv_X12_breath : kMV RX12 yX12_breath cX12_breath 2 (some .int) 1 := ⟨q_i_X12_breath, q_s_X12_breath, q_z_X12, q_c_X12_breath, by decide +kernel⟩
theorem mv_X12_teach : kMV RX12 yX12_teach cX12_teach 4 (some .int) 2 := ⟨q_i_X12_teach, q_s_X12_teach, q_z_X12, q_c_X12_teach, by decide +kernel⟩
theorem mv_X12_keeps : kMV RX12 yX12_keeps cX12_keeps 2 none 0 := ⟨q_i_X12_keeps, q_s_X12_keeps, q_z_X12, q_c_X12_keeps, by decide +kernel⟩
theorem mv_X12_laysBack : kMV RX12 yX12_laysBack cX12_laysBack 2 none 0 := ⟨q_i_X12_laysBack, q_s_X12_laysBack, q_z_X12, q_c_X12_laysBack, by decide +kernel⟩
theorem mv_X12_ahead : kMV RX12 yX12_ahead cX12_ahead 5 (some .int) 3 := ⟨q_i_X12_ahead, q_s_X12_ahead, q_z_X12, q_c_X12_ahead, by decide +kernel⟩
theorem mv_X12_easedIn : kMV RX12 yX12_easedIn cX12_easedIn 4 (some .int) 1 := ⟨q_i_X12_easedIn, q_s_X12_easedIn, q_z_X12, q_c_X12_easedIn, by decide +kernel⟩
theorem mv_X12_eased : kMV RX12 yX12_eased cX12_eased 2 (some .int) 1 := ⟨q_i_X12_eased, q_s_X12_eased, q_z_X12, q_c_X12_eased, by decide +kernel⟩
theorem mv_X12_allEased : kMV RX12 yX12_allEased cX12_allEased 1 (some .int) 0 := ⟨q_i_X12_allEased, q_s_X12_allEased, q_z_X12, q_c_X12_allEased, by decide +kernel⟩
theorem mv_X12_down : kMV RX12 yX12_down cX12_down 4 (some .int) 2 := ⟨q_i_X12_down, q_s_X12_down, q_z_X12, q_c_X12_down, by decide +kernel⟩
theorem mv_X12_easeBy : kMV RX12 yX12_easeBy cX12_easeBy 5 (some .int) 2 := ⟨q_i_X12_easeBy, q_s_X12_easeBy, q_z_X12, q_c_X12_easeBy, by decide +kernel⟩
theorem mv_X12_bestAim : kMV RX12 yX12_bestAim cX12_bestAim 6 (some .int) 2 := ⟨q_i_X12_bestAim, q_s_X12_bestAim, q_z_X12, q_c_X12_bestAim, by decide +kernel⟩
theorem mv_X12_nextRow : kMV RX12 yX12_nextRow cX12_nextRow 3 (some .boolean) 1 := ⟨q_i_X12_nextRow, q_s_X12_nextRow, q_z_X12, q_c_X12_nextRow, by decide +kernel⟩
theorem mv_X12_arrowsIn : kMV RX12 yX12_arrowsIn cX12_arrowsIn 4 (some .int) 1 := ⟨q_i_X12_arrowsIn, q_s_X12_arrowsIn, q_z_X12, q_c_X12_arrowsIn, by decide +kernel⟩
theorem mv_X12_easeByRow : kMV RX12 yX12_easeByRow cX12_easeByRow 5 (some .int) 2 := ⟨q_i_X12_easeByRow, q_s_X12_easeByRow, q_z_X12, q_c_X12_easeByRow, by decide +kernel⟩
theorem mv_X12_findsRow : kMV RX12 yX12_findsRow cX12_findsRow 8 (some .int) 2 := ⟨q_i_X12_findsRow, q_s_X12_findsRow, q_z_X12, q_c_X12_findsRow, by decide +kernel⟩
theorem mv_X12_row : kMV RX12 yX12_row cX12_row 5 (some .int) 3 := ⟨q_i_X12_row, q_s_X12_row, q_z_X12, q_c_X12_row, by decide +kernel⟩
theorem mv_X12_hold : kMV RX12 yX12_hold cX12_hold 4 (some .int) 1 := ⟨q_i_X12_hold, q_s_X12_hold, q_z_X12, q_c_X12_hold, by decide +kernel⟩
theorem mv_X12_leastSkill : kMV RX12 yX12_leastSkill cX12_leastSkill 5 (some .int) 2 := ⟨q_i_X12_leastSkill, q_s_X12_leastSkill, q_z_X12, q_c_X12_leastSkill, by decide +kernel⟩
theorem mv_X12_easeIn : kMV RX12 yX12_easeIn cX12_easeIn 4 (some .int) 1 := ⟨q_i_X12_easeIn, q_s_X12_easeIn, q_z_X12, q_c_X12_easeIn, by decide +kernel⟩
theorem mv_X12_set : kMV RX12 yX12_set cX12_set 8 (some .int) 3 := ⟨q_i_X12_set, q_s_X12_set, q_z_X12, q_c_X12_set, by decide +kernel⟩
theorem mv_X12_givesAll : kMV RX12 yX12_givesAll cX12_givesAll 4 none 1 := ⟨q_i_X12_givesAll, q_s_X12_givesAll, q_z_X12, q_c_X12_givesAll, by decide +kernel⟩
theorem mv_X12_given : kMV RX12 yX12_given cX12_given 7 (some .int) 2 := ⟨q_i_X12_given, q_s_X12_given, q_z_X12, q_c_X12_given, by decide +kernel⟩
theorem mv_X12_isRest : kMV RX12 yX12_isRest cX12_isRest 4 (some .boolean) 2 := ⟨q_i_X12_isRest, q_s_X12_isRest, q_z_X12, q_c_X12_isRest, by decide +kernel⟩
theorem mv_X12_hasThen : kMV RX12 yX12_hasThen cX12_hasThen 3 (some .int) 2 := ⟨q_i_X12_hasThen, q_s_X12_hasThen, q_z_X12, q_c_X12_hasThen, by decide +kernel⟩
theorem mv_X12_fillsRest : kMV RX12 yX12_fillsRest cX12_fillsRest 9 none 5 := ⟨q_i_X12_fillsRest, q_s_X12_fillsRest, q_z_X12, q_c_X12_fillsRest, by decide +kernel⟩
theorem mv_X12_rests : kMV RX12 yX12_rests cX12_rests 9 (some .int) 4 := ⟨q_i_X12_rests, q_s_X12_rests, q_z_X12, q_c_X12_rests, by decide +kernel⟩
theorem mv_X12_pence : kMV RX12 yX12_pence cX12_pence 13 (some .int) 2 := ⟨q_i_X12_pence, q_s_X12_pence, q_z_X12, q_c_X12_pence, by decide +kernel⟩
theorem mv_X12_note : kMV RX12 yX12_note cX12_note 5 (some .int) 3 := ⟨q_i_X12_note, q_s_X12_note, q_z_X12, q_c_X12_note, by decide +kernel⟩
theorem mv_X12_areNotesSo : kMV RX12 yX12_areNotesSo cX12_areNotesSo 3 (some .boolean) 1 := ⟨q_i_X12_areNotesSo, q_s_X12_areNotesSo, q_z_X12, q_c_X12_areNotesSo, by decide +kernel⟩
theorem mv_X12_areAllSo : kMV RX12 yX12_areAllSo cX12_areAllSo 6 (some .boolean) 2 := ⟨q_i_X12_areAllSo, q_s_X12_areAllSo, q_z_X12, q_c_X12_areAllSo, by decide +kernel⟩
theorem mv_X12_fillsFits : kMV RX12 yX12_fillsFits cX12_fillsFits 4 none 1 := ⟨q_i_X12_fillsFits, q_s_X12_fillsFits, q_z_X12, q_c_X12_fillsFits, by decide +kernel⟩
theorem mv_X12_ruled : kMV RX12 yX12_ruled cX12_ruled 5 (some .int) 1 := ⟨q_i_X12_ruled, q_s_X12_ruled, q_z_X12, q_c_X12_ruled, by decide +kernel⟩
theorem mv_X12_alikeAt : kMV RX12 yX12_alikeAt cX12_alikeAt 6 (some .int) 1 := ⟨q_i_X12_alikeAt, q_s_X12_alikeAt, q_z_X12, q_c_X12_alikeAt, by decide +kernel⟩
theorem mv_X12_look : kMV RX12 yX12_look cX12_look 7 (some .int) 2 := ⟨q_i_X12_look, q_s_X12_look, q_z_X12, q_c_X12_look, by decide +kernel⟩
theorem mv_X12_canBe : kMV RX12 yX12_canBe cX12_canBe 7 (some .int) 3 := ⟨q_i_X12_canBe, q_s_X12_canBe, q_z_X12, q_c_X12_canBe, by decide +kernel⟩
theorem mv_X12_skilled : kMV RX12 yX12_skilled cX12_skilled 2 (some .int) 1 := ⟨q_i_X12_skilled, q_s_X12_skilled, q_z_X12, q_c_X12_skilled, by decide +kernel⟩
theorem mv_X12_ails : kMV RX12 yX12_ails cX12_ails 2 (some .int) 1 := ⟨q_i_X12_ails, q_s_X12_ails, q_z_X12, q_c_X12_ails, by decide +kernel⟩
theorem mv_X12_seed : kMV RX12 yX12_seed cX12_seed 3 (some .int) 1 := ⟨q_i_X12_seed, q_s_X12_seed, q_z_X12, q_c_X12_seed, by decide +kernel⟩
theorem mv_X12_draw : kMV RX12 yX12_draw cX12_draw 2 (some .int) 1 := ⟨q_i_X12_draw, q_s_X12_draw, q_z_X12, q_c_X12_draw, by decide +kernel⟩
theorem mv_X12_gusts : kMV RX12 yX12_gusts cX12_gusts 10 (some .int) 4 := ⟨q_i_X12_gusts, q_s_X12_gusts, q_z_X12, q_c_X12_gusts, by decide +kernel⟩
theorem mv_X12_count : kMV RX12 yX12_count cX12_count 2 (some .int) 1 := ⟨q_i_X12_count, q_s_X12_count, q_z_X12, q_c_X12_count, by decide +kernel⟩
theorem mv_X12_image : kMV RX12 yX12_image cX12_image 3 (some .int) 1 := ⟨q_i_X12_image, q_s_X12_image, q_z_X12, q_c_X12_image, by decide +kernel⟩
theorem mv_X12_back : kMV RX12 yX12_back cX12_back 3 (some .int) 1 := ⟨q_i_X12_back, q_s_X12_back, q_z_X12, q_c_X12_back, by decide +kernel⟩
theorem ms_J9_max_7cf53 : kMS yJ9_max_7cf53 cJ9_max_7cf53 2 (some .int) 2 := ⟨q_s_J9_max_7cf53, q_z_J9, q_c_J9_max_7cf53, by decide +kernel⟩
theorem ms_J9_min_7cf53 : kMS yJ9_min_7cf53 cJ9_min_7cf53 2 (some .int) 2 := ⟨q_s_J9_min_7cf53, q_z_J9, q_c_J9_min_7cf53, by decide +kernel⟩
theorem mv_J0_length_8abf5 : kMV RJ0 yJ0_length_8abf5 cJ0_length_8abf5 1 (some .int) 0 := ⟨q_i_J0_length_8abf5, q_s_J0_length_8abf5, q_z_J0, q_c_J0_length_8abf5, by decide +kernel⟩
theorem mv_J0_charAt_5068e : kMV RJ0 yJ0_charAt_5068e cJ0_charAt_5068e 2 (some .char) 1 := ⟨q_i_J0_charAt_5068e, q_s_J0_charAt_5068e, q_z_J0, q_c_J0_charAt_5068e, by decide +kernel⟩
theorem mv_J0_coder_7d493 : kMV RJ0 yJ0_coder_7d493 cJ0_coder_7d493 1 (some .byte) 0 := ⟨q_i_J0_coder_7d493, q_s_J0_coder_7d493, q_z_J0, q_c_J0_coder_7d493, by decide +kernel⟩
theorem mv_J0_isLatin1_aae02 : kMV RJ0 yJ0_isLatin1_aae02 cJ0_isLatin1_aae02 1 (some .boolean) 0 := ⟨q_i_J0_isLatin1_aae02, q_s_J0_isLatin1_aae02, q_z_J0, q_c_J0_isLatin1_aae02, by decide +kernel⟩
theorem ms_J0_checkIndex_df160 : kMS yJ0_checkIndex_df160 cJ0_checkIndex_df160 2 none 2 := ⟨q_s_J0_checkIndex_df160, q_z_J0, q_c_J0_checkIndex_df160, by decide +kernel⟩
theorem ms_J1_charAt_3b067 : kMS yJ1_charAt_3b067 cJ1_charAt_3b067 2 (some .char) 2 := ⟨q_s_J1_charAt_3b067, q_z_J1, q_c_J1_charAt_3b067, by decide +kernel⟩
theorem ms_J2_getChar_3b067 : kMS yJ2_getChar_3b067 cJ2_getChar_3b067 2 (some .char) 2 := ⟨q_s_J2_getChar_3b067, q_z_J2, q_c_J2_getChar_3b067, by decide +kernel⟩
theorem ms_J2_length_9d52b : kMS yJ2_length_9d52b cJ2_length_9d52b 1 (some .int) 1 := ⟨q_s_J2_length_9d52b, q_z_J2, q_c_J2_length_9d52b, by decide +kernel⟩
theorem ms_J2_charAt_3b067 : kMS yJ2_charAt_3b067 cJ2_charAt_3b067 2 (some .char) 2 := ⟨q_s_J2_charAt_3b067, q_z_J2, q_c_J2_charAt_3b067, by decide +kernel⟩
theorem ms_J2_checkIndex_2214a : kMS yJ2_checkIndex_2214a cJ2_checkIndex_2214a 2 none 2 := ⟨q_s_J2_checkIndex_2214a, q_z_J2, q_c_J2_checkIndex_2214a, by decide +kernel⟩
theorem ms_J7_fill_53178 : kMS yJ7_fill_53178 cJ7_fill_53178 4 none 2 := ⟨q_s_J7_fill_53178, q_z_J7, q_c_J7_fill_53178, by decide +kernel⟩
theorem ms_J7_copyOf_59c91 : kMS yJ7_copyOf_59c91 cJ7_copyOf_59c91 3 (some (.array .int)) 2 := ⟨q_s_J7_copyOf_59c91, q_z_J7, q_c_J7_copyOf_59c91, by decide +kernel⟩
theorem ms_J3_checkIndex_8e157 : kMS yJ3_checkIndex_8e157 cJ3_checkIndex_8e157 3 (some .int) 3 := ⟨q_s_J3_checkIndex_8e157, q_z_J3, q_c_J3_checkIndex_8e157, by decide +kernel⟩
theorem inG_X0 : ∀ w ∈ u_ws RX0 TX0 3, w ∈ kGW := List.forall_mem_cons.mpr ⟨kin1 (i := 192) rfl rfl, List.forall_mem_cons.mpr ⟨kin1 (i := 194) rfl rfl, List.forall_mem_cons.mpr ⟨kin1 (i := 196) rfl rfl, fun _ h => absurd h List.not_mem_nil⟩⟩⟩
theorem dfX0 : ∀ j, j < 3 → defaultValue (tyX0 j) = vp_V [.null, .int 0, .int 0] j := fun j hj => match j, hj with
  | 0, _ => rfl
  | 1, _ => rfl
  | 2, _ => rfl
  | q + 3, h => absurd h (by omega)
theorem inG_X1 : ∀ w ∈ u_ws RX1 TX1 1, w ∈ kGW := List.forall_mem_cons.mpr ⟨kin1 (i := 98) rfl rfl, fun _ h => absurd h List.not_mem_nil⟩
theorem dfX1 : ∀ j, j < 1 → defaultValue (tyX1 j) = vp_V [.null] j := fun j hj => match j, hj with
  | 0, _ => rfl
  | q + 1, h => absurd h (by omega)
theorem inG_X2 : ∀ w ∈ u_ws RX2 TX2 5, w ∈ kGW := List.forall_mem_cons.mpr ⟨kin2 (i := 15) rfl rfl, List.forall_mem_cons.mpr ⟨kin2 (i := 17) rfl rfl, List.forall_mem_cons.mpr ⟨kin2 (i := 19) rfl rfl, List.forall_mem_cons.mpr ⟨kin2 (i := 21) rfl rfl, List.forall_mem_cons.mpr ⟨kin2 (i := 23) rfl rfl, fun _ h => absurd h List.not_mem_nil⟩⟩⟩⟩⟩
theorem dfX2 : ∀ j, j < 5 → defaultValue (tyX2 j) = vp_V [.int 0, .int 0, .int 0, .null, .null] j := fun j hj => match j, hj with
  | 0, _ => rfl
  | 1, _ => rfl
  | 2, _ => rfl
  | 3, _ => rfl
  | 4, _ => rfl
  | q + 5, h => absurd h (by omega)
theorem inG_X3 : ∀ w ∈ u_ws RX3 TX3 1, w ∈ kGW := List.forall_mem_cons.mpr ⟨kin1 (i := 103) rfl rfl, fun _ h => absurd h List.not_mem_nil⟩
theorem dfX3 : ∀ j, j < 1 → defaultValue (tyX3 j) = vp_V [.null] j := fun j hj => match j, hj with
  | 0, _ => rfl
  | q + 1, h => absurd h (by omega)
theorem inG_X4 : ∀ w ∈ u_ws RX4 TX4 6, w ∈ kGW := List.forall_mem_cons.mpr ⟨kin1 (i := 166) rfl rfl, List.forall_mem_cons.mpr ⟨kin1 (i := 168) rfl rfl, List.forall_mem_cons.mpr ⟨kin1 (i := 170) rfl rfl, List.forall_mem_cons.mpr ⟨kin1 (i := 172) rfl rfl, List.forall_mem_cons.mpr ⟨kin1 (i := 174) rfl rfl, List.forall_mem_cons.mpr ⟨kin1 (i := 176) rfl rfl, fun _ h => absurd h List.not_mem_nil⟩⟩⟩⟩⟩⟩
theorem dfX4 : ∀ j, j < 6 → defaultValue (tyX4 j) = vp_V [.null, .null, .null, .int 0, .int 0, .int 0] j := fun j hj => match j, hj with
  | 0, _ => rfl
  | 1, _ => rfl
  | 2, _ => rfl
  | 3, _ => rfl
  | 4, _ => rfl
  | 5, _ => rfl
  | q + 6, h => absurd h (by omega)
theorem inG_X5 : ∀ w ∈ u_ws RX5 TX5 4, w ∈ kGW := List.forall_mem_cons.mpr ⟨kin1 (i := 143) rfl rfl, List.forall_mem_cons.mpr ⟨kin1 (i := 145) rfl rfl, List.forall_mem_cons.mpr ⟨kin1 (i := 147) rfl rfl, List.forall_mem_cons.mpr ⟨kin1 (i := 149) rfl rfl, fun _ h => absurd h List.not_mem_nil⟩⟩⟩⟩
theorem dfX5 : ∀ j, j < 4 → defaultValue (tyX5 j) = vp_V [.null, .null, .null, .int 0] j := fun j hj => match j, hj with
  | 0, _ => rfl
  | 1, _ => rfl
  | 2, _ => rfl
  | 3, _ => rfl
  | q + 4, h => absurd h (by omega)
theorem inG_X6 : ∀ w ∈ u_ws RX6 TX6 8, w ∈ kGW := List.forall_mem_cons.mpr ⟨kin1 (i := 223) rfl rfl, List.forall_mem_cons.mpr ⟨kin1 (i := 225) rfl rfl, List.forall_mem_cons.mpr ⟨kin1 (i := 227) rfl rfl, List.forall_mem_cons.mpr ⟨kin1 (i := 229) rfl rfl, List.forall_mem_cons.mpr ⟨kin1 (i := 231) rfl rfl, List.forall_mem_cons.mpr ⟨kin1 (i := 233) rfl rfl, List.forall_mem_cons.mpr ⟨kin1 (i := 235) rfl rfl, List.forall_mem_cons.mpr ⟨kin1 (i := 237) rfl rfl, fun _ h => absurd h List.not_mem_nil⟩⟩⟩⟩⟩⟩⟩⟩
theorem dfX6 : ∀ j, j < 8 → defaultValue (tyX6 j) = vp_V [.null, .null, .null, .int 0, .int 0, .null, .null, .null] j := fun j hj => match j, hj with
  | 0, _ => rfl
  | 1, _ => rfl
  | 2, _ => rfl
  | 3, _ => rfl
  | 4, _ => rfl
  | 5, _ => rfl
  | 6, _ => rfl
  | 7, _ => rfl
  | q + 8, h => absurd h (by omega)
theorem inG_X7 : ∀ w ∈ u_ws RX7 TX7 2, w ∈ kGW := List.forall_mem_cons.mpr ⟨kin3 (i := 94) rfl rfl, List.forall_mem_cons.mpr ⟨kin3 (i := 96) rfl rfl, fun _ h => absurd h List.not_mem_nil⟩⟩
theorem dfX7 : ∀ j, j < 2 → defaultValue (tyX7 j) = vp_V [.null, .int 0] j := fun j hj => match j, hj with
  | 0, _ => rfl
  | 1, _ => rfl
  | q + 2, h => absurd h (by omega)
theorem inG_X8 : ∀ w ∈ u_ws RX8 TX8 3, w ∈ kGW := List.forall_mem_cons.mpr ⟨kin1 (i := 115) rfl rfl, List.forall_mem_cons.mpr ⟨kin1 (i := 117) rfl rfl, List.forall_mem_cons.mpr ⟨kin1 (i := 119) rfl rfl, fun _ h => absurd h List.not_mem_nil⟩⟩⟩
theorem dfX8 : ∀ j, j < 3 → defaultValue (tyX8 j) = vp_V [.null, .int 0, .int 0] j := fun j hj => match j, hj with
  | 0, _ => rfl
  | 1, _ => rfl
  | 2, _ => rfl
  | q + 3, h => absurd h (by omega)
theorem inG_X9 : ∀ w ∈ u_ws RX9 TX9 3, w ∈ kGW := List.forall_mem_cons.mpr ⟨kin2 (i := 38) rfl rfl, List.forall_mem_cons.mpr ⟨kin2 (i := 40) rfl rfl, List.forall_mem_cons.mpr ⟨kin2 (i := 42) rfl rfl, fun _ h => absurd h List.not_mem_nil⟩⟩⟩
theorem dfX9 : ∀ j, j < 3 → defaultValue (tyX9 j) = vp_V [.int 0, .int 0, .null] j := fun j hj => match j, hj with
  | 0, _ => rfl
  | 1, _ => rfl
  | 2, _ => rfl
  | q + 3, h => absurd h (by omega)
theorem inG_X10 : ∀ w ∈ u_ws RX10 TX10 11, w ∈ kGW := List.forall_mem_cons.mpr ⟨kin1 (i := 55) rfl rfl, List.forall_mem_cons.mpr ⟨kin1 (i := 57) rfl rfl, List.forall_mem_cons.mpr ⟨kin1 (i := 59) rfl rfl, List.forall_mem_cons.mpr ⟨kin1 (i := 61) rfl rfl, List.forall_mem_cons.mpr ⟨kin1 (i := 63) rfl rfl, List.forall_mem_cons.mpr ⟨kin1 (i := 65) rfl rfl, List.forall_mem_cons.mpr ⟨kin1 (i := 67) rfl rfl, List.forall_mem_cons.mpr ⟨kin1 (i := 69) rfl rfl, List.forall_mem_cons.mpr ⟨kin1 (i := 71) rfl rfl, List.forall_mem_cons.mpr ⟨kin1 (i := 73) rfl rfl, List.forall_mem_cons.mpr ⟨kin1 (i := 75) rfl rfl, fun _ h => absurd h List.not_mem_nil⟩⟩⟩⟩⟩⟩⟩⟩⟩⟩⟩
theorem dfX10 : ∀ j, j < 11 → defaultValue (tyX10 j) = vp_V [.null, .int 0, .null, .null, .null, .int 0, .int 0, .int 0, .int 0, .int 0, .int 0] j := fun j hj => match j, hj with
  | 0, _ => rfl
  | 1, _ => rfl
  | 2, _ => rfl
  | 3, _ => rfl
  | 4, _ => rfl
  | 5, _ => rfl
  | 6, _ => rfl
  | 7, _ => rfl
  | 8, _ => rfl
  | 9, _ => rfl
  | 10, _ => rfl
  | q + 11, h => absurd h (by omega)
theorem inG_X11 : ∀ w ∈ u_ws RX11 TX11 11, w ∈ kGW := List.forall_mem_cons.mpr ⟨kin2 (i := 56) rfl rfl, List.forall_mem_cons.mpr ⟨kin2 (i := 58) rfl rfl, List.forall_mem_cons.mpr ⟨kin2 (i := 60) rfl rfl, List.forall_mem_cons.mpr ⟨kin2 (i := 62) rfl rfl, List.forall_mem_cons.mpr ⟨kin2 (i := 64) rfl rfl, List.forall_mem_cons.mpr ⟨kin2 (i := 66) rfl rfl, List.forall_mem_cons.mpr ⟨kin2 (i := 68) rfl rfl, List.forall_mem_cons.mpr ⟨kin2 (i := 70) rfl rfl, List.forall_mem_cons.mpr ⟨kin2 (i := 72) rfl rfl, List.forall_mem_cons.mpr ⟨kin2 (i := 74) rfl rfl, List.forall_mem_cons.mpr ⟨kin2 (i := 76) rfl rfl, fun _ h => absurd h List.not_mem_nil⟩⟩⟩⟩⟩⟩⟩⟩⟩⟩⟩
theorem dfX11 : ∀ j, j < 11 → defaultValue (tyX11 j) = vp_V [.null, .null, .null, .null, .int 0, .null, .null, .null, .null, .null, .null] j := fun j hj => match j, hj with
  | 0, _ => rfl
  | 1, _ => rfl
  | 2, _ => rfl
  | 3, _ => rfl
  | 4, _ => rfl
  | 5, _ => rfl
  | 6, _ => rfl
  | 7, _ => rfl
  | 8, _ => rfl
  | 9, _ => rfl
  | 10, _ => rfl
  | q + 11, h => absurd h (by omega)
theorem inG_X12 : ∀ w ∈ u_ws RX12 TX12 39, w ∈ kGW := List.forall_mem_cons.mpr ⟨kin5 (i := 7) rfl rfl, List.forall_mem_cons.mpr ⟨kin5 (i := 9) rfl rfl, List.forall_mem_cons.mpr ⟨kin5 (i := 11) rfl rfl, List.forall_mem_cons.mpr ⟨kin5 (i := 13) rfl rfl, List.forall_mem_cons.mpr ⟨kin5 (i := 15) rfl rfl, List.forall_mem_cons.mpr ⟨kin5 (i := 17) rfl rfl, List.forall_mem_cons.mpr ⟨kin5 (i := 19) rfl rfl, List.forall_mem_cons.mpr ⟨kin5 (i := 21) rfl rfl, List.forall_mem_cons.mpr ⟨kin5 (i := 23) rfl rfl, List.forall_mem_cons.mpr ⟨kin5 (i := 25) rfl rfl, List.forall_mem_cons.mpr ⟨kin5 (i := 27) rfl rfl, List.forall_mem_cons.mpr ⟨kin5 (i := 29) rfl rfl, List.forall_mem_cons.mpr ⟨kin5 (i := 31) rfl rfl, List.forall_mem_cons.mpr ⟨kin5 (i := 33) rfl rfl, List.forall_mem_cons.mpr ⟨kin5 (i := 35) rfl rfl, List.forall_mem_cons.mpr ⟨kin5 (i := 37) rfl rfl, List.forall_mem_cons.mpr ⟨kin5 (i := 39) rfl rfl, List.forall_mem_cons.mpr ⟨kin5 (i := 41) rfl rfl, List.forall_mem_cons.mpr ⟨kin5 (i := 43) rfl rfl, List.forall_mem_cons.mpr ⟨kin5 (i := 45) rfl rfl, List.forall_mem_cons.mpr ⟨kin5 (i := 47) rfl rfl, List.forall_mem_cons.mpr ⟨kin5 (i := 49) rfl rfl, List.forall_mem_cons.mpr ⟨kin5 (i := 51) rfl rfl, List.forall_mem_cons.mpr ⟨kin5 (i := 53) rfl rfl, List.forall_mem_cons.mpr ⟨kin5 (i := 55) rfl rfl, List.forall_mem_cons.mpr ⟨kin5 (i := 57) rfl rfl, List.forall_mem_cons.mpr ⟨kin5 (i := 59) rfl rfl, List.forall_mem_cons.mpr ⟨kin5 (i := 61) rfl rfl, List.forall_mem_cons.mpr ⟨kin5 (i := 63) rfl rfl, List.forall_mem_cons.mpr ⟨kin5 (i := 65) rfl rfl, List.forall_mem_cons.mpr ⟨kin5 (i := 67) rfl rfl, List.forall_mem_cons.mpr ⟨kin5 (i := 69) rfl rfl, List.forall_mem_cons.mpr ⟨kin5 (i := 71) rfl rfl, List.forall_mem_cons.mpr ⟨kin5 (i := 73) rfl rfl, List.forall_mem_cons.mpr ⟨kin5 (i := 75) rfl rfl, List.forall_mem_cons.mpr ⟨kin5 (i := 77) rfl rfl, List.forall_mem_cons.mpr ⟨kin5 (i := 79) rfl rfl, List.forall_mem_cons.mpr ⟨kin5 (i := 81) rfl rfl, List.forall_mem_cons.mpr ⟨kin5 (i := 83) rfl rfl, fun _ h => absurd h List.not_mem_nil⟩⟩⟩⟩⟩⟩⟩⟩⟩⟩⟩⟩⟩⟩⟩⟩⟩⟩⟩⟩⟩⟩⟩⟩⟩⟩⟩⟩⟩⟩⟩⟩⟩⟩⟩⟩⟩⟩⟩
theorem dfX12 : ∀ j, j < 39 → defaultValue (tyX12 j) = vp_V [.null, .int 0, .int 0, .null, .null, .null, .null, .null, .int 0, .int 0, .int 0, .int 0, .int 0, .int 0, .int 0, .null, .int 0, .null, .int 0, .null, .null, .int 0, .int 0, .int 0, .null, .null, .null, .int 0, .null, .null, .null, .null, .null, .null, .long 0, .null, .null, .null, .null] j := fun j hj => match j, hj with
  | 0, _ => rfl
  | 1, _ => rfl
  | 2, _ => rfl
  | 3, _ => rfl
  | 4, _ => rfl
  | 5, _ => rfl
  | 6, _ => rfl
  | 7, _ => rfl
  | 8, _ => rfl
  | 9, _ => rfl
  | 10, _ => rfl
  | 11, _ => rfl
  | 12, _ => rfl
  | 13, _ => rfl
  | 14, _ => rfl
  | 15, _ => rfl
  | 16, _ => rfl
  | 17, _ => rfl
  | 18, _ => rfl
  | 19, _ => rfl
  | 20, _ => rfl
  | 21, _ => rfl
  | 22, _ => rfl
  | 23, _ => rfl
  | 24, _ => rfl
  | 25, _ => rfl
  | 26, _ => rfl
  | 27, _ => rfl
  | 28, _ => rfl
  | 29, _ => rfl
  | 30, _ => rfl
  | 31, _ => rfl
  | 32, _ => rfl
  | 33, _ => rfl
  | 34, _ => rfl
  | 35, _ => rfl
  | 36, _ => rfl
  | 37, _ => rfl
  | 38, _ => rfl
  | q + 39, h => absurd h (by omega)
