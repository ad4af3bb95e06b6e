theorem wd_0 : (.selects RX0 yX0_isInText yX0_isInText : Cond) ∈ lw_big := in_big (i := 0) (by decide +kernel) rfl
theorem wd_1 : (.selects RX0 yX0_stepOfTwo yX0_stepOfTwo : Cond) ∈ lw_big := in_big (i := 1) (by decide +kernel) rfl
theorem wd_2 : (.selects RX0 yX0_turnGoes yX0_turnGoes : Cond) ∈ lw_big := in_big (i := 2) (by decide +kernel) rfl
theorem wd_3 : (.selects RX0 yX0_aimOf yX0_aimOf : Cond) ∈ lw_big := in_big (i := 3) (by decide +kernel) rfl
theorem wd_4 : (.selects RX0 yX0_wordAt yX0_wordAt : Cond) ∈ lw_big := in_big (i := 4) (by decide +kernel) rfl
theorem wd_5 : (.selects RX0 yX0_isTextAddress yX0_isTextAddress : Cond) ∈ lw_big := in_big (i := 5) (by decide +kernel) rfl
theorem wd_6 : (.selects RX0 yX0_put yX0_put : Cond) ∈ lw_big := in_big (i := 6) (by decide +kernel) rfl
theorem wd_7 : (.selects RX0 yX0_perform yX0_perform : Cond) ∈ lw_big := in_big (i := 7) (by decide +kernel) rfl
theorem wd_8 : (.selects RX0 yX0_performFunction yX0_performFunction : Cond) ∈ lw_big := in_big (i := 8) (by decide +kernel) rfl
theorem wd_9 : (.selects RX0 yX0_performShift yX0_performShift : Cond) ∈ lw_big := in_big (i := 9) (by decide +kernel) rfl
theorem wd_10 : (.selects RX0 yX0_performSystem yX0_performSystem : Cond) ∈ lw_big := in_big (i := 10) (by decide +kernel) rfl
theorem wd_11 : (.selects RX0 yX0_readByte yX0_readByte : Cond) ∈ lw_big := in_big (i := 11) (by decide +kernel) rfl
theorem wd_12 : (.selects RX0 yX0_writeByte yX0_writeByte : Cond) ∈ lw_big := in_big (i := 12) (by decide +kernel) rfl
theorem wd_13 : (.selects RX0 yX0_performHiLo yX0_performHiLo : Cond) ∈ lw_big := in_big (i := 13) (by decide +kernel) rfl
theorem wd_14 : (.selects RX0 yX0_putProduct yX0_putProduct : Cond) ∈ lw_big := in_big (i := 14) (by decide +kernel) rfl
theorem wd_15 : (.selects RX0 yX0_divide yX0_divide : Cond) ∈ lw_big := in_big (i := 15) (by decide +kernel) rfl
theorem wd_16 : (.selects RX0 yX0_performArithmetic yX0_performArithmetic : Cond) ∈ lw_big := in_big (i := 16) (by decide +kernel) rfl
theorem wd_17 : (.selects RX0 yX0_putUnlessOverflow yX0_putUnlessOverflow : Cond) ∈ lw_big := in_big (i := 17) (by decide +kernel) rfl
theorem wd_18 : (.selects RX0 yX0_performImmediate yX0_performImmediate : Cond) ∈ lw_big := in_big (i := 18) (by decide +kernel) rfl
theorem wd_19 : (.selects RX0 yX0_performAccess yX0_performAccess : Cond) ∈ lw_big := in_big (i := 19) (by decide +kernel) rfl
theorem wd_20 : (.selects RX0 yX0_store yX0_store : Cond) ∈ lw_big := in_big (i := 20) (by decide +kernel) rfl
theorem wd_21 : (.selects RX0 yX0_load yX0_load : Cond) ∈ lw_big := in_big (i := 21) (by decide +kernel) rfl
theorem wd_22 : (.selects RX0 yX0_stepOfOne yX0_stepOfOne : Cond) ∈ lw_big := in_big (i := 22) (by decide +kernel) rfl
theorem wd_23 : (.selects RX1 yX1_two yX1_two : Cond) ∈ lw_big := in_big (i := 23) (by decide +kernel) rfl
theorem wd_24 : (.selects RX1 yX1_aim yX1_aim : Cond) ∈ lw_big := in_big (i := 24) (by decide +kernel) rfl
theorem wd_25 : (.selects RX1 yX1_isText yX1_isText : Cond) ∈ lw_big := in_big (i := 25) (by decide +kernel) rfl
theorem wd_26 : (.selects RX1 yX1_put yX1_put : Cond) ∈ lw_big := in_big (i := 26) (by decide +kernel) rfl
theorem wd_27 : (.selects RX1 yX1_atOnce yX1_atOnce : Cond) ∈ lw_big := in_big (i := 27) (by decide +kernel) rfl
theorem wd_28 : (.selects RX1 yX1_byFunction yX1_byFunction : Cond) ∈ lw_big := in_big (i := 28) (by decide +kernel) rfl
theorem wd_29 : (.selects RX1 yX1_shiftOf yX1_shiftOf : Cond) ∈ lw_big := in_big (i := 29) (by decide +kernel) rfl
theorem wd_30 : (.selects RX1 yX1_system yX1_system : Cond) ∈ lw_big := in_big (i := 30) (by decide +kernel) rfl
theorem wd_31 : (.selects RX1 yX1_halves yX1_halves : Cond) ∈ lw_big := in_big (i := 31) (by decide +kernel) rfl
theorem wd_32 : (.selects RX1 yX1_divide yX1_divide : Cond) ∈ lw_big := in_big (i := 32) (by decide +kernel) rfl
theorem wd_33 : (.selects RX1 yX1_divideBare yX1_divideBare : Cond) ∈ lw_big := in_big (i := 33) (by decide +kernel) rfl
theorem wd_34 : (.selects RX1 yX1_sum yX1_sum : Cond) ∈ lw_big := in_big (i := 34) (by decide +kernel) rfl
theorem wd_35 : (.selects RX1 yX1_load yX1_load : Cond) ∈ lw_big := in_big (i := 35) (by decide +kernel) rfl
theorem wd_36 : (.selects RX1 yX1_store yX1_store : Cond) ∈ lw_big := in_big (i := 36) (by decide +kernel) rfl
theorem wd_38 : (.initialized RX0 : Cond) ∈ lw_big := in_big (i := 38) (by decide +kernel) rfl
theorem wd_39 : (.initialized RX1 : Cond) ∈ lw_big := in_big (i := 39) (by decide +kernel) rfl
theorem wd_40 : (.classLink RL 7 RX0 : Cond) ∈ lw_big := in_big (i := 40) (by decide +kernel) rfl
theorem wd_41 : (.instantiable RX0 15 : Cond) ∈ lw_big := in_big (i := 41) (by decide +kernel) rfl
theorem wd_42 : (.methodLink RL 9 yX0_init : Cond) ∈ lw_big := in_big (i := 42) (by decide +kernel) rfl
theorem wd_43 : (.instanceMethod yX0_init : Cond) ∈ lw_big := in_big (i := 43) (by decide +kernel) rfl
theorem wd_44 : (.code yX0_init cX0_init 1 (none) : Cond) ∈ lw_big := in_big (i := 44) (rfl) rfl
theorem wd_45 : (.methodLink RX0 1 objectInit : Cond) ∈ lw_big := in_big (i := 45) (by decide +kernel) rfl
theorem wd_46 : (.instanceMethod objectInit : Cond) ∈ lw_big := in_big (i := 46) (by decide +kernel) rfl
theorem wd_47 : (.code objectInit ⟨#[0xb1]⟩ 1 none : Cond) ∈ lw_big := in_big (i := 47) (rfl) rfl
theorem wd_48 : (.constant RX0 28 268435712 : Cond) ∈ lw_big := in_big (i := 48) (by decide +kernel) rfl
theorem wd_49 : (.fieldLink RX0 9 "GuestRunner" "draft" "[I" : Cond) ∈ lw_big := in_big (i := 49) (by decide +kernel) rfl
theorem wd_50 : (.fieldLink RX0 29 "GuestRunner" "draftCount" "I" : Cond) ∈ lw_big := in_big (i := 50) (by decide +kernel) rfl
theorem wd_51 : (.fieldLink RX0 13 "GuestRunner" "text" "[I" : Cond) ∈ lw_big := in_big (i := 51) (by decide +kernel) rfl
theorem wd_52 : (.fieldLink RX0 43 "GuestRunner" "textCount" "I" : Cond) ∈ lw_big := in_big (i := 52) (by decide +kernel) rfl
theorem wd_53 : (.fieldLink RX0 16 "GuestRunner" "registers" "[I" : Cond) ∈ lw_big := in_big (i := 53) (by decide +kernel) rfl
theorem wd_54 : (.fieldLink RX0 19 "GuestRunner" "memory" "[I" : Cond) ∈ lw_big := in_big (i := 54) (by decide +kernel) rfl
theorem wd_55 : (.fieldLink RX0 22 "GuestRunner" "tapeIn" "[I" : Cond) ∈ lw_big := in_big (i := 55) (by decide +kernel) rfl
theorem wd_56 : (.fieldLink RX0 37 "GuestRunner" "inCount" "I" : Cond) ∈ lw_big := in_big (i := 56) (by decide +kernel) rfl
theorem wd_57 : (.fieldLink RX0 46 "GuestRunner" "inRead" "I" : Cond) ∈ lw_big := in_big (i := 57) (by decide +kernel) rfl
theorem wd_58 : (.fieldLink RX0 25 "GuestRunner" "tapeOut" "[I" : Cond) ∈ lw_big := in_big (i := 58) (by decide +kernel) rfl
theorem wd_59 : (.fieldLink RX0 49 "GuestRunner" "outCount" "I" : Cond) ∈ lw_big := in_big (i := 59) (by decide +kernel) rfl
theorem wd_60 : (.fieldLink RX0 52 "GuestRunner" "pc" "I" : Cond) ∈ lw_big := in_big (i := 60) (by decide +kernel) rfl
theorem wd_61 : (.fieldLink RX0 55 "GuestRunner" "used" "I" : Cond) ∈ lw_big := in_big (i := 61) (by decide +kernel) rfl
theorem wd_62 : (.fieldLink RX0 58 "GuestRunner" "outcome" "I" : Cond) ∈ lw_big := in_big (i := 62) (by decide +kernel) rfl
theorem wd_63 : (.fieldLink RX0 61 "GuestRunner" "endCode" "I" : Cond) ∈ lw_big := in_big (i := 63) (by decide +kernel) rfl
theorem wd_95 : (.arrayClass .int : Cond) ∈ lw_big := in_big (i := 95) (by decide +kernel) rfl
theorem wd_96 : (.methodLink RL 13 yX0_word : Cond) ∈ lw_big := in_big (i := 96) (by decide +kernel) rfl
theorem wd_97 : (.instanceMethod yX0_word : Cond) ∈ lw_big := in_big (i := 97) (by decide +kernel) rfl
theorem wd_98 : (.selects RX0 yX0_word yX0_word : Cond) ∈ lw_big := in_big (i := 98) (by decide +kernel) rfl
theorem wd_99 : (.code yX0_word cX0_word 2 (some .int) : Cond) ∈ lw_big := in_big (i := 99) (rfl) rfl
theorem wd_100 : (.methodLink RL 18 yX0_set : Cond) ∈ lw_big := in_big (i := 100) (by decide +kernel) rfl
theorem wd_101 : (.instanceMethod yX0_set : Cond) ∈ lw_big := in_big (i := 101) (by decide +kernel) rfl
theorem wd_102 : (.selects RX0 yX0_set yX0_set : Cond) ∈ lw_big := in_big (i := 102) (by decide +kernel) rfl
theorem wd_103 : (.code yX0_set cX0_set 3 (some .int) : Cond) ∈ lw_big := in_big (i := 103) (rfl) rfl
theorem wd_104 : (.methodLink RL 23 yX0_input : Cond) ∈ lw_big := in_big (i := 104) (by decide +kernel) rfl
theorem wd_105 : (.instanceMethod yX0_input : Cond) ∈ lw_big := in_big (i := 105) (by decide +kernel) rfl
theorem wd_106 : (.selects RX0 yX0_input yX0_input : Cond) ∈ lw_big := in_big (i := 106) (by decide +kernel) rfl
theorem wd_107 : (.code yX0_input cX0_input 2 (some .int) : Cond) ∈ lw_big := in_big (i := 107) (rfl) rfl
theorem wd_108 : (.methodLink RX0 33 yX0_isByte : Cond) ∈ lw_big := in_big (i := 108) (by decide +kernel) rfl
theorem wd_109 : (.static yX0_isByte : Cond) ∈ lw_big := in_big (i := 109) (by decide +kernel) rfl
theorem wd_110 : (.code yX0_isByte cX0_isByte 1 (some .boolean) : Cond) ∈ lw_big := in_big (i := 110) (rfl) rfl
theorem wd_111 : (.methodLink RL 27 yX0_data : Cond) ∈ lw_big := in_big (i := 111) (by decide +kernel) rfl
theorem wd_112 : (.instanceMethod yX0_data : Cond) ∈ lw_big := in_big (i := 112) (by decide +kernel) rfl
theorem wd_113 : (.selects RX0 yX0_data yX0_data : Cond) ∈ lw_big := in_big (i := 113) (by decide +kernel) rfl
theorem wd_114 : (.code yX0_data cX0_data 3 (some .int) : Cond) ∈ lw_big := in_big (i := 114) (rfl) rfl
theorem wd_115 : (.methodLink RX0 40 yX0_isDataIndex : Cond) ∈ lw_big := in_big (i := 115) (by decide +kernel) rfl
theorem wd_116 : (.static yX0_isDataIndex : Cond) ∈ lw_big := in_big (i := 116) (by decide +kernel) rfl
theorem wd_117 : (.code yX0_isDataIndex cX0_isDataIndex 1 (some .boolean) : Cond) ∈ lw_big := in_big (i := 117) (rfl) rfl
theorem wd_118 : (.methodLink RL 31 yX0_begin : Cond) ∈ lw_big := in_big (i := 118) (by decide +kernel) rfl
theorem wd_119 : (.instanceMethod yX0_begin : Cond) ∈ lw_big := in_big (i := 119) (by decide +kernel) rfl
theorem wd_120 : (.selects RX0 yX0_begin yX0_begin : Cond) ∈ lw_big := in_big (i := 120) (by decide +kernel) rfl
theorem wd_121 : (.code yX0_begin cX0_begin 2 (some .int) : Cond) ∈ lw_big := in_big (i := 121) (rfl) rfl
theorem wd_122 : (.methodLink RL 36 yX0_run : Cond) ∈ lw_big := in_big (i := 122) (by decide +kernel) rfl
theorem wd_123 : (.instanceMethod yX0_run : Cond) ∈ lw_big := in_big (i := 123) (by decide +kernel) rfl
theorem wd_124 : (.selects RX0 yX0_run yX0_run : Cond) ∈ lw_big := in_big (i := 124) (by decide +kernel) rfl
theorem wd_125 : (.code yX0_run cX0_run 7 (some .int) : Cond) ∈ lw_big := in_big (i := 125) (rfl) rfl
theorem wd_126 : (.methodLink RX0 64 yX0_isInText : Cond) ∈ lw_big := in_big (i := 126) (by decide +kernel) rfl
theorem wd_128 : (.instanceMethod yX0_isInText : Cond) ∈ lw_big := in_big (i := 128) (by decide +kernel) rfl
theorem wd_129 : (.code yX0_isInText cX0_isInText 2 (some .boolean) : Cond) ∈ lw_big := in_big (i := 129) (rfl) rfl
theorem wd_130 : (.methodLink RX0 67 yX0_isTurn : Cond) ∈ lw_big := in_big (i := 130) (by decide +kernel) rfl
theorem wd_131 : (.static yX0_isTurn : Cond) ∈ lw_big := in_big (i := 131) (by decide +kernel) rfl
theorem wd_132 : (.code yX0_isTurn cX0_isTurn 3 (some .boolean) : Cond) ∈ lw_big := in_big (i := 132) (rfl) rfl
theorem wd_133 : (.methodLink RX0 78 yX0_opOf : Cond) ∈ lw_big := in_big (i := 133) (by decide +kernel) rfl
theorem wd_134 : (.static yX0_opOf : Cond) ∈ lw_big := in_big (i := 134) (by decide +kernel) rfl
theorem wd_135 : (.code yX0_opOf cX0_opOf 1 (some .int) : Cond) ∈ lw_big := in_big (i := 135) (rfl) rfl
theorem wd_136 : (.methodLink RX0 81 yX0_fOf : Cond) ∈ lw_big := in_big (i := 136) (by decide +kernel) rfl
theorem wd_137 : (.static yX0_fOf : Cond) ∈ lw_big := in_big (i := 137) (by decide +kernel) rfl
theorem wd_138 : (.code yX0_fOf cX0_fOf 1 (some .int) : Cond) ∈ lw_big := in_big (i := 138) (rfl) rfl
theorem wd_139 : (.methodLink RX0 84 yX0_tOf : Cond) ∈ lw_big := in_big (i := 139) (by decide +kernel) rfl
theorem wd_140 : (.static yX0_tOf : Cond) ∈ lw_big := in_big (i := 140) (by decide +kernel) rfl
theorem wd_141 : (.code yX0_tOf cX0_tOf 1 (some .int) : Cond) ∈ lw_big := in_big (i := 141) (rfl) rfl
theorem wd_142 : (.methodLink RX0 70 yX0_stepOfTwo : Cond) ∈ lw_big := in_big (i := 142) (by decide +kernel) rfl
theorem wd_144 : (.instanceMethod yX0_stepOfTwo : Cond) ∈ lw_big := in_big (i := 144) (by decide +kernel) rfl
theorem wd_145 : (.code yX0_stepOfTwo cX0_stepOfTwo 9 (some .int) : Cond) ∈ lw_big := in_big (i := 145) (rfl) rfl
theorem wd_146 : (.methodLink RX0 90 yX0_isBarredFromSlots : Cond) ∈ lw_big := in_big (i := 146) (by decide +kernel) rfl
theorem wd_147 : (.static yX0_isBarredFromSlots : Cond) ∈ lw_big := in_big (i := 147) (by decide +kernel) rfl
theorem wd_148 : (.code yX0_isBarredFromSlots cX0_isBarredFromSlots 2 (some .boolean) : Cond) ∈ lw_big := in_big (i := 148) (rfl) rfl
theorem wd_149 : (.methodLink RX0 93 yX0_turnGoes : Cond) ∈ lw_big := in_big (i := 149) (by decide +kernel) rfl
theorem wd_151 : (.instanceMethod yX0_turnGoes : Cond) ∈ lw_big := in_big (i := 151) (by decide +kernel) rfl
theorem wd_152 : (.code yX0_turnGoes cX0_turnGoes 4 (some .boolean) : Cond) ∈ lw_big := in_big (i := 152) (rfl) rfl
theorem wd_153 : (.methodLink RX0 109 yX0_sOf : Cond) ∈ lw_big := in_big (i := 153) (by decide +kernel) rfl
theorem wd_154 : (.static yX0_sOf : Cond) ∈ lw_big := in_big (i := 154) (by decide +kernel) rfl
theorem wd_155 : (.code yX0_sOf cX0_sOf 1 (some .int) : Cond) ∈ lw_big := in_big (i := 155) (rfl) rfl
theorem wd_156 : (.methodLink RX0 96 yX0_aimOf : Cond) ∈ lw_big := in_big (i := 156) (by decide +kernel) rfl
theorem wd_158 : (.instanceMethod yX0_aimOf : Cond) ∈ lw_big := in_big (i := 158) (by decide +kernel) rfl
theorem wd_159 : (.code yX0_aimOf cX0_aimOf 3 (some .int) : Cond) ∈ lw_big := in_big (i := 159) (rfl) rfl
theorem wd_160 : (.methodLink RX0 112 yX0_wordAt : Cond) ∈ lw_big := in_big (i := 160) (by decide +kernel) rfl
theorem wd_162 : (.instanceMethod yX0_wordAt : Cond) ∈ lw_big := in_big (i := 162) (by decide +kernel) rfl
theorem wd_163 : (.code yX0_wordAt cX0_wordAt 2 (some .int) : Cond) ∈ lw_big := in_big (i := 163) (rfl) rfl
theorem wd_164 : (.methodLink RX0 177 yX0_isTextAddress : Cond) ∈ lw_big := in_big (i := 164) (by decide +kernel) rfl
theorem wd_166 : (.instanceMethod yX0_isTextAddress : Cond) ∈ lw_big := in_big (i := 166) (by decide +kernel) rfl
theorem wd_167 : (.code yX0_isTextAddress cX0_isTextAddress 3 (some .boolean) : Cond) ∈ lw_big := in_big (i := 167) (rfl) rfl
theorem wd_168 : (.constant RX0 190 4194304 : Cond) ∈ lw_big := in_big (i := 168) (by decide +kernel) rfl
theorem wd_169 : (.methodLink RX0 102 yX0_addressOf : Cond) ∈ lw_big := in_big (i := 169) (by decide +kernel) rfl
theorem wd_170 : (.static yX0_addressOf : Cond) ∈ lw_big := in_big (i := 170) (by decide +kernel) rfl
theorem wd_171 : (.code yX0_addressOf cX0_addressOf 1 (some .int) : Cond) ∈ lw_big := in_big (i := 171) (rfl) rfl
theorem wd_172 : (.constant RX0 115 (-268435456) : Cond) ∈ lw_big := in_big (i := 172) (by decide +kernel) rfl
theorem wd_173 : (.constant RX0 116 67108863 : Cond) ∈ lw_big := in_big (i := 173) (by decide +kernel) rfl
theorem wd_174 : (.methodLink RX0 117 yX0_signedImmediate : Cond) ∈ lw_big := in_big (i := 174) (by decide +kernel) rfl
theorem wd_175 : (.static yX0_signedImmediate : Cond) ∈ lw_big := in_big (i := 175) (by decide +kernel) rfl
theorem wd_176 : (.code yX0_signedImmediate cX0_signedImmediate 1 (some .int) : Cond) ∈ lw_big := in_big (i := 176) (rfl) rfl
theorem wd_177 : (.methodLink RX0 99 yX0_linkRegisterOf : Cond) ∈ lw_big := in_big (i := 177) (by decide +kernel) rfl
theorem wd_178 : (.static yX0_linkRegisterOf : Cond) ∈ lw_big := in_big (i := 178) (by decide +kernel) rfl
theorem wd_179 : (.code yX0_linkRegisterOf cX0_linkRegisterOf 1 (some .int) : Cond) ∈ lw_big := in_big (i := 179) (rfl) rfl
theorem wd_180 : (.methodLink RX0 120 yX0_dOf : Cond) ∈ lw_big := in_big (i := 180) (by decide +kernel) rfl
theorem wd_181 : (.static yX0_dOf : Cond) ∈ lw_big := in_big (i := 181) (by decide +kernel) rfl
theorem wd_182 : (.code yX0_dOf cX0_dOf 1 (some .int) : Cond) ∈ lw_big := in_big (i := 182) (rfl) rfl
theorem wd_183 : (.methodLink RX0 105 yX0_put : Cond) ∈ lw_big := in_big (i := 183) (by decide +kernel) rfl
theorem wd_185 : (.instanceMethod yX0_put : Cond) ∈ lw_big := in_big (i := 185) (by decide +kernel) rfl
theorem wd_186 : (.code yX0_put cX0_put 3 (some .int) : Cond) ∈ lw_big := in_big (i := 186) (rfl) rfl
theorem wd_187 : (.methodLink RX0 87 yX0_perform : Cond) ∈ lw_big := in_big (i := 187) (by decide +kernel) rfl
theorem wd_189 : (.instanceMethod yX0_perform : Cond) ∈ lw_big := in_big (i := 189) (by decide +kernel) rfl
theorem wd_190 : (.code yX0_perform cX0_perform 3 (some .int) : Cond) ∈ lw_big := in_big (i := 190) (rfl) rfl
theorem wd_191 : (.methodLink RX0 123 yX0_performFunction : Cond) ∈ lw_big := in_big (i := 191) (by decide +kernel) rfl
theorem wd_193 : (.instanceMethod yX0_performFunction : Cond) ∈ lw_big := in_big (i := 193) (by decide +kernel) rfl
theorem wd_194 : (.code yX0_performFunction cX0_performFunction 3 (some .int) : Cond) ∈ lw_big := in_big (i := 194) (rfl) rfl
theorem wd_195 : (.methodLink RX0 132 yX0_performShift : Cond) ∈ lw_big := in_big (i := 195) (by decide +kernel) rfl
theorem wd_197 : (.instanceMethod yX0_performShift : Cond) ∈ lw_big := in_big (i := 197) (by decide +kernel) rfl
theorem wd_198 : (.code yX0_performShift cX0_performShift 6 (some .int) : Cond) ∈ lw_big := in_big (i := 198) (rfl) rfl
theorem wd_199 : (.methodLink RX0 145 yX0_hOf : Cond) ∈ lw_big := in_big (i := 199) (by decide +kernel) rfl
theorem wd_200 : (.static yX0_hOf : Cond) ∈ lw_big := in_big (i := 200) (by decide +kernel) rfl
theorem wd_201 : (.code yX0_hOf cX0_hOf 1 (some .int) : Cond) ∈ lw_big := in_big (i := 201) (rfl) rfl
theorem wd_202 : (.methodLink RX0 135 yX0_performSystem : Cond) ∈ lw_big := in_big (i := 202) (by decide +kernel) rfl
theorem wd_204 : (.instanceMethod yX0_performSystem : Cond) ∈ lw_big := in_big (i := 204) (by decide +kernel) rfl
theorem wd_205 : (.code yX0_performSystem cX0_performSystem 1 (some .int) : Cond) ∈ lw_big := in_big (i := 205) (rfl) rfl
theorem wd_206 : (.methodLink RX0 167 yX0_readByte : Cond) ∈ lw_big := in_big (i := 206) (by decide +kernel) rfl
theorem wd_208 : (.instanceMethod yX0_readByte : Cond) ∈ lw_big := in_big (i := 208) (by decide +kernel) rfl
theorem wd_209 : (.code yX0_readByte cX0_readByte 2 (some .int) : Cond) ∈ lw_big := in_big (i := 209) (rfl) rfl
theorem wd_210 : (.methodLink RX0 170 yX0_writeByte : Cond) ∈ lw_big := in_big (i := 210) (by decide +kernel) rfl
theorem wd_212 : (.instanceMethod yX0_writeByte : Cond) ∈ lw_big := in_big (i := 212) (by decide +kernel) rfl
theorem wd_213 : (.code yX0_writeByte cX0_writeByte 1 (some .int) : Cond) ∈ lw_big := in_big (i := 213) (rfl) rfl
theorem wd_214 : (.methodLink RX0 139 yX0_performHiLo : Cond) ∈ lw_big := in_big (i := 214) (by decide +kernel) rfl
theorem wd_216 : (.instanceMethod yX0_performHiLo : Cond) ∈ lw_big := in_big (i := 216) (by decide +kernel) rfl
theorem wd_217 : (.code yX0_performHiLo cX0_performHiLo 4 (some .int) : Cond) ∈ lw_big := in_big (i := 217) (rfl) rfl
theorem wd_218 : (.methodLink RX0 148 yX0_putProduct : Cond) ∈ lw_big := in_big (i := 218) (by decide +kernel) rfl
theorem wd_220 : (.instanceMethod yX0_putProduct : Cond) ∈ lw_big := in_big (i := 220) (by decide +kernel) rfl
theorem wd_221 : (.code yX0_putProduct cX0_putProduct 3 (some .int) : Cond) ∈ lw_big := in_big (i := 221) (rfl) rfl
theorem wd_222 : (.methodLink RX0 152 yX0_unsigned : Cond) ∈ lw_big := in_big (i := 222) (by decide +kernel) rfl
theorem wd_223 : (.static yX0_unsigned : Cond) ∈ lw_big := in_big (i := 223) (by decide +kernel) rfl
theorem wd_224 : (.code yX0_unsigned cX0_unsigned 1 (some .long) : Cond) ∈ lw_big := in_big (i := 224) (rfl) rfl
theorem wd_225 : (.constantLong RX0 188 4294967295 : Cond) ∈ lw_big := in_big (i := 225) (by decide +kernel) rfl
theorem wd_226 : (.methodLink RX0 156 yX0_divide : Cond) ∈ lw_big := in_big (i := 226) (by decide +kernel) rfl
theorem wd_228 : (.instanceMethod yX0_divide : Cond) ∈ lw_big := in_big (i := 228) (by decide +kernel) rfl
theorem wd_229 : (.code yX0_divide cX0_divide 5 (some .int) : Cond) ∈ lw_big := in_big (i := 229) (rfl) rfl
theorem wd_230 : (.methodLink RX0 142 yX0_performArithmetic : Cond) ∈ lw_big := in_big (i := 230) (by decide +kernel) rfl
theorem wd_232 : (.instanceMethod yX0_performArithmetic : Cond) ∈ lw_big := in_big (i := 232) (by decide +kernel) rfl
theorem wd_233 : (.code yX0_performArithmetic cX0_performArithmetic 5 (some .int) : Cond) ∈ lw_big := in_big (i := 233) (rfl) rfl
theorem wd_234 : (.methodLink RX0 160 yX0_putUnlessOverflow : Cond) ∈ lw_big := in_big (i := 234) (by decide +kernel) rfl
theorem wd_236 : (.instanceMethod yX0_putUnlessOverflow : Cond) ∈ lw_big := in_big (i := 236) (by decide +kernel) rfl
theorem wd_237 : (.code yX0_putUnlessOverflow cX0_putUnlessOverflow 4 (some .int) : Cond) ∈ lw_big := in_big (i := 237) (rfl) rfl
theorem wd_238 : (.methodLink RX0 126 yX0_performImmediate : Cond) ∈ lw_big := in_big (i := 238) (by decide +kernel) rfl
theorem wd_240 : (.instanceMethod yX0_performImmediate : Cond) ∈ lw_big := in_big (i := 240) (by decide +kernel) rfl
theorem wd_241 : (.code yX0_performImmediate cX0_performImmediate 6 (some .int) : Cond) ∈ lw_big := in_big (i := 241) (rfl) rfl
theorem wd_242 : (.methodLink RX0 164 yX0_plainImmediate : Cond) ∈ lw_big := in_big (i := 242) (by decide +kernel) rfl
theorem wd_243 : (.static yX0_plainImmediate : Cond) ∈ lw_big := in_big (i := 243) (by decide +kernel) rfl
theorem wd_244 : (.code yX0_plainImmediate cX0_plainImmediate 1 (some .int) : Cond) ∈ lw_big := in_big (i := 244) (rfl) rfl
theorem wd_245 : (.constant RX0 77 65535 : Cond) ∈ lw_big := in_big (i := 245) (by decide +kernel) rfl
theorem wd_246 : (.methodLink RX0 129 yX0_performAccess : Cond) ∈ lw_big := in_big (i := 246) (by decide +kernel) rfl
theorem wd_248 : (.instanceMethod yX0_performAccess : Cond) ∈ lw_big := in_big (i := 248) (by decide +kernel) rfl
theorem wd_249 : (.code yX0_performAccess cX0_performAccess 8 (some .int) : Cond) ∈ lw_big := in_big (i := 249) (rfl) rfl
theorem wd_250 : (.methodLink RX0 173 yX0_bytesOfAccess : Cond) ∈ lw_big := in_big (i := 250) (by decide +kernel) rfl
theorem wd_251 : (.static yX0_bytesOfAccess : Cond) ∈ lw_big := in_big (i := 251) (by decide +kernel) rfl
theorem wd_252 : (.code yX0_bytesOfAccess cX0_bytesOfAccess 1 (some .int) : Cond) ∈ lw_big := in_big (i := 252) (rfl) rfl
theorem wd_253 : (.constant RX0 176 268435456 : Cond) ∈ lw_big := in_big (i := 253) (by decide +kernel) rfl
theorem wd_254 : (.methodLink RX0 180 yX0_store : Cond) ∈ lw_big := in_big (i := 254) (by decide +kernel) rfl
theorem wd_256 : (.instanceMethod yX0_store : Cond) ∈ lw_big := in_big (i := 256) (by decide +kernel) rfl
theorem wd_257 : (.code yX0_store cX0_store 6 (some .int) : Cond) ∈ lw_big := in_big (i := 257) (rfl) rfl
theorem wd_258 : (.methodLink RX0 184 yX0_load : Cond) ∈ lw_big := in_big (i := 258) (by decide +kernel) rfl
theorem wd_260 : (.instanceMethod yX0_load : Cond) ∈ lw_big := in_big (i := 260) (by decide +kernel) rfl
theorem wd_261 : (.code yX0_load cX0_load 6 (some .int) : Cond) ∈ lw_big := in_big (i := 261) (rfl) rfl
theorem wd_262 : (.methodLink RX0 74 yX0_stepOfOne : Cond) ∈ lw_big := in_big (i := 262) (by decide +kernel) rfl
theorem wd_264 : (.instanceMethod yX0_stepOfOne : Cond) ∈ lw_big := in_big (i := 264) (by decide +kernel) rfl
theorem wd_265 : (.code yX0_stepOfOne cX0_stepOfOne 3 (some .int) : Cond) ∈ lw_big := in_big (i := 265) (rfl) rfl
theorem wd_266 : (.methodLink RL 40 yX0_register : Cond) ∈ lw_big := in_big (i := 266) (by decide +kernel) rfl
theorem wd_267 : (.instanceMethod yX0_register : Cond) ∈ lw_big := in_big (i := 267) (by decide +kernel) rfl
theorem wd_268 : (.selects RX0 yX0_register yX0_register : Cond) ∈ lw_big := in_big (i := 268) (by decide +kernel) rfl
theorem wd_269 : (.code yX0_register cX0_register 2 (some .int) : Cond) ∈ lw_big := in_big (i := 269) (rfl) rfl
theorem wd_270 : (.methodLink RL 44 yX0_give : Cond) ∈ lw_big := in_big (i := 270) (by decide +kernel) rfl
theorem wd_271 : (.instanceMethod yX0_give : Cond) ∈ lw_big := in_big (i := 271) (by decide +kernel) rfl
theorem wd_272 : (.selects RX0 yX0_give yX0_give : Cond) ∈ lw_big := in_big (i := 272) (by decide +kernel) rfl
theorem wd_273 : (.code yX0_give cX0_give 3 (some .int) : Cond) ∈ lw_big := in_big (i := 273) (rfl) rfl
theorem wd_274 : (.methodLink RL 48 yX0_byteOf : Cond) ∈ lw_big := in_big (i := 274) (by decide +kernel) rfl
theorem wd_275 : (.instanceMethod yX0_byteOf : Cond) ∈ lw_big := in_big (i := 275) (by decide +kernel) rfl
theorem wd_276 : (.selects RX0 yX0_byteOf yX0_byteOf : Cond) ∈ lw_big := in_big (i := 276) (by decide +kernel) rfl
theorem wd_277 : (.code yX0_byteOf cX0_byteOf 2 (some .int) : Cond) ∈ lw_big := in_big (i := 277) (rfl) rfl
theorem wd_278 : (.methodLink RL 52 yX0_output : Cond) ∈ lw_big := in_big (i := 278) (by decide +kernel) rfl
theorem wd_279 : (.instanceMethod yX0_output : Cond) ∈ lw_big := in_big (i := 279) (by decide +kernel) rfl
theorem wd_280 : (.selects RX0 yX0_output yX0_output : Cond) ∈ lw_big := in_big (i := 280) (by decide +kernel) rfl
theorem wd_281 : (.code yX0_output cX0_output 2 (some .int) : Cond) ∈ lw_big := in_big (i := 281) (rfl) rfl
theorem wd_282 : (.methodLink RL 56 yX0_code : Cond) ∈ lw_big := in_big (i := 282) (by decide +kernel) rfl
theorem wd_283 : (.instanceMethod yX0_code : Cond) ∈ lw_big := in_big (i := 283) (by decide +kernel) rfl
theorem wd_284 : (.selects RX0 yX0_code yX0_code : Cond) ∈ lw_big := in_big (i := 284) (by decide +kernel) rfl
theorem wd_285 : (.code yX0_code cX0_code 1 (some .int) : Cond) ∈ lw_big := in_big (i := 285) (rfl) rfl
theorem wd_286 : (.classLink RL 10 RX1 : Cond) ∈ lw_big := in_big (i := 286) (by decide +kernel) rfl
theorem wd_287 : (.instantiable RX1 19 : Cond) ∈ lw_big := in_big (i := 287) (by decide +kernel) rfl
theorem wd_288 : (.methodLink RL 12 yX1_init : Cond) ∈ lw_big := in_big (i := 288) (by decide +kernel) rfl
theorem wd_289 : (.instanceMethod yX1_init : Cond) ∈ lw_big := in_big (i := 289) (by decide +kernel) rfl
theorem wd_290 : (.code yX1_init cX1_init 1 (none) : Cond) ∈ lw_big := in_big (i := 290) (rfl) rfl
theorem wd_291 : (.methodLink RX1 1 objectInit : Cond) ∈ lw_big := in_big (i := 291) (by decide +kernel) rfl
theorem wd_292 : (.constant RX1 28 268435712 : Cond) ∈ lw_big := in_big (i := 292) (by decide +kernel) rfl
theorem wd_293 : (.fieldLink RX1 7 "GuestRunnerModel" "typed" "[I" : Cond) ∈ lw_big := in_big (i := 293) (by decide +kernel) rfl
theorem wd_294 : (.fieldLink RX1 29 "GuestRunnerModel" "typedSize" "I" : Cond) ∈ lw_big := in_big (i := 294) (by decide +kernel) rfl
theorem wd_295 : (.fieldLink RX1 13 "GuestRunnerModel" "text" "[I" : Cond) ∈ lw_big := in_big (i := 295) (by decide +kernel) rfl
theorem wd_296 : (.fieldLink RX1 36 "GuestRunnerModel" "size" "I" : Cond) ∈ lw_big := in_big (i := 296) (by decide +kernel) rfl
theorem wd_297 : (.fieldLink RX1 16 "GuestRunnerModel" "byteAt" "[I" : Cond) ∈ lw_big := in_big (i := 297) (by decide +kernel) rfl
theorem wd_298 : (.fieldLink RX1 19 "GuestRunnerModel" "in" "[I" : Cond) ∈ lw_big := in_big (i := 298) (by decide +kernel) rfl
theorem wd_299 : (.fieldLink RX1 33 "GuestRunnerModel" "inSize" "I" : Cond) ∈ lw_big := in_big (i := 299) (by decide +kernel) rfl
theorem wd_300 : (.fieldLink RX1 42 "GuestRunnerModel" "inAt" "I" : Cond) ∈ lw_big := in_big (i := 300) (by decide +kernel) rfl
theorem wd_301 : (.fieldLink RX1 22 "GuestRunnerModel" "out" "[I" : Cond) ∈ lw_big := in_big (i := 301) (by decide +kernel) rfl
theorem wd_302 : (.fieldLink RX1 45 "GuestRunnerModel" "outSize" "I" : Cond) ∈ lw_big := in_big (i := 302) (by decide +kernel) rfl
theorem wd_303 : (.fieldLink RX1 25 "GuestRunnerModel" "reg" "[I" : Cond) ∈ lw_big := in_big (i := 303) (by decide +kernel) rfl
theorem wd_304 : (.fieldLink RX1 39 "GuestRunnerModel" "pc" "I" : Cond) ∈ lw_big := in_big (i := 304) (by decide +kernel) rfl
theorem wd_305 : (.fieldLink RX1 48 "GuestRunnerModel" "used" "I" : Cond) ∈ lw_big := in_big (i := 305) (by decide +kernel) rfl
theorem wd_306 : (.fieldLink RX1 51 "GuestRunnerModel" "ended" "Z" : Cond) ∈ lw_big := in_big (i := 306) (by decide +kernel) rfl
theorem wd_307 : (.fieldLink RX1 55 "GuestRunnerModel" "trap" "I" : Cond) ∈ lw_big := in_big (i := 307) (by decide +kernel) rfl
theorem wd_308 : (.fieldLink RX1 58 "GuestRunnerModel" "exit" "I" : Cond) ∈ lw_big := in_big (i := 308) (by decide +kernel) rfl
theorem wd_309 : (.fieldLink RX1 71 "GuestRunnerModel" "goes" "Z" : Cond) ∈ lw_big := in_big (i := 309) (by decide +kernel) rfl
theorem wd_310 : (.fieldLink RX1 81 "GuestRunnerModel" "goal" "I" : Cond) ∈ lw_big := in_big (i := 310) (by decide +kernel) rfl
theorem wd_311 : (.fieldLink RX1 74 "GuestRunnerModel" "link" "I" : Cond) ∈ lw_big := in_big (i := 311) (by decide +kernel) rfl
theorem wd_351 : (.methodLink RL 17 yX1_word : Cond) ∈ lw_big := in_big (i := 351) (by decide +kernel) rfl
theorem wd_352 : (.instanceMethod yX1_word : Cond) ∈ lw_big := in_big (i := 352) (by decide +kernel) rfl
theorem wd_353 : (.selects RX1 yX1_word yX1_word : Cond) ∈ lw_big := in_big (i := 353) (by decide +kernel) rfl
theorem wd_354 : (.code yX1_word cX1_word 2 (some .int) : Cond) ∈ lw_big := in_big (i := 354) (rfl) rfl
theorem wd_355 : (.methodLink RL 22 yX1_set : Cond) ∈ lw_big := in_big (i := 355) (by decide +kernel) rfl
theorem wd_356 : (.instanceMethod yX1_set : Cond) ∈ lw_big := in_big (i := 356) (by decide +kernel) rfl
theorem wd_357 : (.selects RX1 yX1_set yX1_set : Cond) ∈ lw_big := in_big (i := 357) (by decide +kernel) rfl
theorem wd_358 : (.code yX1_set cX1_set 3 (some .int) : Cond) ∈ lw_big := in_big (i := 358) (rfl) rfl
theorem wd_359 : (.methodLink RL 26 yX1_input : Cond) ∈ lw_big := in_big (i := 359) (by decide +kernel) rfl
theorem wd_360 : (.instanceMethod yX1_input : Cond) ∈ lw_big := in_big (i := 360) (by decide +kernel) rfl
theorem wd_361 : (.selects RX1 yX1_input yX1_input : Cond) ∈ lw_big := in_big (i := 361) (by decide +kernel) rfl
theorem wd_362 : (.code yX1_input cX1_input 2 (some .int) : Cond) ∈ lw_big := in_big (i := 362) (rfl) rfl
theorem wd_363 : (.methodLink RL 30 yX1_data : Cond) ∈ lw_big := in_big (i := 363) (by decide +kernel) rfl
theorem wd_364 : (.instanceMethod yX1_data : Cond) ∈ lw_big := in_big (i := 364) (by decide +kernel) rfl
theorem wd_365 : (.selects RX1 yX1_data yX1_data : Cond) ∈ lw_big := in_big (i := 365) (by decide +kernel) rfl
theorem wd_366 : (.code yX1_data cX1_data 3 (some .int) : Cond) ∈ lw_big := in_big (i := 366) (rfl) rfl
theorem wd_367 : (.methodLink RL 35 yX1_begin : Cond) ∈ lw_big := in_big (i := 367) (by decide +kernel) rfl
theorem wd_368 : (.instanceMethod yX1_begin : Cond) ∈ lw_big := in_big (i := 368) (by decide +kernel) rfl
theorem wd_369 : (.selects RX1 yX1_begin yX1_begin : Cond) ∈ lw_big := in_big (i := 369) (by decide +kernel) rfl
theorem wd_370 : (.code yX1_begin cX1_begin 2 (some .int) : Cond) ∈ lw_big := in_big (i := 370) (rfl) rfl
theorem wd_371 : (.methodLink RL 39 yX1_run : Cond) ∈ lw_big := in_big (i := 371) (by decide +kernel) rfl
theorem wd_372 : (.instanceMethod yX1_run : Cond) ∈ lw_big := in_big (i := 372) (by decide +kernel) rfl
theorem wd_373 : (.selects RX1 yX1_run yX1_run : Cond) ∈ lw_big := in_big (i := 373) (by decide +kernel) rfl
theorem wd_374 : (.code yX1_run cX1_run 5 (some .int) : Cond) ∈ lw_big := in_big (i := 374) (rfl) rfl
theorem wd_375 : (.methodLink RX1 134 yX1_leads : Cond) ∈ lw_big := in_big (i := 375) (by decide +kernel) rfl
theorem wd_376 : (.static yX1_leads : Cond) ∈ lw_big := in_big (i := 376) (by decide +kernel) rfl
theorem wd_377 : (.code yX1_leads cX1_leads 4 (some .boolean) : Cond) ∈ lw_big := in_big (i := 377) (rfl) rfl
theorem wd_378 : (.methodLink RX1 61 yX1_op : Cond) ∈ lw_big := in_big (i := 378) (by decide +kernel) rfl
theorem wd_379 : (.static yX1_op : Cond) ∈ lw_big := in_big (i := 379) (by decide +kernel) rfl
theorem wd_380 : (.code yX1_op cX1_op 1 (some .int) : Cond) ∈ lw_big := in_big (i := 380) (rfl) rfl
theorem wd_381 : (.methodLink RX1 65 yX1_second : Cond) ∈ lw_big := in_big (i := 381) (by decide +kernel) rfl
theorem wd_382 : (.static yX1_second : Cond) ∈ lw_big := in_big (i := 382) (by decide +kernel) rfl
theorem wd_383 : (.code yX1_second cX1_second 1 (some .int) : Cond) ∈ lw_big := in_big (i := 383) (rfl) rfl
theorem wd_384 : (.methodLink RX1 147 yX1_two : Cond) ∈ lw_big := in_big (i := 384) (by decide +kernel) rfl
theorem wd_386 : (.instanceMethod yX1_two : Cond) ∈ lw_big := in_big (i := 386) (by decide +kernel) rfl
theorem wd_387 : (.code yX1_two cX1_two 5 (some .int) : Cond) ∈ lw_big := in_big (i := 387) (rfl) rfl
theorem wd_388 : (.methodLink RX1 137 yX1_calls : Cond) ∈ lw_big := in_big (i := 388) (by decide +kernel) rfl
theorem wd_389 : (.static yX1_calls : Cond) ∈ lw_big := in_big (i := 389) (by decide +kernel) rfl
theorem wd_390 : (.code yX1_calls cX1_calls 1 (some .boolean) : Cond) ∈ lw_big := in_big (i := 390) (rfl) rfl
theorem wd_391 : (.methodLink RX1 140 yX1_aim : Cond) ∈ lw_big := in_big (i := 391) (by decide +kernel) rfl
theorem wd_393 : (.instanceMethod yX1_aim : Cond) ∈ lw_big := in_big (i := 393) (by decide +kernel) rfl
theorem wd_394 : (.code yX1_aim cX1_aim 5 (none) : Cond) ∈ lw_big := in_big (i := 394) (rfl) rfl
theorem wd_395 : (.methodLink RX1 68 yX1_first : Cond) ∈ lw_big := in_big (i := 395) (by decide +kernel) rfl
theorem wd_396 : (.static yX1_first : Cond) ∈ lw_big := in_big (i := 396) (by decide +kernel) rfl
theorem wd_397 : (.code yX1_first cX1_first 1 (some .int) : Cond) ∈ lw_big := in_big (i := 397) (rfl) rfl
theorem wd_398 : (.constant RX1 77 4194304 : Cond) ∈ lw_big := in_big (i := 398) (by decide +kernel) rfl
theorem wd_399 : (.methodLink RX1 78 yX1_signed : Cond) ∈ lw_big := in_big (i := 399) (by decide +kernel) rfl
theorem wd_400 : (.static yX1_signed : Cond) ∈ lw_big := in_big (i := 400) (by decide +kernel) rfl
theorem wd_401 : (.code yX1_signed cX1_signed 1 (some .int) : Cond) ∈ lw_big := in_big (i := 401) (rfl) rfl
theorem wd_402 : (.methodLink RX1 84 yX1_third : Cond) ∈ lw_big := in_big (i := 402) (by decide +kernel) rfl
theorem wd_403 : (.static yX1_third : Cond) ∈ lw_big := in_big (i := 403) (by decide +kernel) rfl
theorem wd_404 : (.code yX1_third cX1_third 1 (some .int) : Cond) ∈ lw_big := in_big (i := 404) (rfl) rfl
theorem wd_405 : (.constant RX1 87 (-268435456) : Cond) ∈ lw_big := in_big (i := 405) (by decide +kernel) rfl
theorem wd_406 : (.constant RX1 88 67108863 : Cond) ∈ lw_big := in_big (i := 406) (by decide +kernel) rfl
theorem wd_407 : (.methodLink RX1 130 yX1_isText : Cond) ∈ lw_big := in_big (i := 407) (by decide +kernel) rfl
theorem wd_409 : (.instanceMethod yX1_isText : Cond) ∈ lw_big := in_big (i := 409) (by decide +kernel) rfl
theorem wd_410 : (.code yX1_isText cX1_isText 2 (some .boolean) : Cond) ∈ lw_big := in_big (i := 410) (rfl) rfl
theorem wd_411 : (.methodLink RX1 93 yX1_put : Cond) ∈ lw_big := in_big (i := 411) (by decide +kernel) rfl
theorem wd_413 : (.instanceMethod yX1_put : Cond) ∈ lw_big := in_big (i := 413) (by decide +kernel) rfl
theorem wd_414 : (.code yX1_put cX1_put 3 (none) : Cond) ∈ lw_big := in_big (i := 414) (rfl) rfl
theorem wd_415 : (.methodLink RX1 144 yX1_atOnce : Cond) ∈ lw_big := in_big (i := 415) (by decide +kernel) rfl
theorem wd_417 : (.instanceMethod yX1_atOnce : Cond) ∈ lw_big := in_big (i := 417) (by decide +kernel) rfl
theorem wd_418 : (.code yX1_atOnce cX1_atOnce 6 (some .int) : Cond) ∈ lw_big := in_big (i := 418) (rfl) rfl
theorem wd_419 : (.constant RX1 117 65535 : Cond) ∈ lw_big := in_big (i := 419) (by decide +kernel) rfl
theorem wd_420 : (.methodLink RX1 118 yX1_byFunction : Cond) ∈ lw_big := in_big (i := 420) (by decide +kernel) rfl
theorem wd_422 : (.instanceMethod yX1_byFunction : Cond) ∈ lw_big := in_big (i := 422) (by decide +kernel) rfl
theorem wd_423 : (.code yX1_byFunction cX1_byFunction 6 (some .int) : Cond) ∈ lw_big := in_big (i := 423) (rfl) rfl
theorem wd_424 : (.methodLink RX1 89 yX1_shiftOf : Cond) ∈ lw_big := in_big (i := 424) (by decide +kernel) rfl
theorem wd_426 : (.instanceMethod yX1_shiftOf : Cond) ∈ lw_big := in_big (i := 426) (by decide +kernel) rfl
theorem wd_427 : (.code yX1_shiftOf cX1_shiftOf 4 (some .int) : Cond) ∈ lw_big := in_big (i := 427) (rfl) rfl
theorem wd_428 : (.methodLink RX1 97 yX1_system : Cond) ∈ lw_big := in_big (i := 428) (by decide +kernel) rfl
theorem wd_430 : (.instanceMethod yX1_system : Cond) ∈ lw_big := in_big (i := 430) (by decide +kernel) rfl
theorem wd_431 : (.code yX1_system cX1_system 1 (some .int) : Cond) ∈ lw_big := in_big (i := 431) (rfl) rfl
theorem wd_432 : (.methodLink RX1 101 yX1_halves : Cond) ∈ lw_big := in_big (i := 432) (by decide +kernel) rfl
theorem wd_434 : (.instanceMethod yX1_halves : Cond) ∈ lw_big := in_big (i := 434) (by decide +kernel) rfl
theorem wd_435 : (.code yX1_halves cX1_halves 3 (none) : Cond) ∈ lw_big := in_big (i := 435) (rfl) rfl
theorem wd_436 : (.constantLong RX1 105 4294967295 : Cond) ∈ lw_big := in_big (i := 436) (by decide +kernel) rfl
theorem wd_437 : (.methodLink RX1 107 yX1_divide : Cond) ∈ lw_big := in_big (i := 437) (by decide +kernel) rfl
theorem wd_439 : (.instanceMethod yX1_divide : Cond) ∈ lw_big := in_big (i := 439) (by decide +kernel) rfl
theorem wd_440 : (.code yX1_divide cX1_divide 5 (none) : Cond) ∈ lw_big := in_big (i := 440) (rfl) rfl
theorem wd_441 : (.methodLink RX1 110 yX1_divideBare : Cond) ∈ lw_big := in_big (i := 441) (by decide +kernel) rfl
theorem wd_443 : (.instanceMethod yX1_divideBare : Cond) ∈ lw_big := in_big (i := 443) (by decide +kernel) rfl
theorem wd_444 : (.code yX1_divideBare cX1_divideBare 7 (none) : Cond) ∈ lw_big := in_big (i := 444) (rfl) rfl
theorem wd_445 : (.methodLink RX1 113 yX1_sum : Cond) ∈ lw_big := in_big (i := 445) (by decide +kernel) rfl
theorem wd_447 : (.instanceMethod yX1_sum : Cond) ∈ lw_big := in_big (i := 447) (by decide +kernel) rfl
theorem wd_448 : (.code yX1_sum cX1_sum 4 (some .int) : Cond) ∈ lw_big := in_big (i := 448) (rfl) rfl
theorem wd_449 : (.methodLink RX1 121 yX1_load : Cond) ∈ lw_big := in_big (i := 449) (by decide +kernel) rfl
theorem wd_451 : (.instanceMethod yX1_load : Cond) ∈ lw_big := in_big (i := 451) (by decide +kernel) rfl
theorem wd_452 : (.code yX1_load cX1_load 7 (some .int) : Cond) ∈ lw_big := in_big (i := 452) (rfl) rfl
theorem wd_453 : (.constant RX1 128 268435456 : Cond) ∈ lw_big := in_big (i := 453) (by decide +kernel) rfl
theorem wd_454 : (.constant RX1 129 268435711 : Cond) ∈ lw_big := in_big (i := 454) (by decide +kernel) rfl
theorem wd_455 : (.methodLink RX1 125 yX1_store : Cond) ∈ lw_big := in_big (i := 455) (by decide +kernel) rfl
theorem wd_457 : (.instanceMethod yX1_store : Cond) ∈ lw_big := in_big (i := 457) (by decide +kernel) rfl
theorem wd_458 : (.code yX1_store cX1_store 5 (some .int) : Cond) ∈ lw_big := in_big (i := 458) (rfl) rfl
theorem wd_459 : (.methodLink RL 43 yX1_register : Cond) ∈ lw_big := in_big (i := 459) (by decide +kernel) rfl
theorem wd_460 : (.instanceMethod yX1_register : Cond) ∈ lw_big := in_big (i := 460) (by decide +kernel) rfl
theorem wd_461 : (.selects RX1 yX1_register yX1_register : Cond) ∈ lw_big := in_big (i := 461) (by decide +kernel) rfl
theorem wd_462 : (.code yX1_register cX1_register 2 (some .int) : Cond) ∈ lw_big := in_big (i := 462) (rfl) rfl
theorem wd_463 : (.methodLink RL 47 yX1_give : Cond) ∈ lw_big := in_big (i := 463) (by decide +kernel) rfl
theorem wd_464 : (.instanceMethod yX1_give : Cond) ∈ lw_big := in_big (i := 464) (by decide +kernel) rfl
theorem wd_465 : (.selects RX1 yX1_give yX1_give : Cond) ∈ lw_big := in_big (i := 465) (by decide +kernel) rfl
theorem wd_466 : (.code yX1_give cX1_give 3 (some .int) : Cond) ∈ lw_big := in_big (i := 466) (rfl) rfl
theorem wd_467 : (.methodLink RL 51 yX1_byteOf : Cond) ∈ lw_big := in_big (i := 467) (by decide +kernel) rfl
theorem wd_468 : (.instanceMethod yX1_byteOf : Cond) ∈ lw_big := in_big (i := 468) (by decide +kernel) rfl
theorem wd_469 : (.selects RX1 yX1_byteOf yX1_byteOf : Cond) ∈ lw_big := in_big (i := 469) (by decide +kernel) rfl
theorem wd_470 : (.code yX1_byteOf cX1_byteOf 2 (some .int) : Cond) ∈ lw_big := in_big (i := 470) (rfl) rfl
theorem wd_471 : (.methodLink RL 55 yX1_output : Cond) ∈ lw_big := in_big (i := 471) (by decide +kernel) rfl
theorem wd_472 : (.instanceMethod yX1_output : Cond) ∈ lw_big := in_big (i := 472) (by decide +kernel) rfl
theorem wd_473 : (.selects RX1 yX1_output yX1_output : Cond) ∈ lw_big := in_big (i := 473) (by decide +kernel) rfl
theorem wd_474 : (.code yX1_output cX1_output 2 (some .int) : Cond) ∈ lw_big := in_big (i := 474) (rfl) rfl
theorem wd_475 : (.methodLink RL 59 yX1_code : Cond) ∈ lw_big := in_big (i := 475) (by decide +kernel) rfl
theorem wd_476 : (.instanceMethod yX1_code : Cond) ∈ lw_big := in_big (i := 476) (by decide +kernel) rfl
theorem wd_477 : (.selects RX1 yX1_code yX1_code : Cond) ∈ lw_big := in_big (i := 477) (by decide +kernel) rfl
theorem wd_478 : (.code yX1_code cX1_code 1 (some .int) : Cond) ∈ lw_big := in_big (i := 478) (rfl) rfl
