theorem ml_L_18 : Cond.methodLink RL 18 yX11_init ∈ TT := TT_t 27 (by decide +kernel) rfl
theorem ml_X11_11 : Cond.methodLink RX11 11 yX8_init ∈ TT := TT_t 35 (by decide +kernel) rfl
theorem ml_X8_17 : Cond.methodLink RX8 17 yJ0_length_8abf5 ∈ TT := TT_t 40 (by decide +kernel) rfl
theorem ml_J0_335 : Cond.methodLink RJ0 335 yJ0_coder_7d493 ∈ TT := TT_t 44 (by decide +kernel) rfl
theorem ml_X8_36 : Cond.methodLink RX8 36 yX8_keyWord ∈ TT := TT_t 50 (by decide +kernel) rfl
theorem ml_X8_104 : Cond.methodLink RX8 104 yJ0_charAt_5068e ∈ TT := TT_t 53 (by decide +kernel) rfl
theorem ml_J0_492 : Cond.methodLink RJ0 492 yJ0_isLatin1_aae02 ∈ TT := TT_t 57 (by decide +kernel) rfl
theorem ml_J0_495 : Cond.methodLink RJ0 495 yJ1_charAt_3b067 ∈ TT := TT_t 61 (by decide +kernel) rfl
theorem ml_J1_9 : Cond.methodLink RJ1 9 yJ0_checkIndex_df160 ∈ TT := TT_t 64 (by decide +kernel) rfl
theorem ml_J0_1059 : Cond.methodLink RJ0 1059 yJ3_checkIndex_8e157 ∈ TT := TT_t 69 (by decide +kernel) rfl
theorem ml_J0_498 : Cond.methodLink RJ0 498 yJ2_charAt_3b067 ∈ TT := TT_t 72 (by decide +kernel) rfl
theorem ml_J2_67 : Cond.methodLink RJ2 67 yJ2_checkIndex_2214a ∈ TT := TT_t 75 (by decide +kernel) rfl
theorem ml_J2_48 : Cond.methodLink RJ2 48 yJ2_length_9d52b ∈ TT := TT_t 78 (by decide +kernel) rfl
theorem ml_J2_414 : Cond.methodLink RJ2 414 yJ0_checkIndex_df160 ∈ TT := TT_t 81 (by decide +kernel) rfl
theorem ml_J2_71 : Cond.methodLink RJ2 71 yJ2_getChar_3b067 ∈ TT := TT_t 82 (by decide +kernel) rfl
theorem fl_X8_9 : Cond.fieldLink RX8 9 (TX8 0).1 (TX8 0).2.1 (TX8 0).2.2.1 ∈ TT := TT_t 91 (by decide +kernel) rfl
theorem fl_X9_54 : Cond.fieldLink RX9 54 (TX8 0).1 (TX8 0).2.1 (TX8 0).2.2.1 ∈ TT := TT_t 92 (by decide +kernel) rfl
theorem fl_X0_68 : Cond.fieldLink RX0 68 (TX8 0).1 (TX8 0).2.1 (TX8 0).2.2.1 ∈ TT := TT_t 93 (by decide +kernel) rfl
theorem fl_X4_92 : Cond.fieldLink RX4 92 (TX8 0).1 (TX8 0).2.1 (TX8 0).2.2.1 ∈ TT := TT_t 94 (by decide +kernel) rfl
theorem fl_X11_110 : Cond.fieldLink RX11 110 (TX8 1).1 (TX8 1).2.1 (TX8 1).2.2.1 ∈ TT := TT_t 95 (by decide +kernel) rfl
theorem fl_X8_40 : Cond.fieldLink RX8 40 (TX8 1).1 (TX8 1).2.1 (TX8 1).2.2.1 ∈ TT := TT_t 96 (by decide +kernel) rfl
theorem fl_X9_49 : Cond.fieldLink RX9 49 (TX8 1).1 (TX8 1).2.1 (TX8 1).2.2.1 ∈ TT := TT_t 97 (by decide +kernel) rfl
theorem fl_X4_87 : Cond.fieldLink RX4 87 (TX8 1).1 (TX8 1).2.1 (TX8 1).2.2.1 ∈ TT := TT_t 98 (by decide +kernel) rfl
theorem fl_X8_53 : Cond.fieldLink RX8 53 (TX8 2).1 (TX8 2).2.1 (TX8 2).2.2.1 ∈ TT := TT_t 99 (by decide +kernel) rfl
theorem fl_X11_122 : Cond.fieldLink RX11 122 (TX8 2).1 (TX8 2).2.1 (TX8 2).2.2.1 ∈ TT := TT_t 100 (by decide +kernel) rfl
theorem fl_X8_56 : Cond.fieldLink RX8 56 (TX8 3).1 (TX8 3).2.1 (TX8 3).2.2.1 ∈ TT := TT_t 101 (by decide +kernel) rfl
theorem fl_X11_125 : Cond.fieldLink RX11 125 (TX8 3).1 (TX8 3).2.1 (TX8 3).2.2.1 ∈ TT := TT_t 102 (by decide +kernel) rfl
theorem fl_X8_23 : Cond.fieldLink RX8 23 (TX8 4).1 (TX8 4).2.1 (TX8 4).2.2.1 ∈ TT := TT_t 103 (by decide +kernel) rfl
theorem fl_X8_27 : Cond.fieldLink RX8 27 (TX8 5).1 (TX8 5).2.1 (TX8 5).2.2.1 ∈ TT := TT_t 104 (by decide +kernel) rfl
theorem fl_X8_30 : Cond.fieldLink RX8 30 (TX8 6).1 (TX8 6).2.1 (TX8 6).2.2.1 ∈ TT := TT_t 105 (by decide +kernel) rfl
theorem fl_X8_33 : Cond.fieldLink RX8 33 (TX8 7).1 (TX8 7).2.1 (TX8 7).2.2.1 ∈ TT := TT_t 106 (by decide +kernel) rfl
theorem fl_X8_59 : Cond.fieldLink RX8 59 (TX8 8).1 (TX8 8).2.1 (TX8 8).2.2.1 ∈ TT := TT_t 107 (by decide +kernel) rfl
theorem fl_X8_69 : Cond.fieldLink RX8 69 (TX8 9).1 (TX8 9).2.1 (TX8 9).2.2.1 ∈ TT := TT_t 108 (by decide +kernel) rfl
theorem fl_X5_21 : Cond.fieldLink RX5 21 (TX8 10).1 (TX8 10).2.1 (TX8 10).2.2.1 ∈ TT := TT_t 109 (by decide +kernel) rfl
theorem fl_X7_39 : Cond.fieldLink RX7 39 (TX8 10).1 (TX8 10).2.1 (TX8 10).2.2.1 ∈ TT := TT_t 110 (by decide +kernel) rfl
theorem fl_X3_44 : Cond.fieldLink RX3 44 (TX8 10).1 (TX8 10).2.1 (TX8 10).2.2.1 ∈ TT := TT_t 111 (by decide +kernel) rfl
theorem fl_X8_72 : Cond.fieldLink RX8 72 (TX8 10).1 (TX8 10).2.1 (TX8 10).2.2.1 ∈ TT := TT_t 112 (by decide +kernel) rfl
theorem fl_X5_36 : Cond.fieldLink RX5 36 (TX8 11).1 (TX8 11).2.1 (TX8 11).2.2.1 ∈ TT := TT_t 113 (by decide +kernel) rfl
theorem fl_X3_94 : Cond.fieldLink RX3 94 (TX8 11).1 (TX8 11).2.1 (TX8 11).2.2.1 ∈ TT := TT_t 114 (by decide +kernel) rfl
theorem fl_X7_76 : Cond.fieldLink RX7 76 (TX8 11).1 (TX8 11).2.1 (TX8 11).2.2.1 ∈ TT := TT_t 115 (by decide +kernel) rfl
theorem fl_X8_118 : Cond.fieldLink RX8 118 (TX8 11).1 (TX8 11).2.1 (TX8 11).2.2.1 ∈ TT := TT_t 116 (by decide +kernel) rfl
theorem nl_X11_18 : Cond.methodLinkNest RX11 18 yX2_init "ScentCourt" ∈ NW := NW_t 147 (by decide +kernel) rfl
theorem fl_X2_13 : Cond.fieldLink RX2 13 (TX2 0).1 (TX2 0).2.1 (TX2 0).2.2.1 ∈ TT := TT_t 153 (by decide +kernel) rfl
theorem fl_X0_31 : Cond.fieldLink RX0 31 (TX2 0).1 (TX2 0).2.1 (TX2 0).2.2.1 ∈ TT := TT_t 154 (by decide +kernel) rfl
theorem fl_X9_34 : Cond.fieldLink RX9 34 (TX2 0).1 (TX2 0).2.1 (TX2 0).2.2.1 ∈ TT := TT_t 155 (by decide +kernel) rfl
theorem fl_X3_59 : Cond.fieldLink RX3 59 (TX2 0).1 (TX2 0).2.1 (TX2 0).2.2.1 ∈ TT := TT_t 156 (by decide +kernel) rfl
theorem fl_X1_63 : Cond.fieldLink RX1 63 (TX2 0).1 (TX2 0).2.1 (TX2 0).2.2.1 ∈ TT := TT_t 157 (by decide +kernel) rfl
theorem fl_X10_76 : Cond.fieldLink RX10 76 (TX2 0).1 (TX2 0).2.1 (TX2 0).2.2.1 ∈ TT := TT_t 158 (by decide +kernel) rfl
theorem fl_X11_260 : Cond.fieldLink RX11 260 (TX2 0).1 (TX2 0).2.1 (TX2 0).2.2.1 ∈ TT := TT_t 159 (by decide +kernel) rfl
theorem fl_X2_18 : Cond.fieldLink RX2 18 (TX2 1).1 (TX2 1).2.1 (TX2 1).2.2.1 ∈ TT := TT_t 160 (by decide +kernel) rfl
theorem fl_X2_22 : Cond.fieldLink RX2 22 (TX2 2).1 (TX2 2).2.1 (TX2 2).2.2.1 ∈ TT := TT_t 161 (by decide +kernel) rfl
theorem fl_X3_101 : Cond.fieldLink RX3 101 (TX2 2).1 (TX2 2).2.1 (TX2 2).2.2.1 ∈ TT := TT_t 162 (by decide +kernel) rfl
theorem fl_X9_102 : Cond.fieldLink RX9 102 (TX2 2).1 (TX2 2).2.1 (TX2 2).2.2.1 ∈ TT := TT_t 163 (by decide +kernel) rfl
theorem fl_X11_158 : Cond.fieldLink RX11 158 (TX2 2).1 (TX2 2).2.1 (TX2 2).2.2.1 ∈ TT := TT_t 164 (by decide +kernel) rfl
theorem fl_X10_98 : Cond.fieldLink RX10 98 (TX2 2).1 (TX2 2).2.1 (TX2 2).2.2.1 ∈ TT := TT_t 165 (by decide +kernel) rfl
theorem fl_X2_25 : Cond.fieldLink RX2 25 (TX2 3).1 (TX2 3).2.1 (TX2 3).2.2.1 ∈ TT := TT_t 166 (by decide +kernel) rfl
theorem fl_X9_75 : Cond.fieldLink RX9 75 (TX2 3).1 (TX2 3).2.1 (TX2 3).2.2.1 ∈ TT := TT_t 167 (by decide +kernel) rfl
theorem fl_X11_151 : Cond.fieldLink RX11 151 (TX2 3).1 (TX2 3).2.1 (TX2 3).2.2.1 ∈ TT := TT_t 168 (by decide +kernel) rfl
theorem fl_X3_117 : Cond.fieldLink RX3 117 (TX2 3).1 (TX2 3).2.1 (TX2 3).2.2.1 ∈ TT := TT_t 169 (by decide +kernel) rfl
theorem fl_X2_28 : Cond.fieldLink RX2 28 (TX2 4).1 (TX2 4).2.1 (TX2 4).2.2.1 ∈ TT := TT_t 170 (by decide +kernel) rfl
theorem fl_X9_99 : Cond.fieldLink RX9 99 (TX2 4).1 (TX2 4).2.1 (TX2 4).2.2.1 ∈ TT := TT_t 171 (by decide +kernel) rfl
theorem fl_X3_120 : Cond.fieldLink RX3 120 (TX2 4).1 (TX2 4).2.1 (TX2 4).2.2.1 ∈ TT := TT_t 172 (by decide +kernel) rfl
theorem fl_X6_71 : Cond.fieldLink RX6 71 (TX2 4).1 (TX2 4).2.1 (TX2 4).2.2.1 ∈ TT := TT_t 173 (by decide +kernel) rfl
theorem fl_X11_167 : Cond.fieldLink RX11 167 (TX2 4).1 (TX2 4).2.1 (TX2 4).2.2.1 ∈ TT := TT_t 174 (by decide +kernel) rfl
theorem fl_X10_104 : Cond.fieldLink RX10 104 (TX2 4).1 (TX2 4).2.1 (TX2 4).2.2.1 ∈ TT := TT_t 175 (by decide +kernel) rfl
theorem fl_X2_31 : Cond.fieldLink RX2 31 (TX2 5).1 (TX2 5).2.1 (TX2 5).2.2.1 ∈ TT := TT_t 176 (by decide +kernel) rfl
theorem fl_X10_40 : Cond.fieldLink RX10 40 (TX2 5).1 (TX2 5).2.1 (TX2 5).2.2.1 ∈ TT := TT_t 177 (by decide +kernel) rfl
theorem fl_X0_77 : Cond.fieldLink RX0 77 (TX2 5).1 (TX2 5).2.1 (TX2 5).2.2.1 ∈ TT := TT_t 178 (by decide +kernel) rfl
theorem fl_X3_123 : Cond.fieldLink RX3 123 (TX2 5).1 (TX2 5).2.1 (TX2 5).2.2.1 ∈ TT := TT_t 179 (by decide +kernel) rfl
theorem fl_X2_34 : Cond.fieldLink RX2 34 (TX2 6).1 (TX2 6).2.1 (TX2 6).2.2.1 ∈ TT := TT_t 180 (by decide +kernel) rfl
theorem fl_X3_129 : Cond.fieldLink RX3 129 (TX2 6).1 (TX2 6).2.1 (TX2 6).2.2.1 ∈ TT := TT_t 181 (by decide +kernel) rfl
theorem fl_X2_37 : Cond.fieldLink RX2 37 (TX2 7).1 (TX2 7).2.1 (TX2 7).2.2.1 ∈ TT := TT_t 182 (by decide +kernel) rfl
theorem fl_X3_132 : Cond.fieldLink RX3 132 (TX2 7).1 (TX2 7).2.1 (TX2 7).2.2.1 ∈ TT := TT_t 183 (by decide +kernel) rfl
theorem ml_X11_25 : Cond.methodLink RX11 25 yX3_init ∈ TT := TT_t 203 (by decide +kernel) rfl
theorem nl_X3_11 : Cond.methodLinkNest RX3 11 yX2_init "ScentCourt" ∈ NW := NW_t 208 (by decide +kernel) rfl
theorem fl_X3_25 : Cond.fieldLink RX3 25 (TX3 0).1 (TX3 0).2.1 (TX3 0).2.2.1 ∈ TT := TT_t 209 (by decide +kernel) rfl
theorem fl_X3_12 : Cond.fieldLink RX3 12 (TX3 1).1 (TX3 1).2.1 (TX3 1).2.2.1 ∈ TT := TT_t 210 (by decide +kernel) rfl
theorem fl_X11_128 : Cond.fieldLink RX11 128 (TX3 1).1 (TX3 1).2.1 (TX3 1).2.2.1 ∈ TT := TT_t 211 (by decide +kernel) rfl
theorem fl_X3_18 : Cond.fieldLink RX3 18 (TX3 2).1 (TX3 2).2.1 (TX3 2).2.2.1 ∈ TT := TT_t 212 (by decide +kernel) rfl
theorem fl_X3_22 : Cond.fieldLink RX3 22 (TX3 3).1 (TX3 3).2.1 (TX3 3).2.2.1 ∈ TT := TT_t 213 (by decide +kernel) rfl
theorem nl_X11_34 : Cond.methodLinkNest RX11 34 yX10_init "ScentCourt" ∈ NW := NW_t 225 (by decide +kernel) rfl
theorem fl_X10_33 : Cond.fieldLink RX10 33 (TX10 0).1 (TX10 0).2.1 (TX10 0).2.2.1 ∈ TT := TT_t 229 (by decide +kernel) rfl
theorem fl_X11_227 : Cond.fieldLink RX11 227 (TX10 0).1 (TX10 0).2.1 (TX10 0).2.2.1 ∈ TT := TT_t 230 (by decide +kernel) rfl
theorem fl_X10_9 : Cond.fieldLink RX10 9 (TX10 1).1 (TX10 1).2.1 (TX10 1).2.2.1 ∈ TT := TT_t 231 (by decide +kernel) rfl
theorem fl_X5_56 : Cond.fieldLink RX5 56 (TX10 1).1 (TX10 1).2.1 (TX10 1).2.2.1 ∈ TT := TT_t 232 (by decide +kernel) rfl
theorem fl_X1_72 : Cond.fieldLink RX1 72 (TX10 1).1 (TX10 1).2.1 (TX10 1).2.2.1 ∈ TT := TT_t 233 (by decide +kernel) rfl
theorem fl_X6_60 : Cond.fieldLink RX6 60 (TX10 1).1 (TX10 1).2.1 (TX10 1).2.2.1 ∈ TT := TT_t 234 (by decide +kernel) rfl
theorem fl_X11_161 : Cond.fieldLink RX11 161 (TX10 1).1 (TX10 1).2.1 (TX10 1).2.2.1 ∈ TT := TT_t 235 (by decide +kernel) rfl
theorem fl_X10_15 : Cond.fieldLink RX10 15 (TX10 2).1 (TX10 2).2.1 (TX10 2).2.2.1 ∈ TT := TT_t 236 (by decide +kernel) rfl
theorem fl_X1_54 : Cond.fieldLink RX1 54 (TX10 2).1 (TX10 2).2.1 (TX10 2).2.2.1 ∈ TT := TT_t 237 (by decide +kernel) rfl
theorem fl_X5_66 : Cond.fieldLink RX5 66 (TX10 2).1 (TX10 2).2.1 (TX10 2).2.2.1 ∈ TT := TT_t 238 (by decide +kernel) rfl
theorem fl_X6_49 : Cond.fieldLink RX6 49 (TX10 2).1 (TX10 2).2.1 (TX10 2).2.2.1 ∈ TT := TT_t 239 (by decide +kernel) rfl
theorem fl_X11_164 : Cond.fieldLink RX11 164 (TX10 2).1 (TX10 2).2.1 (TX10 2).2.2.1 ∈ TT := TT_t 240 (by decide +kernel) rfl
theorem fl_X10_18 : Cond.fieldLink RX10 18 (TX10 3).1 (TX10 3).2.1 (TX10 3).2.2.1 ∈ TT := TT_t 241 (by decide +kernel) rfl
theorem fl_X5_69 : Cond.fieldLink RX5 69 (TX10 3).1 (TX10 3).2.1 (TX10 3).2.2.1 ∈ TT := TT_t 242 (by decide +kernel) rfl
theorem fl_X6_54 : Cond.fieldLink RX6 54 (TX10 3).1 (TX10 3).2.1 (TX10 3).2.2.1 ∈ TT := TT_t 243 (by decide +kernel) rfl
theorem fl_X11_170 : Cond.fieldLink RX11 170 (TX10 3).1 (TX10 3).2.1 (TX10 3).2.2.1 ∈ TT := TT_t 244 (by decide +kernel) rfl
theorem fl_X10_37 : Cond.fieldLink RX10 37 (TX10 4).1 (TX10 4).2.1 (TX10 4).2.2.1 ∈ TT := TT_t 245 (by decide +kernel) rfl
theorem fl_X4_40 : Cond.fieldLink RX4 40 (TX10 4).1 (TX10 4).2.1 (TX10 4).2.2.1 ∈ TT := TT_t 246 (by decide +kernel) rfl
theorem fl_X11_213 : Cond.fieldLink RX11 213 (TX10 4).1 (TX10 4).2.1 (TX10 4).2.2.1 ∈ TT := TT_t 247 (by decide +kernel) rfl
theorem fl_X10_21 : Cond.fieldLink RX10 21 (TX10 5).1 (TX10 5).2.1 (TX10 5).2.2.1 ∈ TT := TT_t 248 (by decide +kernel) rfl
theorem fl_X4_67 : Cond.fieldLink RX4 67 (TX10 5).1 (TX10 5).2.1 (TX10 5).2.2.1 ∈ TT := TT_t 249 (by decide +kernel) rfl
theorem fl_X11_183 : Cond.fieldLink RX11 183 (TX10 5).1 (TX10 5).2.1 (TX10 5).2.2.1 ∈ TT := TT_t 250 (by decide +kernel) rfl
theorem fl_X10_24 : Cond.fieldLink RX10 24 (TX10 6).1 (TX10 6).2.1 (TX10 6).2.2.1 ∈ TT := TT_t 251 (by decide +kernel) rfl
theorem fl_X11_186 : Cond.fieldLink RX11 186 (TX10 6).1 (TX10 6).2.1 (TX10 6).2.2.1 ∈ TT := TT_t 252 (by decide +kernel) rfl
theorem fl_X10_27 : Cond.fieldLink RX10 27 (TX10 7).1 (TX10 7).2.1 (TX10 7).2.2.1 ∈ TT := TT_t 253 (by decide +kernel) rfl
theorem fl_X11_189 : Cond.fieldLink RX11 189 (TX10 7).1 (TX10 7).2.1 (TX10 7).2.2.1 ∈ TT := TT_t 254 (by decide +kernel) rfl
theorem fl_X10_30 : Cond.fieldLink RX10 30 (TX10 8).1 (TX10 8).2.1 (TX10 8).2.2.1 ∈ TT := TT_t 255 (by decide +kernel) rfl
theorem fl_X11_192 : Cond.fieldLink RX11 192 (TX10 8).1 (TX10 8).2.1 (TX10 8).2.2.1 ∈ TT := TT_t 256 (by decide +kernel) rfl
theorem nl_X11_41 : Cond.methodLinkNest RX11 41 yX6_init "ScentCourt" ∈ NW := NW_t 278 (by decide +kernel) rfl
theorem fl_X6_9 : Cond.fieldLink RX6 9 (TX6 0).1 (TX6 0).2.1 (TX6 0).2.2.1 ∈ TT := TT_t 282 (by decide +kernel) rfl
theorem fl_X6_15 : Cond.fieldLink RX6 15 (TX6 1).1 (TX6 1).2.1 (TX6 1).2.2.1 ∈ TT := TT_t 283 (by decide +kernel) rfl
theorem fl_X6_18 : Cond.fieldLink RX6 18 (TX6 2).1 (TX6 2).2.1 (TX6 2).2.2.1 ∈ TT := TT_t 284 (by decide +kernel) rfl
theorem fl_X6_21 : Cond.fieldLink RX6 21 (TX6 3).1 (TX6 3).2.1 (TX6 3).2.2.1 ∈ TT := TT_t 285 (by decide +kernel) rfl
theorem ml_X11_48 : Cond.methodLink RX11 48 yX7_init ∈ TT := TT_t 297 (by decide +kernel) rfl
theorem nl_X7_11 : Cond.methodLinkNest RX7 11 yX6_init "ScentCourt" ∈ NW := NW_t 302 (by decide +kernel) rfl
theorem fl_X7_18 : Cond.fieldLink RX7 18 (TX7 0).1 (TX7 0).2.1 (TX7 0).2.2.1 ∈ TT := TT_t 303 (by decide +kernel) rfl
theorem fl_X7_12 : Cond.fieldLink RX7 12 (TX7 1).1 (TX7 1).2.1 (TX7 1).2.2.1 ∈ TT := TT_t 304 (by decide +kernel) rfl
theorem fl_X11_356 : Cond.fieldLink RX11 356 (TX7 1).1 (TX7 1).2.1 (TX7 1).2.2.1 ∈ TT := TT_t 305 (by decide +kernel) rfl
theorem fl_X7_25 : Cond.fieldLink RX7 25 (TX7 2).1 (TX7 2).2.1 (TX7 2).2.2.1 ∈ TT := TT_t 306 (by decide +kernel) rfl
theorem nl_X11_55 : Cond.methodLinkNest RX11 55 yX5_init "ScentCourt" ∈ NW := NW_t 316 (by decide +kernel) rfl
theorem fl_X5_9 : Cond.fieldLink RX5 9 (TX5 0).1 (TX5 0).2.1 (TX5 0).2.2.1 ∈ TT := TT_t 320 (by decide +kernel) rfl
theorem fl_X11_309 : Cond.fieldLink RX11 309 (TX5 0).1 (TX5 0).2.1 (TX5 0).2.2.1 ∈ TT := TT_t 321 (by decide +kernel) rfl
theorem nl_X11_81 : Cond.methodLinkNest RX11 81 yX4_init "ScentCourt" ∈ NW := NW_t 330 (by decide +kernel) rfl
theorem fl_X4_9 : Cond.fieldLink RX4 9 (TX4 0).1 (TX4 0).2.1 (TX4 0).2.2.1 ∈ TT := TT_t 334 (by decide +kernel) rfl
theorem fl_X11_257 : Cond.fieldLink RX11 257 (TX4 0).1 (TX4 0).2.1 (TX4 0).2.2.1 ∈ TT := TT_t 335 (by decide +kernel) rfl
theorem fl_X4_103 : Cond.fieldLink RX4 103 (TX4 1).1 (TX4 1).2.1 (TX4 1).2.2.1 ∈ TT := TT_t 336 (by decide +kernel) rfl
theorem fl_X11_253 : Cond.fieldLink RX11 253 (TX4 1).1 (TX4 1).2.1 (TX4 1).2.2.1 ∈ TT := TT_t 337 (by decide +kernel) rfl
theorem fl_X4_46 : Cond.fieldLink RX4 46 (TX4 2).1 (TX4 2).2.1 (TX4 2).2.2.1 ∈ TT := TT_t 338 (by decide +kernel) rfl
theorem fl_X4_15 : Cond.fieldLink RX4 15 (TX4 3).1 (TX4 3).2.1 (TX4 3).2.2.1 ∈ TT := TT_t 339 (by decide +kernel) rfl
theorem fl_X4_18 : Cond.fieldLink RX4 18 (TX4 4).1 (TX4 4).2.1 (TX4 4).2.2.1 ∈ TT := TT_t 340 (by decide +kernel) rfl
theorem fl_X4_21 : Cond.fieldLink RX4 21 (TX4 5).1 (TX4 5).2.1 (TX4 5).2.2.1 ∈ TT := TT_t 341 (by decide +kernel) rfl
theorem fl_X4_24 : Cond.fieldLink RX4 24 (TX4 6).1 (TX4 6).2.1 (TX4 6).2.2.1 ∈ TT := TT_t 342 (by decide +kernel) rfl
theorem fl_X4_27 : Cond.fieldLink RX4 27 (TX4 7).1 (TX4 7).2.1 (TX4 7).2.2.1 ∈ TT := TT_t 343 (by decide +kernel) rfl
theorem fl_X4_30 : Cond.fieldLink RX4 30 (TX4 8).1 (TX4 8).2.1 (TX4 8).2.2.1 ∈ TT := TT_t 344 (by decide +kernel) rfl
theorem nl_X11_88 : Cond.methodLinkNest RX11 88 yX9_init "ScentCourt" ∈ NW := NW_t 366 (by decide +kernel) rfl
theorem fl_X9_30 : Cond.fieldLink RX9 30 (TX9 0).1 (TX9 0).2.1 (TX9 0).2.2.1 ∈ TT := TT_t 370 (by decide +kernel) rfl
theorem fl_X11_267 : Cond.fieldLink RX11 267 (TX9 0).1 (TX9 0).2.1 (TX9 0).2.2.1 ∈ TT := TT_t 371 (by decide +kernel) rfl
theorem fl_X9_43 : Cond.fieldLink RX9 43 (TX9 1).1 (TX9 1).2.1 (TX9 1).2.2.1 ∈ TT := TT_t 372 (by decide +kernel) rfl
theorem fl_X11_270 : Cond.fieldLink RX11 270 (TX9 1).1 (TX9 1).2.1 (TX9 1).2.2.1 ∈ TT := TT_t 373 (by decide +kernel) rfl
theorem fl_X9_9 : Cond.fieldLink RX9 9 (TX9 2).1 (TX9 2).2.1 (TX9 2).2.2.1 ∈ TT := TT_t 374 (by decide +kernel) rfl
theorem fl_X11_273 : Cond.fieldLink RX11 273 (TX9 2).1 (TX9 2).2.1 (TX9 2).2.2.1 ∈ TT := TT_t 375 (by decide +kernel) rfl
theorem fl_X9_105 : Cond.fieldLink RX9 105 (TX9 3).1 (TX9 3).2.1 (TX9 3).2.2.1 ∈ TT := TT_t 376 (by decide +kernel) rfl
theorem fl_X11_276 : Cond.fieldLink RX11 276 (TX9 3).1 (TX9 3).2.1 (TX9 3).2.2.1 ∈ TT := TT_t 377 (by decide +kernel) rfl
theorem fl_X9_15 : Cond.fieldLink RX9 15 (TX9 4).1 (TX9 4).2.1 (TX9 4).2.2.1 ∈ TT := TT_t 378 (by decide +kernel) rfl
theorem fl_X11_279 : Cond.fieldLink RX11 279 (TX9 4).1 (TX9 4).2.1 (TX9 4).2.2.1 ∈ TT := TT_t 379 (by decide +kernel) rfl
theorem fl_X9_46 : Cond.fieldLink RX9 46 (TX9 5).1 (TX9 5).2.1 (TX9 5).2.2.1 ∈ TT := TT_t 380 (by decide +kernel) rfl
theorem fl_X9_18 : Cond.fieldLink RX9 18 (TX9 6).1 (TX9 6).2.1 (TX9 6).2.2.1 ∈ TT := TT_t 381 (by decide +kernel) rfl
theorem fl_X9_21 : Cond.fieldLink RX9 21 (TX9 7).1 (TX9 7).2.1 (TX9 7).2.2.1 ∈ TT := TT_t 382 (by decide +kernel) rfl
theorem fl_X9_24 : Cond.fieldLink RX9 24 (TX9 8).1 (TX9 8).2.1 (TX9 8).2.2.1 ∈ TT := TT_t 383 (by decide +kernel) rfl
theorem fl_X9_27 : Cond.fieldLink RX9 27 (TX9 9).1 (TX9 9).2.1 (TX9 9).2.2.1 ∈ TT := TT_t 384 (by decide +kernel) rfl
theorem nl_X11_95 : Cond.methodLinkNest RX11 95 yX0_init "ScentCourt" ∈ NW := NW_t 408 (by decide +kernel) rfl
theorem fl_X0_43 : Cond.fieldLink RX0 43 (TX0 0).1 (TX0 0).2.1 (TX0 0).2.2.1 ∈ TT := TT_t 412 (by decide +kernel) rfl
theorem fl_X11_285 : Cond.fieldLink RX11 285 (TX0 0).1 (TX0 0).2.1 (TX0 0).2.2.1 ∈ TT := TT_t 413 (by decide +kernel) rfl
theorem fl_X0_9 : Cond.fieldLink RX0 9 (TX0 1).1 (TX0 1).2.1 (TX0 1).2.2.1 ∈ TT := TT_t 414 (by decide +kernel) rfl
theorem fl_X11_288 : Cond.fieldLink RX11 288 (TX0 1).1 (TX0 1).2.1 (TX0 1).2.2.1 ∈ TT := TT_t 415 (by decide +kernel) rfl
theorem fl_X0_27 : Cond.fieldLink RX0 27 (TX0 2).1 (TX0 2).2.1 (TX0 2).2.2.1 ∈ TT := TT_t 416 (by decide +kernel) rfl
theorem fl_X0_40 : Cond.fieldLink RX0 40 (TX0 3).1 (TX0 3).2.1 (TX0 3).2.2.1 ∈ TT := TT_t 417 (by decide +kernel) rfl
theorem fl_X0_15 : Cond.fieldLink RX0 15 (TX0 4).1 (TX0 4).2.1 (TX0 4).2.2.1 ∈ TT := TT_t 418 (by decide +kernel) rfl
theorem fl_X0_18 : Cond.fieldLink RX0 18 (TX0 5).1 (TX0 5).2.1 (TX0 5).2.2.1 ∈ TT := TT_t 419 (by decide +kernel) rfl
theorem fl_X0_21 : Cond.fieldLink RX0 21 (TX0 6).1 (TX0 6).2.1 (TX0 6).2.2.1 ∈ TT := TT_t 420 (by decide +kernel) rfl
theorem fl_X0_24 : Cond.fieldLink RX0 24 (TX0 7).1 (TX0 7).2.1 (TX0 7).2.2.1 ∈ TT := TT_t 421 (by decide +kernel) rfl
theorem nl_X11_102 : Cond.methodLinkNest RX11 102 yX1_init "ScentCourt" ∈ NW := NW_t 441 (by decide +kernel) rfl
theorem nl_X1_11 : Cond.methodLinkNest RX1 11 yX10_init "ScentCourt" ∈ NW := NW_t 446 (by decide +kernel) rfl
theorem fl_X1_18 : Cond.fieldLink RX1 18 (TX1 0).1 (TX1 0).2.1 (TX1 0).2.2.1 ∈ TT := TT_t 447 (by decide +kernel) rfl
theorem fl_X11_320 : Cond.fieldLink RX11 320 (TX1 0).1 (TX1 0).2.1 (TX1 0).2.2.1 ∈ TT := TT_t 448 (by decide +kernel) rfl
theorem fl_X1_22 : Cond.fieldLink RX1 22 (TX1 1).1 (TX1 1).2.1 (TX1 1).2.2.1 ∈ TT := TT_t 449 (by decide +kernel) rfl
theorem fl_X11_323 : Cond.fieldLink RX11 323 (TX1 1).1 (TX1 1).2.1 (TX1 1).2.2.1 ∈ TT := TT_t 450 (by decide +kernel) rfl
theorem fl_X1_26 : Cond.fieldLink RX1 26 (TX1 2).1 (TX1 2).2.1 (TX1 2).2.2.1 ∈ TT := TT_t 451 (by decide +kernel) rfl
theorem fl_X11_326 : Cond.fieldLink RX11 326 (TX1 2).1 (TX1 2).2.1 (TX1 2).2.2.1 ∈ TT := TT_t 452 (by decide +kernel) rfl
theorem fl_X1_29 : Cond.fieldLink RX1 29 (TX1 3).1 (TX1 3).2.1 (TX1 3).2.2.1 ∈ TT := TT_t 453 (by decide +kernel) rfl
theorem fl_X11_329 : Cond.fieldLink RX11 329 (TX1 3).1 (TX1 3).2.1 (TX1 3).2.2.1 ∈ TT := TT_t 454 (by decide +kernel) rfl
theorem fl_X1_32 : Cond.fieldLink RX1 32 (TX1 4).1 (TX1 4).2.1 (TX1 4).2.2.1 ∈ TT := TT_t 455 (by decide +kernel) rfl
theorem fl_X1_12 : Cond.fieldLink RX1 12 (TX1 5).1 (TX1 5).2.1 (TX1 5).2.2.1 ∈ TT := TT_t 456 (by decide +kernel) rfl
theorem fl_X11_12 : Cond.fieldLink RX11 12 (TX11 0).1 (TX11 0).2.1 (TX11 0).2.2.1 ∈ TT := TT_t 470 (by decide +kernel) rfl
theorem fl_X11_19 : Cond.fieldLink RX11 19 (TX11 1).1 (TX11 1).2.1 (TX11 1).2.2.1 ∈ TT := TT_t 471 (by decide +kernel) rfl
theorem fl_X11_28 : Cond.fieldLink RX11 28 (TX11 2).1 (TX11 2).2.1 (TX11 2).2.2.1 ∈ TT := TT_t 472 (by decide +kernel) rfl
theorem fl_X11_35 : Cond.fieldLink RX11 35 (TX11 3).1 (TX11 3).2.1 (TX11 3).2.2.1 ∈ TT := TT_t 473 (by decide +kernel) rfl
theorem fl_X11_42 : Cond.fieldLink RX11 42 (TX11 4).1 (TX11 4).2.1 (TX11 4).2.2.1 ∈ TT := TT_t 474 (by decide +kernel) rfl
theorem fl_X11_49 : Cond.fieldLink RX11 49 (TX11 5).1 (TX11 5).2.1 (TX11 5).2.2.1 ∈ TT := TT_t 475 (by decide +kernel) rfl
theorem fl_X11_56 : Cond.fieldLink RX11 56 (TX11 6).1 (TX11 6).2.1 (TX11 6).2.2.1 ∈ TT := TT_t 476 (by decide +kernel) rfl
theorem fl_X11_60 : Cond.fieldLink RX11 60 (TX11 7).1 (TX11 7).2.1 (TX11 7).2.2.1 ∈ TT := TT_t 477 (by decide +kernel) rfl
theorem fl_X11_233 : Cond.fieldLink RX11 233 (TX11 8).1 (TX11 8).2.1 (TX11 8).2.2.1 ∈ TT := TT_t 478 (by decide +kernel) rfl
theorem fl_X11_230 : Cond.fieldLink RX11 230 (TX11 9).1 (TX11 9).2.1 (TX11 9).2.2.1 ∈ TT := TT_t 479 (by decide +kernel) rfl
theorem fl_X11_64 : Cond.fieldLink RX11 64 (TX11 10).1 (TX11 10).2.1 (TX11 10).2.2.1 ∈ TT := TT_t 480 (by decide +kernel) rfl
theorem fl_X11_68 : Cond.fieldLink RX11 68 (TX11 11).1 (TX11 11).2.1 (TX11 11).2.2.1 ∈ TT := TT_t 481 (by decide +kernel) rfl
theorem fl_X11_71 : Cond.fieldLink RX11 71 (TX11 12).1 (TX11 12).2.1 (TX11 12).2.2.1 ∈ TT := TT_t 482 (by decide +kernel) rfl
theorem fl_X11_75 : Cond.fieldLink RX11 75 (TX11 13).1 (TX11 13).2.1 (TX11 13).2.2.1 ∈ TT := TT_t 483 (by decide +kernel) rfl
theorem fl_X11_82 : Cond.fieldLink RX11 82 (TX11 14).1 (TX11 14).2.1 (TX11 14).2.2.1 ∈ TT := TT_t 484 (by decide +kernel) rfl
theorem fl_X11_89 : Cond.fieldLink RX11 89 (TX11 15).1 (TX11 15).2.1 (TX11 15).2.2.1 ∈ TT := TT_t 485 (by decide +kernel) rfl
theorem fl_X11_96 : Cond.fieldLink RX11 96 (TX11 16).1 (TX11 16).2.1 (TX11 16).2.2.1 ∈ TT := TT_t 486 (by decide +kernel) rfl
theorem fl_X11_103 : Cond.fieldLink RX11 103 (TX11 17).1 (TX11 17).2.1 (TX11 17).2.2.1 ∈ TT := TT_t 487 (by decide +kernel) rfl
theorem fl_X11_107 : Cond.fieldLink RX11 107 (TX11 18).1 (TX11 18).2.1 (TX11 18).2.2.1 ∈ TT := TT_t 488 (by decide +kernel) rfl
theorem fl_X11_336 : Cond.fieldLink RX11 336 (TX11 19).1 (TX11 19).2.1 (TX11 19).2.2.1 ∈ TT := TT_t 489 (by decide +kernel) rfl
theorem ml_L_22 : Cond.methodLink RL 22 yX11_feed ∈ TT := TT_t 531 (by decide +kernel) rfl
theorem ml_X11_114 : Cond.methodLink RX11 114 yX8_addFour ∈ TT := TT_t 535 (by decide +kernel) rfl
theorem nl_X8_43 : Cond.methodLinkNest RX8 43 yX11_put "ScentCourt" ∈ NW := NW_t 539 (by decide +kernel) rfl
theorem ml_X8_47 : Cond.methodLink RX8 47 Lib.Math.min.name ∈ TT := TT_t 542 (by decide +kernel) rfl
theorem ml_L_27 : Cond.methodLink RL 27 yX11_end ∈ TT := TT_t 545 (by decide +kernel) rfl
theorem ml_L_32 : Cond.methodLink RL 32 yX11_hill ∈ TT := TT_t 549 (by decide +kernel) rfl
theorem ml_X11_118 : Cond.methodLink RX11 118 yX3_read ∈ TT := TT_t 553 (by decide +kernel) rfl
theorem ml_X3_29 : Cond.methodLink RX3 29 yX2_clear ∈ TT := TT_t 557 (by decide +kernel) rfl
theorem ml_X2_40 : Cond.methodLink RX2 40 yJ7_fill_53178 ∈ TT := TT_t 561 (by decide +kernel) rfl
theorem ml_X2_46 : Cond.methodLink RX2 46 yJ7_fill_d0a16 ∈ TT := TT_t 564 (by decide +kernel) rfl
theorem ml_X3_32 : Cond.methodLink RX3 32 yJ7_fill_53178 ∈ TT := TT_t 567 (by decide +kernel) rfl
theorem ml_X3_38 : Cond.methodLink RX3 38 yX8_begin ∈ TT := TT_t 568 (by decide +kernel) rfl
theorem ml_X8_62 : Cond.methodLink RX8 62 yX8_readToken ∈ TT := TT_t 572 (by decide +kernel) rfl
theorem nl_X8_65 : Cond.methodLinkNest RX8 65 yX11_at "ScentCourt" ∈ NW := NW_t 576 (by decide +kernel) rfl
theorem ml_X8_75 : Cond.methodLink RX8 75 yX8_isBlank ∈ TT := TT_t 579 (by decide +kernel) rfl
theorem ml_X8_79 : Cond.methodLink RX8 79 yX8_addToken ∈ TT := TT_t 582 (by decide +kernel) rfl
theorem ml_X8_83 : Cond.methodLink RX8 83 yX8_isLetter ∈ TT := TT_t 586 (by decide +kernel) rfl
theorem ml_X8_86 : Cond.methodLink RX8 86 yX8_isDigit ∈ TT := TT_t 589 (by decide +kernel) rfl
theorem ml_X8_89 : Cond.methodLink RX8 89 yX8_readRun ∈ TT := TT_t 592 (by decide +kernel) rfl
theorem cl_X8_96 : Cond.constantLong RX8 96 (10) ∈ TT := TT_t 596 (by decide +kernel) rfl
theorem cl_X8_98 : Cond.constantLong RX8 98 (48) ∈ TT := TT_t 597 (by decide +kernel) rfl
theorem ml_X8_100 : Cond.methodLink RX8 100 yX8_kindOfWord ∈ TT := TT_t 598 (by decide +kernel) rfl
theorem ml_X8_93 : Cond.methodLink RX8 93 yX8_isSign ∈ TT := TT_t 602 (by decide +kernel) rfl
theorem ml_X3_48 : Cond.methodLink RX3 48 yX3_readLine ∈ TT := TT_t 605 (by decide +kernel) rfl
theorem ml_X3_56 : Cond.methodLink RX3 56 yX8_fail ∈ TT := TT_t 609 (by decide +kernel) rfl
theorem nl_X3_62 : Cond.methodLinkNest RX3 62 yX11_at "ScentCourt" ∈ NW := NW_t 613 (by decide +kernel) rfl
theorem ml_X3_69 : Cond.methodLink RX3 69 yX8_step ∈ TT := TT_t 615 (by decide +kernel) rfl
theorem ml_X3_72 : Cond.methodLink RX3 72 yX3_readScent ∈ TT := TT_t 619 (by decide +kernel) rfl
theorem ml_X3_90 : Cond.methodLink RX3 90 yX8_takeNew ∈ TT := TT_t 623 (by decide +kernel) rfl
theorem ml_X8_108 : Cond.methodLink RX8 108 yX8_fail ∈ TT := TT_t 627 (by decide +kernel) rfl
theorem ml_X8_114 : Cond.methodLink RX8 114 yX8_content ∈ TT := TT_t 628 (by decide +kernel) rfl
theorem ml_X8_127 : Cond.methodLink RX8 127 yX2_isTold ∈ TT := TT_t 632 (by decide +kernel) rfl
theorem ml_X2_69 : Cond.methodLink RX2 69 yX2_numberOf ∈ TT := TT_t 636 (by decide +kernel) rfl
theorem ml_X8_131 : Cond.methodLink RX8 131 yX2_tell ∈ TT := TT_t 640 (by decide +kernel) rfl
theorem nl_X2_65 : Cond.methodLinkNest RX2 65 yX11_at "ScentCourt" ∈ NW := NW_t 644 (by decide +kernel) rfl
theorem nl_X2_73 : Cond.methodLinkNest RX2 73 yX11_put "ScentCourt" ∈ NW := NW_t 645 (by decide +kernel) rfl
theorem ml_X8_111 : Cond.methodLink RX8 111 yX8_step ∈ TT := TT_t 646 (by decide +kernel) rfl
theorem ml_X3_97 : Cond.methodLink RX3 97 yX8_takeNumber ∈ TT := TT_t 647 (by decide +kernel) rfl
theorem nl_X3_104 : Cond.methodLinkNest RX3 104 yX11_put "ScentCourt" ∈ NW := NW_t 651 (by decide +kernel) rfl
theorem ml_X3_75 : Cond.methodLink RX3 75 yX3_readPlace ∈ TT := TT_t 652 (by decide +kernel) rfl
theorem ml_X3_108 : Cond.methodLink RX3 108 yX3_readSmell ∈ TT := TT_t 656 (by decide +kernel) rfl
theorem ml_X3_111 : Cond.methodLink RX3 111 yX8_takeTold ∈ TT := TT_t 660 (by decide +kernel) rfl
theorem ml_X8_121 : Cond.methodLink RX8 121 yX2_numberOf ∈ TT := TT_t 664 (by decide +kernel) rfl
theorem ml_X3_114 : Cond.methodLink RX3 114 yX8_failAtTaken ∈ TT := TT_t 665 (by decide +kernel) rfl
theorem ml_X3_78 : Cond.methodLink RX3 78 yX3_readWitness ∈ TT := TT_t 669 (by decide +kernel) rfl
theorem ml_X3_81 : Cond.methodLink RX3 81 yX3_readSmoke ∈ TT := TT_t 673 (by decide +kernel) rfl
theorem ml_X3_126 : Cond.methodLink RX3 126 yX3_addLine ∈ TT := TT_t 677 (by decide +kernel) rfl
theorem ml_X3_84 : Cond.methodLink RX3 84 yX3_readWent ∈ TT := TT_t 681 (by decide +kernel) rfl
theorem ml_X3_87 : Cond.methodLink RX3 87 yX3_readRain ∈ TT := TT_t 685 (by decide +kernel) rfl
theorem ml_X3_52 : Cond.methodLink RX3 52 yX8_take ∈ TT := TT_t 689 (by decide +kernel) rfl
theorem ml_X11_131 : Cond.methodLink RX11 131 yX2_copyFrom ∈ TT := TT_t 693 (by decide +kernel) rfl
theorem nl_X2_49 : Cond.methodLinkNest RX2 49 yX11_copy "ScentCourt" ∈ NW := NW_t 697 (by decide +kernel) rfl
theorem ml_X11_371 : Cond.methodLink RX11 371 Lib.Math.min.name ∈ TT := TT_t 700 (by decide +kernel) rfl
theorem ml_X2_53 : Cond.methodLink RX2 53 Lib.Math.min.name ∈ TT := TT_t 704 (by decide +kernel) rfl
theorem ml_X11_135 : Cond.methodLink RX11 135 yX10_begin ∈ TT := TT_t 706 (by decide +kernel) rfl
theorem nl_X10_45 : Cond.methodLinkNest RX10 45 yX11_copy "ScentCourt" ∈ NW := NW_t 710 (by decide +kernel) rfl
theorem ml_X10_49 : Cond.methodLink RX10 49 yJ7_fill_53178 ∈ TT := TT_t 711 (by decide +kernel) rfl
theorem ml_X11_138 : Cond.methodLink RX11 138 yX6_clear ∈ TT := TT_t 712 (by decide +kernel) rfl
theorem ml_X11_141 : Cond.methodLink RX11 141 yX11_forgetPast ∈ TT := TT_t 716 (by decide +kernel) rfl
theorem ml_L_37 : Cond.methodLink RL 37 yX11_fault ∈ TT := TT_t 720 (by decide +kernel) rfl
theorem ml_L_50 : Cond.methodLink RL 50 yX11_fade ∈ TT := TT_t 724 (by decide +kernel) rfl
theorem ml_X11_144 : Cond.methodLink RX11 144 yX2_has ∈ TT := TT_t 728 (by decide +kernel) rfl
theorem ml_X11_154 : Cond.methodLink RX11 154 yX11_at ∈ TT := TT_t 732 (by decide +kernel) rfl
theorem ml_L_58 : Cond.methodLink RL 58 yX11_coat ∈ TT := TT_t 733 (by decide +kernel) rfl
theorem ml_L_62 : Cond.methodLink RL 62 yX11_cloth ∈ TT := TT_t 737 (by decide +kernel) rfl
theorem ml_X11_179 : Cond.methodLink RX11 179 yX10_hasCloth ∈ TT := TT_t 741 (by decide +kernel) rfl
theorem ml_L_66 : Cond.methodLink RL 66 yX11_box ∈ TT := TT_t 745 (by decide +kernel) rfl
theorem ml_X11_176 : Cond.methodLink RX11 176 yX11_strongest ∈ TT := TT_t 749 (by decide +kernel) rfl
theorem ml_X11_173 : Cond.methodLink RX11 173 yX11_total ∈ TT := TT_t 752 (by decide +kernel) rfl
theorem ml_L_70 : Cond.methodLink RL 70 yX11_goes ∈ TT := TT_t 755 (by decide +kernel) rfl
theorem ml_X11_195 : Cond.methodLink RX11 195 yX11_keepPast ∈ TT := TT_t 759 (by decide +kernel) rfl
theorem ml_X11_236 : Cond.methodLink RX11 236 yX10_copyFrom ∈ TT := TT_t 763 (by decide +kernel) rfl
theorem ml_X11_198 : Cond.methodLink RX11 198 yX11_put ∈ TT := TT_t 767 (by decide +kernel) rfl
theorem ml_L_75 : Cond.methodLink RL 75 yX11_change ∈ TT := TT_t 768 (by decide +kernel) rfl
theorem ml_X11_202 : Cond.methodLink RX11 202 yX10_swap ∈ TT := TT_t 772 (by decide +kernel) rfl
theorem nl_X10_55 : Cond.methodLinkNest RX10 55 yX11_at "ScentCourt" ∈ NW := NW_t 776 (by decide +kernel) rfl
theorem nl_X10_59 : Cond.methodLinkNest RX10 59 yX11_put "ScentCourt" ∈ NW := NW_t 777 (by decide +kernel) rfl
theorem ml_L_79 : Cond.methodLink RL 79 yX11_soap ∈ TT := TT_t 778 (by decide +kernel) rfl
theorem ml_X11_206 : Cond.methodLink RX11 206 yX10_wash ∈ TT := TT_t 782 (by decide +kernel) rfl
theorem nl_X10_63 : Cond.methodLinkNest RX10 63 yX11_total "ScentCourt" ∈ NW := NW_t 786 (by decide +kernel) rfl
theorem ml_L_83 : Cond.methodLink RL 83 yX11_send ∈ TT := TT_t 787 (by decide +kernel) rfl
theorem ml_X11_210 : Cond.methodLink RX11 210 yX11_isBox ∈ TT := TT_t 791 (by decide +kernel) rfl
theorem ml_X11_216 : Cond.methodLink RX11 216 yX10_cut ∈ TT := TT_t 794 (by decide +kernel) rfl
theorem ml_X10_66 : Cond.methodLink RX10 66 Lib.Math.min.name ∈ TT := TT_t 798 (by decide +kernel) rfl
theorem ml_L_87 : Cond.methodLink RL 87 yX11_move ∈ TT := TT_t 799 (by decide +kernel) rfl
theorem ml_L_91 : Cond.methodLink RL 91 yX11_on ∈ TT := TT_t 803 (by decide +kernel) rfl
theorem ml_X11_220 : Cond.methodLink RX11 220 yX11_canPass ∈ TT := TT_t 807 (by decide +kernel) rfl
theorem ml_X11_223 : Cond.methodLink RX11 223 yX10_passHour ∈ TT := TT_t 811 (by decide +kernel) rfl
theorem ml_X10_72 : Cond.methodLink RX10 72 yX2_isRainTold ∈ TT := TT_t 815 (by decide +kernel) rfl
theorem ml_X10_79 : Cond.methodLink RX10 79 yX2_wentTo ∈ TT := TT_t 819 (by decide +kernel) rfl
theorem ml_X10_82 : Cond.methodLink RX10 82 yX2_passHour ∈ TT := TT_t 823 (by decide +kernel) rfl
theorem ml_X2_77 : Cond.methodLink RX2 77 yX2_fades ∈ TT := TT_t 827 (by decide +kernel) rfl
theorem ml_X2_81 : Cond.methodLink RX2 81 Lib.Math.max.name ∈ TT := TT_t 831 (by decide +kernel) rfl
theorem ml_X10_86 : Cond.methodLink RX10 86 yX2_fades ∈ TT := TT_t 834 (by decide +kernel) rfl
theorem ml_X10_90 : Cond.methodLink RX10 90 yX10_fadeCloth ∈ TT := TT_t 835 (by decide +kernel) rfl
theorem ml_X10_101 : Cond.methodLink RX10 101 Lib.Math.max.name ∈ TT := TT_t 839 (by decide +kernel) rfl
theorem ml_X10_94 : Cond.methodLink RX10 94 yX10_mingle ∈ TT := TT_t 840 (by decide +kernel) rfl
theorem ml_L_95 : Cond.methodLink RL 95 yX11_undo ∈ TT := TT_t 844 (by decide +kernel) rfl
theorem ml_L_99 : Cond.methodLink RL 99 yX11_order ∈ TT := TT_t 848 (by decide +kernel) rfl
theorem ml_X11_239 : Cond.methodLink RX11 239 yX4_findOrder ∈ TT := TT_t 852 (by decide +kernel) rfl
theorem ml_X4_33 : Cond.methodLink RX4 33 yX4_isAnyClean ∈ TT := TT_t 856 (by decide +kernel) rfl
theorem nl_X4_70 : Cond.methodLinkNest RX4 70 yX11_strongest "ScentCourt" ∈ NW := NW_t 859 (by decide +kernel) rfl
theorem ml_X4_37 : Cond.methodLink RX4 37 yX4_canOneNose ∈ TT := TT_t 860 (by decide +kernel) rfl
theorem ml_X4_81 : Cond.methodLink RX4 81 yJ7_fill_53178 ∈ TT := TT_t 864 (by decide +kernel) rfl
theorem nl_X4_73 : Cond.methodLinkNest RX4 73 yX11_put "ScentCourt" ∈ NW := NW_t 865 (by decide +kernel) rfl
theorem ml_X4_111 : Cond.methodLink RX4 111 yX4_tryNext ∈ TT := TT_t 866 (by decide +kernel) rfl
theorem ml_X4_115 : Cond.methodLink RX4 115 yX4_tryCloth ∈ TT := TT_t 870 (by decide +kernel) rfl
theorem nl_X4_53 : Cond.methodLinkNest RX4 53 yX11_at "ScentCourt" ∈ NW := NW_t 874 (by decide +kernel) rfl
theorem ml_X4_95 : Cond.methodLink RX4 95 yX4_isDrowned ∈ TT := TT_t 875 (by decide +kernel) rfl
theorem ml_X4_99 : Cond.methodLink RX4 99 yX4_open ∈ TT := TT_t 878 (by decide +kernel) rfl
theorem ml_X4_119 : Cond.methodLink RX4 119 Lib.Math.max.name ∈ TT := TT_t 881 (by decide +kernel) rfl
theorem nl_X4_49 : Cond.methodLinkNest RX4 49 yX11_copy "ScentCourt" ∈ NW := NW_t 882 (by decide +kernel) rfl
theorem ml_L_103 : Cond.methodLink RL 103 yX11_opened ∈ TT := TT_t 883 (by decide +kernel) rfl
theorem ml_X11_243 : Cond.methodLink RX11 243 yX4_foundAt ∈ TT := TT_t 887 (by decide +kernel) rfl
theorem ml_L_107 : Cond.methodLink RL 107 yX11_noses ∈ TT := TT_t 891 (by decide +kernel) rfl
theorem ml_X11_246 : Cond.methodLink RX11 246 yX4_fewest ∈ TT := TT_t 895 (by decide +kernel) rfl
theorem ml_X4_57 : Cond.methodLink RX4 57 Lib.Math.min.name ∈ TT := TT_t 899 (by decide +kernel) rfl
theorem ml_X4_63 : Cond.methodLink RX4 63 yX4_share ∈ TT := TT_t 900 (by decide +kernel) rfl
theorem ml_L_111 : Cond.methodLink RL 111 yX11_drowned ∈ TT := TT_t 904 (by decide +kernel) rfl
theorem ml_X11_249 : Cond.methodLink RX11 249 yX4_openRow ∈ TT := TT_t 908 (by decide +kernel) rfl
theorem ml_X4_77 : Cond.methodLink RX4 77 yX4_isRowTold ∈ TT := TT_t 912 (by decide +kernel) rfl
theorem ml_X4_107 : Cond.methodLink RX4 107 yX10_hasCloth ∈ TT := TT_t 915 (by decide +kernel) rfl
theorem ml_L_115 : Cond.methodLink RL 115 yX11_remains ∈ TT := TT_t 916 (by decide +kernel) rfl
theorem ml_L_119 : Cond.methodLink RL 119 yX11_was ∈ TT := TT_t 920 (by decide +kernel) rfl
theorem ml_X11_263 : Cond.methodLink RX11 263 yX9_search ∈ TT := TT_t 924 (by decide +kernel) rfl
theorem nl_X9_39 : Cond.methodLinkNest RX9 39 yX11_at "ScentCourt" ∈ NW := NW_t 928 (by decide +kernel) rfl
theorem nl_X9_57 : Cond.methodLinkNest RX9 57 yX11_put "ScentCourt" ∈ NW := NW_t 929 (by decide +kernel) rfl
theorem ml_X9_61 : Cond.methodLink RX9 61 yX9_findMostAir ∈ TT := TT_t 930 (by decide +kernel) rfl
theorem ml_X9_65 : Cond.methodLink RX9 65 yJ7_fill_53178 ∈ TT := TT_t 934 (by decide +kernel) rfl
theorem ml_X9_78 : Cond.methodLink RX9 78 Lib.Math.max.name ∈ TT := TT_t 935 (by decide +kernel) rfl
theorem ml_X9_71 : Cond.methodLink RX9 71 yX9_tryHour ∈ TT := TT_t 936 (by decide +kernel) rfl
theorem ml_X9_84 : Cond.methodLink RX9 84 yX9_addRow ∈ TT := TT_t 940 (by decide +kernel) rfl
theorem nl_X9_108 : Cond.methodLinkNest RX9 108 yX11_copy "ScentCourt" ∈ NW := NW_t 944 (by decide +kernel) rfl
theorem ml_X9_87 : Cond.methodLink RX9 87 yX9_tryPlace ∈ TT := TT_t 945 (by decide +kernel) rfl
theorem ml_X9_91 : Cond.methodLink RX9 91 yX2_passHour ∈ TT := TT_t 949 (by decide +kernel) rfl
theorem ml_X9_95 : Cond.methodLink RX9 95 yX9_canEndAsTold ∈ TT := TT_t 950 (by decide +kernel) rfl
theorem ml_L_123 : Cond.methodLink RL 123 yX11_rows ∈ TT := TT_t 954 (by decide +kernel) rfl
theorem ml_L_127 : Cond.methodLink RL 127 yX11_first ∈ TT := TT_t 958 (by decide +kernel) rfl
theorem ml_L_131 : Cond.methodLink RL 131 yX11_changed ∈ TT := TT_t 962 (by decide +kernel) rfl
theorem ml_X11_282 : Cond.methodLink RX11 282 yX0_search ∈ TT := TT_t 966 (by decide +kernel) rfl
theorem nl_X0_36 : Cond.methodLinkNest RX0 36 yX11_at "ScentCourt" ∈ NW := NW_t 970 (by decide +kernel) rfl
theorem ml_X0_46 : Cond.methodLink RX0 46 yX0_readTold ∈ TT := TT_t 971 (by decide +kernel) rfl
theorem ml_X0_62 : Cond.methodLink RX0 62 yJ7_fill_53178 ∈ TT := TT_t 975 (by decide +kernel) rfl
theorem nl_X0_73 : Cond.methodLinkNest RX0 73 yX11_put "ScentCourt" ∈ NW := NW_t 976 (by decide +kernel) rfl
theorem ml_X0_50 : Cond.methodLink RX0 50 yX0_passAllHours ∈ TT := TT_t 977 (by decide +kernel) rfl
theorem nl_X0_80 : Cond.methodLinkNest RX0 80 yX11_copy "ScentCourt" ∈ NW := NW_t 981 (by decide +kernel) rfl
theorem ml_X0_84 : Cond.methodLink RX0 84 yX2_wentTo ∈ TT := TT_t 982 (by decide +kernel) rfl
theorem ml_X0_88 : Cond.methodLink RX0 88 yX0_take ∈ TT := TT_t 983 (by decide +kernel) rfl
theorem ml_X0_92 : Cond.methodLink RX0 92 yX2_isRainTold ∈ TT := TT_t 987 (by decide +kernel) rfl
theorem ml_X0_96 : Cond.methodLink RX0 96 yX2_passHour ∈ TT := TT_t 988 (by decide +kernel) rfl
theorem ml_X0_54 : Cond.methodLink RX0 54 yX0_areOthersAsTold ∈ TT := TT_t 989 (by decide +kernel) rfl
theorem nl_X0_100 : Cond.methodLinkNest RX0 100 yX11_difference "ScentCourt" ∈ NW := NW_t 993 (by decide +kernel) rfl
theorem ml_X11_384 : Cond.methodLink RX11 384 Lib.Math.abs.name ∈ TT := TT_t 996 (by decide +kernel) rfl
theorem ml_X0_58 : Cond.methodLink RX0 58 yX0_searchHours ∈ TT := TT_t 999 (by decide +kernel) rfl
theorem ml_X0_104 : Cond.methodLink RX0 104 yX0_isAsTold ∈ TT := TT_t 1003 (by decide +kernel) rfl
theorem ml_L_135 : Cond.methodLink RL 135 yX11_changeAt ∈ TT := TT_t 1007 (by decide +kernel) rfl
theorem ml_L_139 : Cond.methodLink RL 139 yX11_dog ∈ TT := TT_t 1011 (by decide +kernel) rfl
theorem ml_X11_291 : Cond.methodLink RX11 291 yX11_leastUnlike ∈ TT := TT_t 1015 (by decide +kernel) rfl
theorem ml_X11_295 : Cond.methodLink RX11 295 yX11_difference ∈ TT := TT_t 1018 (by decide +kernel) rfl
theorem ml_L_143 : Cond.methodLink RL 143 yX11_unlike ∈ TT := TT_t 1019 (by decide +kernel) rfl
theorem ml_L_147 : Cond.methodLink RL 147 yX11_alike ∈ TT := TT_t 1023 (by decide +kernel) rfl
theorem ml_L_151 : Cond.methodLink RL 151 yX11_kitchen ∈ TT := TT_t 1027 (by decide +kernel) rfl
theorem ml_X11_298 : Cond.methodLink RX11 298 yX2_gain ∈ TT := TT_t 1031 (by decide +kernel) rfl
theorem ml_L_155 : Cond.methodLink RL 155 yX11_thread ∈ TT := TT_t 1035 (by decide +kernel) rfl
theorem ml_L_159 : Cond.methodLink RL 159 yX11_source ∈ TT := TT_t 1039 (by decide +kernel) rfl
theorem ml_L_163 : Cond.methodLink RL 163 yX11_strangers ∈ TT := TT_t 1043 (by decide +kernel) rfl
theorem ml_L_167 : Cond.methodLink RL 167 yX11_wearer ∈ TT := TT_t 1047 (by decide +kernel) rfl
theorem ml_L_171 : Cond.methodLink RL 171 yX11_clean ∈ TT := TT_t 1051 (by decide +kernel) rfl
theorem ml_X11_302 : Cond.methodLink RX11 302 yX10_hoursTillClean ∈ TT := TT_t 1055 (by decide +kernel) rfl
theorem ml_L_175 : Cond.methodLink RL 175 yX11_pleas ∈ TT := TT_t 1059 (by decide +kernel) rfl
theorem ml_X11_306 : Cond.methodLink RX11 306 yX5_read ∈ TT := TT_t 1063 (by decide +kernel) rfl
theorem ml_X5_15 : Cond.methodLink RX5 15 yX8_begin ∈ TT := TT_t 1067 (by decide +kernel) rfl
theorem ml_X5_24 : Cond.methodLink RX5 24 yX5_readLine ∈ TT := TT_t 1068 (by decide +kernel) rfl
theorem ml_X5_28 : Cond.methodLink RX5 28 yX8_takeTold ∈ TT := TT_t 1072 (by decide +kernel) rfl
theorem ml_X5_32 : Cond.methodLink RX5 32 yX8_failAtTaken ∈ TT := TT_t 1073 (by decide +kernel) rfl
theorem ml_X5_39 : Cond.methodLink RX5 39 yX8_fail ∈ TT := TT_t 1074 (by decide +kernel) rfl
theorem ml_X5_42 : Cond.methodLink RX5 42 yX8_step ∈ TT := TT_t 1075 (by decide +kernel) rfl
theorem ml_X5_45 : Cond.methodLink RX5 45 yX5_sortOf ∈ TT := TT_t 1076 (by decide +kernel) rfl
theorem ml_X5_49 : Cond.methodLink RX5 49 yX5_isSo ∈ TT := TT_t 1079 (by decide +kernel) rfl
theorem nl_X5_62 : Cond.methodLinkNest RX5 62 yX11_at "ScentCourt" ∈ NW := NW_t 1082 (by decide +kernel) rfl
theorem ml_X5_53 : Cond.methodLink RX5 53 yX8_take ∈ TT := TT_t 1083 (by decide +kernel) rfl
theorem ml_L_179 : Cond.methodLink RL 179 yX11_drawn ∈ TT := TT_t 1084 (by decide +kernel) rfl
theorem ml_X11_312 : Cond.methodLink RX11 312 yX11_canDraw ∈ TT := TT_t 1088 (by decide +kernel) rfl
theorem ml_X11_316 : Cond.methodLink RX11 316 yX1_passHours ∈ TT := TT_t 1092 (by decide +kernel) rfl
theorem ml_X1_35 : Cond.methodLink RX1 35 yX1_drawWalks ∈ TT := TT_t 1096 (by decide +kernel) rfl
theorem nl_X1_58 : Cond.methodLinkNest RX1 58 yX11_at "ScentCourt" ∈ NW := NW_t 1100 (by decide +kernel) rfl
theorem ml_X1_68 : Cond.methodLink RX1 68 yX1_draw ∈ TT := TT_t 1101 (by decide +kernel) rfl
theorem cl_X1_62 : Cond.constant RX1 62 (1103515245) ∈ TT := TT_t 1105 (by decide +kernel) rfl
theorem nl_X1_75 : Cond.methodLinkNest RX1 75 yX11_put "ScentCourt" ∈ NW := NW_t 1106 (by decide +kernel) rfl
theorem ml_X1_39 : Cond.methodLink RX1 39 yX1_drawChange ∈ TT := TT_t 1107 (by decide +kernel) rfl
theorem ml_X1_79 : Cond.methodLink RX1 79 yX10_swap ∈ TT := TT_t 1111 (by decide +kernel) rfl
theorem ml_X1_42 : Cond.methodLink RX1 42 yX1_drawRain ∈ TT := TT_t 1112 (by decide +kernel) rfl
theorem ml_X1_46 : Cond.methodLink RX1 46 yX10_passHour ∈ TT := TT_t 1116 (by decide +kernel) rfl
theorem ml_L_183 : Cond.methodLink RL 183 yX11_weather ∈ TT := TT_t 1117 (by decide +kernel) rfl
theorem ml_L_187 : Cond.methodLink RL 187 yX11_odds ∈ TT := TT_t 1121 (by decide +kernel) rfl
theorem ml_X11_332 : Cond.methodLink RX11 332 yX1_endsInOwnCoat ∈ TT := TT_t 1125 (by decide +kernel) rfl
theorem ml_X1_50 : Cond.methodLink RX1 50 yX10_copyFrom ∈ TT := TT_t 1129 (by decide +kernel) rfl
theorem ml_L_192 : Cond.methodLink RL 192 yX11_write ∈ TT := TT_t 1130 (by decide +kernel) rfl
theorem ml_X11_339 : Cond.methodLink RX11 339 yX2_nameOf ∈ TT := TT_t 1134 (by decide +kernel) rfl
theorem ml_X11_343 : Cond.methodLink RX11 343 yX11_writeName ∈ TT := TT_t 1138 (by decide +kernel) rfl
theorem cl_X11_376 : Cond.constantLong RX11 376 (255) ∈ TT := TT_t 1142 (by decide +kernel) rfl
theorem ml_X11_347 : Cond.methodLink RX11 347 yX11_writeByte ∈ TT := TT_t 1143 (by decide +kernel) rfl
theorem ml_X11_350 : Cond.methodLink RX11 350 yX11_writeNumber ∈ TT := TT_t 1147 (by decide +kernel) rfl
theorem ml_L_196 : Cond.methodLink RL 196 yX11_byteAt ∈ TT := TT_t 1151 (by decide +kernel) rfl
theorem ml_L_200 : Cond.methodLink RL 200 yX11_sentence ∈ TT := TT_t 1155 (by decide +kernel) rfl
theorem ml_X11_353 : Cond.methodLink RX11 353 yX7_read ∈ TT := TT_t 1159 (by decide +kernel) rfl
theorem ml_X7_22 : Cond.methodLink RX7 22 yX6_clear ∈ TT := TT_t 1163 (by decide +kernel) rfl
theorem ml_X7_29 : Cond.methodLink RX7 29 yX8_begin ∈ TT := TT_t 1164 (by decide +kernel) rfl
theorem ml_X7_35 : Cond.methodLink RX7 35 yX7_readCond ∈ TT := TT_t 1165 (by decide +kernel) rfl
theorem ml_X7_46 : Cond.methodLink RX7 46 yX7_readAll ∈ TT := TT_t 1169 (by decide +kernel) rfl
theorem ml_X7_56 : Cond.methodLink RX7 56 yX7_readOne ∈ TT := TT_t 1173 (by decide +kernel) rfl
theorem ml_X7_59 : Cond.methodLink RX7 59 yX7_beginsOne ∈ TT := TT_t 1177 (by decide +kernel) rfl
theorem ml_X7_42 : Cond.methodLink RX7 42 yX8_fail ∈ TT := TT_t 1180 (by decide +kernel) rfl
theorem ml_X7_49 : Cond.methodLink RX7 49 yX8_step ∈ TT := TT_t 1181 (by decide +kernel) rfl
theorem ml_X7_62 : Cond.methodLink RX7 62 yX7_readInside ∈ TT := TT_t 1182 (by decide +kernel) rfl
theorem ml_X7_66 : Cond.methodLink RX7 66 yX8_take ∈ TT := TT_t 1186 (by decide +kernel) rfl
theorem ml_X7_69 : Cond.methodLink RX7 69 yX7_added ∈ TT := TT_t 1187 (by decide +kernel) rfl
theorem ml_X7_52 : Cond.methodLink RX7 52 yX6_add ∈ TT := TT_t 1191 (by decide +kernel) rfl
theorem nl_X6_29 : Cond.methodLinkNest RX6 29 yX11_put "ScentCourt" ∈ NW := NW_t 1195 (by decide +kernel) rfl
theorem ml_X6_33 : Cond.methodLink RX6 33 Lib.Math.min.name ∈ TT := TT_t 1196 (by decide +kernel) rfl
theorem ml_X7_73 : Cond.methodLink RX7 73 yX8_takeTold ∈ TT := TT_t 1197 (by decide +kernel) rfl
theorem ml_X7_79 : Cond.methodLink RX7 79 yX7_readMeasure ∈ TT := TT_t 1198 (by decide +kernel) rfl
theorem ml_X7_82 : Cond.methodLink RX7 82 yX8_takeNumber ∈ TT := TT_t 1202 (by decide +kernel) rfl
theorem ml_X11_358 : Cond.methodLink RX11 358 yX6_copyFrom ∈ TT := TT_t 1203 (by decide +kernel) rfl
theorem nl_X6_25 : Cond.methodLinkNest RX6 25 yX11_copy "ScentCourt" ∈ NW := NW_t 1207 (by decide +kernel) rfl
theorem ml_L_204 : Cond.methodLink RL 204 yX11_said ∈ TT := TT_t 1208 (by decide +kernel) rfl
theorem ml_X11_361 : Cond.methodLink RX11 361 yX6_isEmpty ∈ TT := TT_t 1212 (by decide +kernel) rfl
theorem ml_X11_364 : Cond.methodLink RX11 364 yX6_isSaidOf ∈ TT := TT_t 1216 (by decide +kernel) rfl
theorem nl_X6_39 : Cond.methodLinkNest RX6 39 yX11_at "ScentCourt" ∈ NW := NW_t 1220 (by decide +kernel) rfl
theorem cl_X6_43 : Cond.constantLong RX6 43 (-2) ∈ TT := TT_t 1221 (by decide +kernel) rfl
theorem ml_X6_45 : Cond.methodLink RX6 45 yX6_holds ∈ TT := TT_t 1222 (by decide +kernel) rfl
theorem nl_X6_57 : Cond.methodLinkNest RX6 57 yX11_total "ScentCourt" ∈ NW := NW_t 1226 (by decide +kernel) rfl
theorem ml_X6_63 : Cond.methodLink RX6 63 yX6_compares ∈ TT := TT_t 1227 (by decide +kernel) rfl
theorem ml_X6_67 : Cond.methodLink RX6 67 yX6_most ∈ TT := TT_t 1230 (by decide +kernel) rfl
theorem nl_X6_76 : Cond.methodLinkNest RX6 76 yX11_strongest "ScentCourt" ∈ NW := NW_t 1233 (by decide +kernel) rfl
theorem ml_L_208 : Cond.methodLink RL 208 yX11_image ∈ TT := TT_t 1234 (by decide +kernel) rfl
theorem ml_X11_368 : Cond.methodLink RX11 368 yX11_isImage ∈ TT := TT_t 1238 (by decide +kernel) rfl
theorem ml_L_212 : Cond.methodLink RL 212 yX11_restore ∈ TT := TT_t 1242 (by decide +kernel) rfl
theorem ml_L_216 : Cond.methodLink RL 216 yX11_count ∈ TT := TT_t 1246 (by decide +kernel) rfl
theorem ml_L_41 : Cond.methodLink RL 41 yL_air ∈ TT := TT_t 1250 (by decide +kernel) rfl
theorem ml_L_7 : Cond.methodLink RL 7 yX11_air ∈ TT := TT_t 1254 (by decide +kernel) rfl
theorem ml_L_55 : Cond.methodLink RL 55 yL_witness ∈ TT := TT_t 1319 (by decide +kernel) rfl
theorem ml_L_15 : Cond.methodLink RL 15 yX11_witness ∈ TT := TT_t 1322 (by decide +kernel) rfl
theorem ml_L_21 : Cond.methodLink RL 21 yX12_init ∈ TT := TT_t 1328 (by decide +kernel) rfl
theorem fl_X12_100 : Cond.fieldLink RX12 100 (TX12 0).1 (TX12 0).2.1 (TX12 0).2.2.1 ∈ TT := TT_t 1332 (by decide +kernel) rfl
theorem fl_X12_7 : Cond.fieldLink RX12 7 (TX12 1).1 (TX12 1).2.1 (TX12 1).2.2.1 ∈ TT := TT_t 1333 (by decide +kernel) rfl
theorem fl_X12_103 : Cond.fieldLink RX12 103 (TX12 2).1 (TX12 2).2.1 (TX12 2).2.2.1 ∈ TT := TT_t 1334 (by decide +kernel) rfl
theorem fl_X12_110 : Cond.fieldLink RX12 110 (TX12 3).1 (TX12 3).2.1 (TX12 3).2.2.1 ∈ TT := TT_t 1335 (by decide +kernel) rfl
theorem fl_X12_119 : Cond.fieldLink RX12 119 (TX12 4).1 (TX12 4).2.1 (TX12 4).2.2.1 ∈ TT := TT_t 1336 (by decide +kernel) rfl
theorem fl_X12_113 : Cond.fieldLink RX12 113 (TX12 5).1 (TX12 5).2.1 (TX12 5).2.2.1 ∈ TT := TT_t 1337 (by decide +kernel) rfl
theorem fl_X12_116 : Cond.fieldLink RX12 116 (TX12 6).1 (TX12 6).2.1 (TX12 6).2.2.1 ∈ TT := TT_t 1338 (by decide +kernel) rfl
theorem fl_X12_122 : Cond.fieldLink RX12 122 (TX12 7).1 (TX12 7).2.1 (TX12 7).2.2.1 ∈ TT := TT_t 1339 (by decide +kernel) rfl
theorem fl_X12_139 : Cond.fieldLink RX12 139 (TX12 8).1 (TX12 8).2.1 (TX12 8).2.2.1 ∈ TT := TT_t 1340 (by decide +kernel) rfl
theorem fl_X12_132 : Cond.fieldLink RX12 132 (TX12 9).1 (TX12 9).2.1 (TX12 9).2.2.1 ∈ TT := TT_t 1341 (by decide +kernel) rfl
theorem fl_X12_160 : Cond.fieldLink RX12 160 (TX12 10).1 (TX12 10).2.1 (TX12 10).2.2.1 ∈ TT := TT_t 1342 (by decide +kernel) rfl
theorem fl_X12_163 : Cond.fieldLink RX12 163 (TX12 11).1 (TX12 11).2.1 (TX12 11).2.2.1 ∈ TT := TT_t 1343 (by decide +kernel) rfl
theorem fl_X12_135 : Cond.fieldLink RX12 135 (TX12 12).1 (TX12 12).2.1 (TX12 12).2.2.1 ∈ TT := TT_t 1344 (by decide +kernel) rfl
theorem fl_X12_173 : Cond.fieldLink RX12 173 (TX12 13).1 (TX12 13).2.1 (TX12 13).2.2.1 ∈ TT := TT_t 1345 (by decide +kernel) rfl
theorem fl_X12_13 : Cond.fieldLink RX12 13 (TX12 14).1 (TX12 14).2.1 (TX12 14).2.2.1 ∈ TT := TT_t 1346 (by decide +kernel) rfl
theorem fl_X12_16 : Cond.fieldLink RX12 16 (TX12 15).1 (TX12 15).2.1 (TX12 15).2.2.1 ∈ TT := TT_t 1347 (by decide +kernel) rfl
theorem fl_X12_19 : Cond.fieldLink RX12 19 (TX12 16).1 (TX12 16).2.1 (TX12 16).2.2.1 ∈ TT := TT_t 1348 (by decide +kernel) rfl
theorem fl_X12_22 : Cond.fieldLink RX12 22 (TX12 17).1 (TX12 17).2.1 (TX12 17).2.2.1 ∈ TT := TT_t 1349 (by decide +kernel) rfl
theorem fl_X12_25 : Cond.fieldLink RX12 25 (TX12 18).1 (TX12 18).2.1 (TX12 18).2.2.1 ∈ TT := TT_t 1350 (by decide +kernel) rfl
theorem fl_X12_28 : Cond.fieldLink RX12 28 (TX12 19).1 (TX12 19).2.1 (TX12 19).2.2.1 ∈ TT := TT_t 1351 (by decide +kernel) rfl
theorem fl_X12_32 : Cond.fieldLink RX12 32 (TX12 20).1 (TX12 20).2.1 (TX12 20).2.2.1 ∈ TT := TT_t 1352 (by decide +kernel) rfl
theorem fl_X12_35 : Cond.fieldLink RX12 35 (TX12 21).1 (TX12 21).2.1 (TX12 21).2.2.1 ∈ TT := TT_t 1353 (by decide +kernel) rfl
theorem fl_X12_38 : Cond.fieldLink RX12 38 (TX12 22).1 (TX12 22).2.1 (TX12 22).2.2.1 ∈ TT := TT_t 1354 (by decide +kernel) rfl
theorem fl_X12_247 : Cond.fieldLink RX12 247 (TX12 23).1 (TX12 23).2.1 (TX12 23).2.2.1 ∈ TT := TT_t 1355 (by decide +kernel) rfl
theorem fl_X12_42 : Cond.fieldLink RX12 42 (TX12 24).1 (TX12 24).2.1 (TX12 24).2.2.1 ∈ TT := TT_t 1356 (by decide +kernel) rfl
theorem fl_X12_45 : Cond.fieldLink RX12 45 (TX12 25).1 (TX12 25).2.1 (TX12 25).2.2.1 ∈ TT := TT_t 1357 (by decide +kernel) rfl
theorem fl_X12_48 : Cond.fieldLink RX12 48 (TX12 26).1 (TX12 26).2.1 (TX12 26).2.2.1 ∈ TT := TT_t 1358 (by decide +kernel) rfl
theorem fl_X12_51 : Cond.fieldLink RX12 51 (TX12 27).1 (TX12 27).2.1 (TX12 27).2.2.1 ∈ TT := TT_t 1359 (by decide +kernel) rfl
theorem fl_X12_54 : Cond.fieldLink RX12 54 (TX12 28).1 (TX12 28).2.1 (TX12 28).2.2.1 ∈ TT := TT_t 1360 (by decide +kernel) rfl
theorem fl_X12_336 : Cond.fieldLink RX12 336 (TX12 29).1 (TX12 29).2.1 (TX12 29).2.2.1 ∈ TT := TT_t 1361 (by decide +kernel) rfl
theorem fl_X12_317 : Cond.fieldLink RX12 317 (TX12 30).1 (TX12 30).2.1 (TX12 30).2.2.1 ∈ TT := TT_t 1362 (by decide +kernel) rfl
theorem fl_X12_57 : Cond.fieldLink RX12 57 (TX12 31).1 (TX12 31).2.1 (TX12 31).2.2.1 ∈ TT := TT_t 1363 (by decide +kernel) rfl
theorem fl_X12_60 : Cond.fieldLink RX12 60 (TX12 32).1 (TX12 32).2.1 (TX12 32).2.2.1 ∈ TT := TT_t 1364 (by decide +kernel) rfl
theorem fl_X12_339 : Cond.fieldLink RX12 339 (TX12 33).1 (TX12 33).2.1 (TX12 33).2.2.1 ∈ TT := TT_t 1365 (by decide +kernel) rfl
theorem fl_X12_63 : Cond.fieldLink RX12 63 (TX12 34).1 (TX12 34).2.1 (TX12 34).2.2.1 ∈ TT := TT_t 1366 (by decide +kernel) rfl
theorem fl_X12_66 : Cond.fieldLink RX12 66 (TX12 35).1 (TX12 35).2.1 (TX12 35).2.2.1 ∈ TT := TT_t 1367 (by decide +kernel) rfl
theorem fl_X12_69 : Cond.fieldLink RX12 69 (TX12 36).1 (TX12 36).2.1 (TX12 36).2.2.1 ∈ TT := TT_t 1368 (by decide +kernel) rfl
theorem fl_X12_72 : Cond.fieldLink RX12 72 (TX12 37).1 (TX12 37).2.1 (TX12 37).2.2.1 ∈ TT := TT_t 1369 (by decide +kernel) rfl
theorem fl_X12_75 : Cond.fieldLink RX12 75 (TX12 38).1 (TX12 38).2.1 (TX12 38).2.2.1 ∈ TT := TT_t 1370 (by decide +kernel) rfl
theorem fl_X12_78 : Cond.fieldLink RX12 78 (TX12 39).1 (TX12 39).2.1 (TX12 39).2.2.1 ∈ TT := TT_t 1371 (by decide +kernel) rfl
theorem fl_X12_342 : Cond.fieldLink RX12 342 (TX12 40).1 (TX12 40).2.1 (TX12 40).2.2.1 ∈ TT := TT_t 1372 (by decide +kernel) rfl
theorem fl_X12_348 : Cond.fieldLink RX12 348 (TX12 41).1 (TX12 41).2.1 (TX12 41).2.2.1 ∈ TT := TT_t 1373 (by decide +kernel) rfl
theorem fl_X12_82 : Cond.fieldLink RX12 82 (TX12 42).1 (TX12 42).2.1 (TX12 42).2.2.1 ∈ TT := TT_t 1374 (by decide +kernel) rfl
theorem fl_X12_85 : Cond.fieldLink RX12 85 (TX12 43).1 (TX12 43).2.1 (TX12 43).2.2.1 ∈ TT := TT_t 1375 (by decide +kernel) rfl
theorem fl_X12_351 : Cond.fieldLink RX12 351 (TX12 44).1 (TX12 44).2.1 (TX12 44).2.2.1 ∈ TT := TT_t 1376 (by decide +kernel) rfl
theorem fl_X12_371 : Cond.fieldLink RX12 371 (TX12 45).1 (TX12 45).2.1 (TX12 45).2.2.1 ∈ TT := TT_t 1377 (by decide +kernel) rfl
theorem fl_X12_374 : Cond.fieldLink RX12 374 (TX12 46).1 (TX12 46).2.1 (TX12 46).2.2.1 ∈ TT := TT_t 1378 (by decide +kernel) rfl
theorem fl_X12_380 : Cond.fieldLink RX12 380 (TX12 47).1 (TX12 47).2.1 (TX12 47).2.2.1 ∈ TT := TT_t 1379 (by decide +kernel) rfl
theorem fl_X12_384 : Cond.fieldLink RX12 384 (TX12 48).1 (TX12 48).2.1 (TX12 48).2.2.1 ∈ TT := TT_t 1380 (by decide +kernel) rfl
theorem fl_X12_387 : Cond.fieldLink RX12 387 (TX12 49).1 (TX12 49).2.1 (TX12 49).2.2.1 ∈ TT := TT_t 1381 (by decide +kernel) rfl
theorem fl_X12_390 : Cond.fieldLink RX12 390 (TX12 50).1 (TX12 50).2.1 (TX12 50).2.2.1 ∈ TT := TT_t 1382 (by decide +kernel) rfl
theorem fl_X12_88 : Cond.fieldLink RX12 88 (TX12 51).1 (TX12 51).2.1 (TX12 51).2.2.1 ∈ TT := TT_t 1383 (by decide +kernel) rfl
theorem fl_X12_91 : Cond.fieldLink RX12 91 (TX12 52).1 (TX12 52).2.1 (TX12 52).2.2.1 ∈ TT := TT_t 1384 (by decide +kernel) rfl
theorem fl_X12_94 : Cond.fieldLink RX12 94 (TX12 53).1 (TX12 53).2.1 (TX12 53).2.2.1 ∈ TT := TT_t 1385 (by decide +kernel) rfl
theorem fl_X12_402 : Cond.fieldLink RX12 402 (TX12 54).1 (TX12 54).2.1 (TX12 54).2.2.1 ∈ TT := TT_t 1386 (by decide +kernel) rfl
theorem fl_X12_97 : Cond.fieldLink RX12 97 (TX12 55).1 (TX12 55).2.1 (TX12 55).2.2.1 ∈ TT := TT_t 1387 (by decide +kernel) rfl
theorem fl_X12_408 : Cond.fieldLink RX12 408 (TX12 56).1 (TX12 56).2.1 (TX12 56).2.2.1 ∈ TT := TT_t 1388 (by decide +kernel) rfl
theorem fl_X12_424 : Cond.fieldLink RX12 424 (TX12 57).1 (TX12 57).2.1 (TX12 57).2.2.1 ∈ TT := TT_t 1389 (by decide +kernel) rfl
theorem fl_X12_427 : Cond.fieldLink RX12 427 (TX12 58).1 (TX12 58).2.1 (TX12 58).2.2.1 ∈ TT := TT_t 1390 (by decide +kernel) rfl
theorem fl_X12_414 : Cond.fieldLink RX12 414 (TX12 59).1 (TX12 59).2.1 (TX12 59).2.2.1 ∈ TT := TT_t 1391 (by decide +kernel) rfl
theorem ml_L_47 : Cond.methodLink RL 47 yX12_thrown ∈ TT := TT_t 1514 (by decide +kernel) rfl
theorem ml_L_26 : Cond.methodLink RL 26 yX12_feed ∈ TT := TT_t 1518 (by decide +kernel) rfl
theorem ml_X12_106 : Cond.methodLink RX12 106 yX12_come ∈ TT := TT_t 1522 (by decide +kernel) rfl
theorem ml_L_31 : Cond.methodLink RL 31 yX12_end ∈ TT := TT_t 1526 (by decide +kernel) rfl
theorem ml_L_36 : Cond.methodLink RL 36 yX12_hill ∈ TT := TT_t 1530 (by decide +kernel) rfl
theorem ml_X12_238 : Cond.methodLink RX12 238 yX12_begin ∈ TT := TT_t 1534 (by decide +kernel) rfl
theorem ml_X12_186 : Cond.methodLink RX12 186 yX12_take ∈ TT := TT_t 1538 (by decide +kernel) rfl
theorem ml_X12_180 : Cond.methodLink RX12 180 yX12_go ∈ TT := TT_t 1542 (by decide +kernel) rfl
theorem ml_X12_125 : Cond.methodLink RX12 125 yX12_isLetter ∈ TT := TT_t 1546 (by decide +kernel) rfl
theorem ml_X12_129 : Cond.methodLink RX12 129 yX12_isDigit ∈ TT := TT_t 1549 (by decide +kernel) rfl
theorem ml_X12_142 : Cond.methodLink RX12 142 yX12_tapeAt ∈ TT := TT_t 1552 (by decide +kernel) rfl
theorem cl_X12_146 : Cond.constantLong RX12 146 (27) ∈ TT := TT_t 1556 (by decide +kernel) rfl
theorem cl_X12_148 : Cond.constantLong RX12 148 (96) ∈ TT := TT_t 1557 (by decide +kernel) rfl
theorem ml_X12_241 : Cond.methodLink RX12 241 yX12_readLine ∈ TT := TT_t 1558 (by decide +kernel) rfl
theorem ml_X12_214 : Cond.methodLink RX12 214 yX12_isWord ∈ TT := TT_t 1562 (by decide +kernel) rfl
theorem ml_X12_156 : Cond.methodLink RX12 156 yX12_wordOf ∈ TT := TT_t 1566 (by decide +kernel) rfl
theorem ml_X12_150 : Cond.methodLink RX12 150 yX12_spelt ∈ TT := TT_t 1569 (by decide +kernel) rfl
theorem cl_X12_154 : Cond.constantLong RX12 154 (115) ∈ TT := TT_t 1572 (by decide +kernel) rfl
theorem ml_X12_217 : Cond.methodLink RX12 217 yX12_readScent ∈ TT := TT_t 1573 (by decide +kernel) rfl
theorem ml_X12_166 : Cond.methodLink RX12 166 yX12_bad ∈ TT := TT_t 1577 (by decide +kernel) rfl
theorem ml_X12_202 : Cond.methodLink RX12 202 yX12_readNew ∈ TT := TT_t 1581 (by decide +kernel) rfl
theorem ml_X12_190 : Cond.methodLink RX12 190 yX12_isName ∈ TT := TT_t 1585 (by decide +kernel) rfl
theorem ml_X12_194 : Cond.methodLink RX12 194 yX12_findIn ∈ TT := TT_t 1589 (by decide +kernel) rfl
theorem ml_X12_205 : Cond.methodLink RX12 205 yX12_readNumber ∈ TT := TT_t 1592 (by decide +kernel) rfl
theorem ml_X12_176 : Cond.methodLink RX12 176 yX12_isNumber ∈ TT := TT_t 1596 (by decide +kernel) rfl
theorem ml_X12_169 : Cond.methodLink RX12 169 yX12_isIn ∈ TT := TT_t 1600 (by decide +kernel) rfl
theorem ml_X12_220 : Cond.methodLink RX12 220 yX12_readPlace ∈ TT := TT_t 1603 (by decide +kernel) rfl
theorem ml_X12_198 : Cond.methodLink RX12 198 yX12_isOne ∈ TT := TT_t 1607 (by decide +kernel) rfl
theorem ml_X12_208 : Cond.methodLink RX12 208 yX12_has ∈ TT := TT_t 1611 (by decide +kernel) rfl
theorem ml_X12_223 : Cond.methodLink RX12 223 yX12_readSmoke ∈ TT := TT_t 1614 (by decide +kernel) rfl
theorem ml_X12_211 : Cond.methodLink RX12 211 yX12_readOne ∈ TT := TT_t 1618 (by decide +kernel) rfl
theorem ml_X12_226 : Cond.methodLink RX12 226 yX12_readWitness ∈ TT := TT_t 1622 (by decide +kernel) rfl
theorem ml_X12_229 : Cond.methodLink RX12 229 yX12_readWent ∈ TT := TT_t 1626 (by decide +kernel) rfl
theorem ml_X12_232 : Cond.methodLink RX12 232 yX12_readRain ∈ TT := TT_t 1630 (by decide +kernel) rfl
theorem ml_X12_235 : Cond.methodLink RX12 235 yX12_readEnd ∈ TT := TT_t 1634 (by decide +kernel) rfl
theorem ml_X12_183 : Cond.methodLink RX12 183 yX12_isSign ∈ TT := TT_t 1638 (by decide +kernel) rfl
theorem ml_X12_244 : Cond.methodLink RX12 244 yX12_startAnew ∈ TT := TT_t 1642 (by decide +kernel) rfl
theorem ml_L_40 : Cond.methodLink RL 40 yX12_fault ∈ TT := TT_t 1646 (by decide +kernel) rfl
theorem ml_L_46 : Cond.methodLink RL 46 yX12_air ∈ TT := TT_t 1650 (by decide +kernel) rfl
theorem ml_X12_250 : Cond.methodLink RX12 250 yX12_isPlace ∈ TT := TT_t 1654 (by decide +kernel) rfl
theorem ml_X12_253 : Cond.methodLink RX12 253 yX12_isScent ∈ TT := TT_t 1658 (by decide +kernel) rfl
theorem ml_X12_256 : Cond.methodLink RX12 256 yX12_refuse ∈ TT := TT_t 1662 (by decide +kernel) rfl
theorem ml_X12_259 : Cond.methodLink RX12 259 yX12_airOf ∈ TT := TT_t 1666 (by decide +kernel) rfl
theorem ml_L_54 : Cond.methodLink RL 54 yX12_fade ∈ TT := TT_t 1670 (by decide +kernel) rfl
theorem ml_L_57 : Cond.methodLink RL 57 yX12_witness ∈ TT := TT_t 1674 (by decide +kernel) rfl
theorem ml_X12_263 : Cond.methodLink RX12 263 yX12_isWitness ∈ TT := TT_t 1678 (by decide +kernel) rfl
theorem ml_X12_266 : Cond.methodLink RX12 266 yX12_worn ∈ TT := TT_t 1682 (by decide +kernel) rfl
theorem ml_X12_269 : Cond.methodLink RX12 269 yX12_sumAt ∈ TT := TT_t 1686 (by decide +kernel) rfl
theorem ml_X12_272 : Cond.methodLink RX12 272 yX12_strongestAt ∈ TT := TT_t 1690 (by decide +kernel) rfl
theorem ml_L_61 : Cond.methodLink RL 61 yX12_coat ∈ TT := TT_t 1694 (by decide +kernel) rfl
theorem ml_X12_275 : Cond.methodLink RX12 275 yX12_onCoat ∈ TT := TT_t 1698 (by decide +kernel) rfl
theorem ml_L_65 : Cond.methodLink RL 65 yX12_cloth ∈ TT := TT_t 1702 (by decide +kernel) rfl
theorem ml_X12_278 : Cond.methodLink RX12 278 yX12_isCloth ∈ TT := TT_t 1706 (by decide +kernel) rfl
theorem ml_X12_281 : Cond.methodLink RX12 281 yX12_onCloth ∈ TT := TT_t 1710 (by decide +kernel) rfl
theorem ml_L_69 : Cond.methodLink RL 69 yX12_box ∈ TT := TT_t 1714 (by decide +kernel) rfl
theorem ml_X12_284 : Cond.methodLink RX12 284 yX12_ofCloth ∈ TT := TT_t 1718 (by decide +kernel) rfl
theorem ml_L_170 : Cond.methodLink RL 170 yX12_wearer ∈ TT := TT_t 1722 (by decide +kernel) rfl
theorem ml_X12_287 : Cond.methodLink RX12 287 yX12_wearerOf ∈ TT := TT_t 1726 (by decide +kernel) rfl
theorem ml_L_98 : Cond.methodLink RL 98 yX12_undo ∈ TT := TT_t 1730 (by decide +kernel) rfl
theorem ml_L_74 : Cond.methodLink RL 74 yX12_goes ∈ TT := TT_t 1734 (by decide +kernel) rfl
theorem ml_X12_307 : Cond.methodLink RX12 307 yX12_snap ∈ TT := TT_t 1738 (by decide +kernel) rfl
theorem ml_L_78 : Cond.methodLink RL 78 yX12_change ∈ TT := TT_t 1742 (by decide +kernel) rfl
theorem ml_X12_310 : Cond.methodLink RX12 310 yX12_changeBoth ∈ TT := TT_t 1746 (by decide +kernel) rfl
theorem ml_L_82 : Cond.methodLink RL 82 yX12_soap ∈ TT := TT_t 1750 (by decide +kernel) rfl
theorem ml_L_86 : Cond.methodLink RL 86 yX12_send ∈ TT := TT_t 1754 (by decide +kernel) rfl
theorem ml_L_90 : Cond.methodLink RL 90 yX12_move ∈ TT := TT_t 1758 (by decide +kernel) rfl
theorem ml_L_94 : Cond.methodLink RL 94 yX12_on ∈ TT := TT_t 1762 (by decide +kernel) rfl
theorem ml_X12_313 : Cond.methodLink RX12 313 yX12_pass ∈ TT := TT_t 1766 (by decide +kernel) rfl
theorem ml_X12_293 : Cond.methodLink RX12 293 yX12_isRain ∈ TT := TT_t 1770 (by decide +kernel) rfl
theorem ml_X12_296 : Cond.methodLink RX12 296 yX12_fadeAt ∈ TT := TT_t 1774 (by decide +kernel) rfl
theorem ml_X12_290 : Cond.methodLink RX12 290 yX12_less ∈ TT := TT_t 1778 (by decide +kernel) rfl
theorem ml_X12_300 : Cond.methodLink RX12 300 yX12_least ∈ TT := TT_t 1781 (by decide +kernel) rfl
theorem ml_X12_303 : Cond.methodLink RX12 303 yX12_mixBox ∈ TT := TT_t 1784 (by decide +kernel) rfl
theorem ml_L_102 : Cond.methodLink RL 102 yX12_order ∈ TT := TT_t 1788 (by decide +kernel) rfl
theorem ml_X12_333 : Cond.methodLink RX12 333 yX12_openAll ∈ TT := TT_t 1792 (by decide +kernel) rfl
theorem ml_X12_330 : Cond.methodLink RX12 330 yX12_startOpening ∈ TT := TT_t 1796 (by decide +kernel) rfl
theorem ml_X12_327 : Cond.methodLink RX12 327 yX12_openOn ∈ TT := TT_t 1800 (by decide +kernel) rfl
theorem ml_X12_321 : Cond.methodLink RX12 321 yX12_isDrowned ∈ TT := TT_t 1804 (by decide +kernel) rfl
theorem ml_X12_324 : Cond.methodLink RX12 324 yX12_open ∈ TT := TT_t 1808 (by decide +kernel) rfl
theorem ml_L_106 : Cond.methodLink RL 106 yX12_opened ∈ TT := TT_t 1812 (by decide +kernel) rfl
theorem ml_L_110 : Cond.methodLink RL 110 yX12_noses ∈ TT := TT_t 1816 (by decide +kernel) rfl
theorem ml_L_114 : Cond.methodLink RL 114 yX12_drowned ∈ TT := TT_t 1820 (by decide +kernel) rfl
theorem ml_L_118 : Cond.methodLink RL 118 yX12_remains ∈ TT := TT_t 1824 (by decide +kernel) rfl
theorem ml_L_122 : Cond.methodLink RL 122 yX12_was ∈ TT := TT_t 1828 (by decide +kernel) rfl
theorem ml_X12_345 : Cond.methodLink RX12 345 yX12_wearThrough ∈ TT := TT_t 1832 (by decide +kernel) rfl
theorem ml_L_126 : Cond.methodLink RL 126 yX12_rows ∈ TT := TT_t 1836 (by decide +kernel) rfl
theorem ml_L_130 : Cond.methodLink RL 130 yX12_first ∈ TT := TT_t 1840 (by decide +kernel) rfl
theorem ml_L_134 : Cond.methodLink RL 134 yX12_changed ∈ TT := TT_t 1844 (by decide +kernel) rfl
theorem ml_X12_354 : Cond.methodLink RX12 354 yX12_layAside ∈ TT := TT_t 1848 (by decide +kernel) rfl
theorem ml_X12_357 : Cond.methodLink RX12 357 yX12_areSo ∈ TT := TT_t 1852 (by decide +kernel) rfl
theorem ml_X12_360 : Cond.methodLink RX12 360 yX12_layBack ∈ TT := TT_t 1856 (by decide +kernel) rfl
theorem ml_L_138 : Cond.methodLink RL 138 yX12_changeAt ∈ TT := TT_t 1860 (by decide +kernel) rfl
theorem ml_L_146 : Cond.methodLink RL 146 yX12_unlike ∈ TT := TT_t 1864 (by decide +kernel) rfl
theorem ml_X12_365 : Cond.methodLink RX12 365 yX12_clothAt ∈ TT := TT_t 1868 (by decide +kernel) rfl
theorem ml_X12_368 : Cond.methodLink RX12 368 yX12_apart ∈ TT := TT_t 1872 (by decide +kernel) rfl
theorem ml_X12_363 : Cond.methodLink RX12 363 yX12_size ∈ TT := TT_t 1876 (by decide +kernel) rfl
theorem ml_L_142 : Cond.methodLink RL 142 yX12_dog ∈ TT := TT_t 1879 (by decide +kernel) rfl
theorem ml_L_150 : Cond.methodLink RL 150 yX12_alike ∈ TT := TT_t 1883 (by decide +kernel) rfl
theorem ml_L_154 : Cond.methodLink RL 154 yX12_kitchen ∈ TT := TT_t 1887 (by decide +kernel) rfl
theorem ml_L_158 : Cond.methodLink RL 158 yX12_thread ∈ TT := TT_t 1891 (by decide +kernel) rfl
theorem ml_L_162 : Cond.methodLink RL 162 yX12_source ∈ TT := TT_t 1895 (by decide +kernel) rfl
theorem ml_L_166 : Cond.methodLink RL 166 yX12_strangers ∈ TT := TT_t 1899 (by decide +kernel) rfl
theorem ml_L_174 : Cond.methodLink RL 174 yX12_clean ∈ TT := TT_t 1903 (by decide +kernel) rfl
theorem ml_L_178 : Cond.methodLink RL 178 yX12_pleas ∈ TT := TT_t 1907 (by decide +kernel) rfl
theorem ml_X12_377 : Cond.methodLink RX12 377 yX12_readPlea ∈ TT := TT_t 1911 (by decide +kernel) rfl
theorem ml_L_182 : Cond.methodLink RL 182 yX12_drawn ∈ TT := TT_t 1915 (by decide +kernel) rfl
theorem ml_X12_396 : Cond.methodLink RX12 396 yX12_canDraw ∈ TT := TT_t 1919 (by decide +kernel) rfl
theorem ml_X12_399 : Cond.methodLink RX12 399 yX12_drawHours ∈ TT := TT_t 1923 (by decide +kernel) rfl
theorem ml_X12_393 : Cond.methodLink RX12 393 yX12_draw ∈ TT := TT_t 1927 (by decide +kernel) rfl
theorem cl_X12_383 : Cond.constant RX12 383 (1103515245) ∈ TT := TT_t 1931 (by decide +kernel) rfl
theorem ml_L_186 : Cond.methodLink RL 186 yX12_weather ∈ TT := TT_t 1932 (by decide +kernel) rfl
theorem ml_L_191 : Cond.methodLink RL 191 yX12_odds ∈ TT := TT_t 1936 (by decide +kernel) rfl
theorem ml_L_195 : Cond.methodLink RL 195 yX12_write ∈ TT := TT_t 1940 (by decide +kernel) rfl
theorem ml_X12_405 : Cond.methodLink RX12 405 yX12_put ∈ TT := TT_t 1944 (by decide +kernel) rfl
theorem ml_L_199 : Cond.methodLink RL 199 yX12_byteAt ∈ TT := TT_t 1948 (by decide +kernel) rfl
theorem ml_L_203 : Cond.methodLink RL 203 yX12_sentence ∈ TT := TT_t 1952 (by decide +kernel) rfl
theorem ml_X12_442 : Cond.methodLink RX12 442 yX12_readOr ∈ TT := TT_t 1956 (by decide +kernel) rfl
theorem ml_X12_411 : Cond.methodLink RX12 411 yX12_readAnd ∈ TT := TT_t 1960 (by decide +kernel) rfl
theorem ml_X12_421 : Cond.methodLink RX12 421 yX12_readTerm ∈ TT := TT_t 1964 (by decide +kernel) rfl
theorem ml_X12_430 : Cond.methodLink RX12 430 yX12_readBracket ∈ TT := TT_t 1968 (by decide +kernel) rfl
theorem ml_X12_433 : Cond.methodLink RX12 433 yX12_readNot ∈ TT := TT_t 1972 (by decide +kernel) rfl
theorem ml_X12_417 : Cond.methodLink RX12 417 yX12_saysOne ∈ TT := TT_t 1976 (by decide +kernel) rfl
theorem ml_X12_436 : Cond.methodLink RX12 436 yX12_readNamed ∈ TT := TT_t 1980 (by decide +kernel) rfl
theorem ml_X12_439 : Cond.methodLink RX12 439 yX12_readCompare ∈ TT := TT_t 1984 (by decide +kernel) rfl
theorem ml_L_207 : Cond.methodLink RL 207 yX12_said ∈ TT := TT_t 1988 (by decide +kernel) rfl
theorem ml_X12_445 : Cond.methodLink RX12 445 yX12_holds ∈ TT := TT_t 1992 (by decide +kernel) rfl
theorem ml_X12_448 : Cond.methodLink RX12 448 yX12_valueOf ∈ TT := TT_t 1996 (by decide +kernel) rfl
theorem ml_L_211 : Cond.methodLink RL 211 yX12_image ∈ TT := TT_t 2000 (by decide +kernel) rfl
theorem ml_L_215 : Cond.methodLink RL 215 yX12_restore ∈ TT := TT_t 2004 (by decide +kernel) rfl
theorem ml_L_219 : Cond.methodLink RL 219 yX12_count ∈ TT := TT_t 2008 (by decide +kernel) rfl
theorem ms1_max : Cond.static Lib.Math.max.name ∈ TT := TT_t 832 (by decide +kernel) rfl
theorem ms3_max : Cond.code Lib.Math.max.name Lib.Math.max.code 2 (some .int) ∈ TT := TT_t 833 (by decide +kernel) rfl
theorem ms1_min : Cond.static Lib.Math.min.name ∈ TT := TT_t 543 (by decide +kernel) rfl
theorem ms3_min : Cond.code Lib.Math.min.name Lib.Math.min.code 2 (some .int) ∈ TT := TT_t 544 (by decide +kernel) rfl
theorem ms1_abs : Cond.static Lib.Math.abs.name ∈ TT := TT_t 997 (by decide +kernel) rfl
theorem ms3_abs : Cond.code Lib.Math.abs.name Lib.Math.abs.code 1 (some .int) ∈ TT := TT_t 998 (by decide +kernel) rfl
theorem ms2 : Cond.initialized "java/lang/Math" ∈ TT := TT_t 18 (by decide +kernel) rfl
theorem mf_X11_at : MFs mX11_at 2 := ⟨TT_t 577 (by decide +kernel) rfl, TT_t 1 (by decide +kernel) rfl, TT_t 578 (by decide +kernel) rfl, ⟨by decide +kernel, by decide +kernel⟩, by decide +kernel, by decide⟩
theorem mf_J7_fill_53178 : MFs mJ7_fill_53178 2 := ⟨TT_t 562 (by decide +kernel) rfl, TT_t 19 (by decide +kernel) rfl, TT_t 563 (by decide +kernel) rfl, ⟨by decide +kernel, by decide +kernel⟩, by decide +kernel, by decide⟩
theorem mf_X11_put : MFs mX11_put 3 := ⟨TT_t 540 (by decide +kernel) rfl, TT_t 1 (by decide +kernel) rfl, TT_t 541 (by decide +kernel) rfl, ⟨by decide +kernel, by decide +kernel⟩, by decide +kernel, by decide⟩
theorem mf_X0_readTold : MFv mX0_readTold 2 := ⟨TT_t 973 (by decide +kernel) rfl, TT_s 28 (by decide +kernel) rfl, TT_t 15 (by decide +kernel) rfl, TT_t 974 (by decide +kernel) rfl, ⟨by decide +kernel, by decide +kernel⟩, by decide +kernel, by decide⟩
theorem mf_X11_copy : MFs mX11_copy 2 := ⟨TT_t 698 (by decide +kernel) rfl, TT_t 1 (by decide +kernel) rfl, TT_t 699 (by decide +kernel) rfl, ⟨by decide +kernel, by decide +kernel⟩, by decide +kernel, by decide⟩
theorem mf_X2_wentTo : MFv mX2_wentTo 2 := ⟨TT_t 820 (by decide +kernel) rfl, TT_t 821 (by decide +kernel) rfl, TT_t 7 (by decide +kernel) rfl, TT_t 822 (by decide +kernel) rfl, ⟨by decide +kernel, by decide +kernel⟩, by decide +kernel, by decide⟩
theorem mf_X0_take : MFv mX0_take 3 := ⟨TT_t 985 (by decide +kernel) rfl, TT_s 30 (by decide +kernel) rfl, TT_t 15 (by decide +kernel) rfl, TT_t 986 (by decide +kernel) rfl, ⟨by decide +kernel, by decide +kernel⟩, by decide +kernel, by decide⟩
theorem mf_X2_isRainTold : MFv mX2_isRainTold 1 := ⟨TT_t 816 (by decide +kernel) rfl, TT_t 817 (by decide +kernel) rfl, TT_t 7 (by decide +kernel) rfl, TT_t 818 (by decide +kernel) rfl, ⟨by decide +kernel, by decide +kernel⟩, by decide +kernel, by decide⟩
theorem mf_X2_fades : MFv mX2_fades 2 := ⟨TT_t 828 (by decide +kernel) rfl, TT_t 829 (by decide +kernel) rfl, TT_t 7 (by decide +kernel) rfl, TT_t 830 (by decide +kernel) rfl, ⟨by decide +kernel, by decide +kernel⟩, by decide +kernel, by decide⟩
theorem mf_X2_passHour : MFv mX2_passHour 6 := ⟨TT_t 824 (by decide +kernel) rfl, TT_t 825 (by decide +kernel) rfl, TT_t 7 (by decide +kernel) rfl, TT_t 826 (by decide +kernel) rfl, ⟨by decide +kernel, by decide +kernel⟩, by decide +kernel, by decide⟩
theorem mf_X0_passAllHours : MFv mX0_passAllHours 1 := ⟨TT_t 979 (by decide +kernel) rfl, TT_s 29 (by decide +kernel) rfl, TT_t 15 (by decide +kernel) rfl, TT_t 980 (by decide +kernel) rfl, ⟨by decide +kernel, by decide +kernel⟩, by decide +kernel, by decide⟩
theorem mf_X11_difference : MFs mX11_difference 4 := ⟨TT_t 994 (by decide +kernel) rfl, TT_t 1 (by decide +kernel) rfl, TT_t 995 (by decide +kernel) rfl, ⟨by decide +kernel, by decide +kernel⟩, by decide +kernel, by decide⟩
theorem mf_X0_areOthersAsTold : MFv mX0_areOthersAsTold 2 := ⟨TT_t 991 (by decide +kernel) rfl, TT_s 31 (by decide +kernel) rfl, TT_t 15 (by decide +kernel) rfl, TT_t 992 (by decide +kernel) rfl, ⟨by decide +kernel, by decide +kernel⟩, by decide +kernel, by decide⟩
theorem mf_X0_isAsTold : MFv mX0_isAsTold 4 := ⟨TT_t 1005 (by decide +kernel) rfl, TT_s 33 (by decide +kernel) rfl, TT_t 15 (by decide +kernel) rfl, TT_t 1006 (by decide +kernel) rfl, ⟨by decide +kernel, by decide +kernel⟩, by decide +kernel, by decide⟩
theorem mf_X0_searchHours : MFv mX0_searchHours 3 := ⟨TT_t 1001 (by decide +kernel) rfl, TT_s 32 (by decide +kernel) rfl, TT_t 15 (by decide +kernel) rfl, TT_t 1002 (by decide +kernel) rfl, ⟨by decide +kernel, by decide +kernel⟩, by decide +kernel, by decide⟩
theorem mf_X0_search : MFv mX0_search 3 := ⟨TT_t 967 (by decide +kernel) rfl, TT_t 968 (by decide +kernel) rfl, TT_t 15 (by decide +kernel) rfl, TT_t 969 (by decide +kernel) rfl, ⟨by decide +kernel, by decide +kernel⟩, by decide +kernel, by decide⟩
theorem mf_X1_draw : MFv mX1_draw 1 := ⟨TT_t 1103 (by decide +kernel) rfl, TT_s 37 (by decide +kernel) rfl, TT_t 16 (by decide +kernel) rfl, TT_t 1104 (by decide +kernel) rfl, ⟨by decide +kernel, by decide +kernel⟩, by decide +kernel, by decide⟩
theorem mf_X1_drawWalks : MFv mX1_drawWalks 2 := ⟨TT_t 1098 (by decide +kernel) rfl, TT_s 36 (by decide +kernel) rfl, TT_t 16 (by decide +kernel) rfl, TT_t 1099 (by decide +kernel) rfl, ⟨by decide +kernel, by decide +kernel⟩, by decide +kernel, by decide⟩
theorem mf_X10_swap : MFv mX10_swap 2 := ⟨TT_t 773 (by decide +kernel) rfl, TT_t 774 (by decide +kernel) rfl, TT_t 9 (by decide +kernel) rfl, TT_t 775 (by decide +kernel) rfl, ⟨by decide +kernel, by decide +kernel⟩, by decide +kernel, by decide⟩
theorem mf_X1_drawChange : MFv mX1_drawChange 2 := ⟨TT_t 1109 (by decide +kernel) rfl, TT_s 38 (by decide +kernel) rfl, TT_t 16 (by decide +kernel) rfl, TT_t 1110 (by decide +kernel) rfl, ⟨by decide +kernel, by decide +kernel⟩, by decide +kernel, by decide⟩
theorem mf_X1_drawRain : MFv mX1_drawRain 0 := ⟨TT_t 1114 (by decide +kernel) rfl, TT_s 39 (by decide +kernel) rfl, TT_t 16 (by decide +kernel) rfl, TT_t 1115 (by decide +kernel) rfl, ⟨by decide +kernel, by decide +kernel⟩, by decide +kernel, by decide⟩
theorem mf_X10_fadeCloth : MFv mX10_fadeCloth 2 := ⟨TT_t 837 (by decide +kernel) rfl, TT_s 17 (by decide +kernel) rfl, TT_t 9 (by decide +kernel) rfl, TT_t 838 (by decide +kernel) rfl, ⟨by decide +kernel, by decide +kernel⟩, by decide +kernel, by decide⟩
theorem mf_X10_mingle : MFv mX10_mingle 2 := ⟨TT_t 842 (by decide +kernel) rfl, TT_s 18 (by decide +kernel) rfl, TT_t 9 (by decide +kernel) rfl, TT_t 843 (by decide +kernel) rfl, ⟨by decide +kernel, by decide +kernel⟩, by decide +kernel, by decide⟩
theorem mf_X10_passHour : MFv mX10_passHour 2 := ⟨TT_t 812 (by decide +kernel) rfl, TT_t 813 (by decide +kernel) rfl, TT_t 9 (by decide +kernel) rfl, TT_t 814 (by decide +kernel) rfl, ⟨by decide +kernel, by decide +kernel⟩, by decide +kernel, by decide⟩
theorem mf_X1_passHours : MFv mX1_passHours 4 := ⟨TT_t 1093 (by decide +kernel) rfl, TT_t 1094 (by decide +kernel) rfl, TT_t 16 (by decide +kernel) rfl, TT_t 1095 (by decide +kernel) rfl, ⟨by decide +kernel, by decide +kernel⟩, by decide +kernel, by decide⟩
theorem mf_X10_copyFrom : MFv mX10_copyFrom 1 := ⟨TT_t 764 (by decide +kernel) rfl, TT_t 765 (by decide +kernel) rfl, TT_t 9 (by decide +kernel) rfl, TT_t 766 (by decide +kernel) rfl, ⟨by decide +kernel, by decide +kernel⟩, by decide +kernel, by decide⟩
theorem mf_X1_endsInOwnCoat : MFv mX1_endsInOwnCoat 4 := ⟨TT_t 1126 (by decide +kernel) rfl, TT_t 1127 (by decide +kernel) rfl, TT_t 16 (by decide +kernel) rfl, TT_t 1128 (by decide +kernel) rfl, ⟨by decide +kernel, by decide +kernel⟩, by decide +kernel, by decide⟩
theorem mf_J7_fill_d0a16 : MFs mJ7_fill_d0a16 2 := ⟨TT_t 565 (by decide +kernel) rfl, TT_t 19 (by decide +kernel) rfl, TT_t 566 (by decide +kernel) rfl, ⟨by decide +kernel, by decide +kernel⟩, by decide +kernel, by decide⟩
theorem mf_X2_clear : MFv mX2_clear 0 := ⟨TT_t 558 (by decide +kernel) rfl, TT_t 559 (by decide +kernel) rfl, TT_t 7 (by decide +kernel) rfl, TT_t 560 (by decide +kernel) rfl, ⟨by decide +kernel, by decide +kernel⟩, by decide +kernel, by decide⟩
theorem mf_X2_copyFrom : MFv mX2_copyFrom 1 := ⟨TT_t 694 (by decide +kernel) rfl, TT_t 695 (by decide +kernel) rfl, TT_t 7 (by decide +kernel) rfl, TT_t 696 (by decide +kernel) rfl, ⟨by decide +kernel, by decide +kernel⟩, by decide +kernel, by decide⟩
theorem mf_X2_has : MFv mX2_has 2 := ⟨TT_t 729 (by decide +kernel) rfl, TT_t 730 (by decide +kernel) rfl, TT_t 7 (by decide +kernel) rfl, TT_t 731 (by decide +kernel) rfl, ⟨by decide +kernel, by decide +kernel⟩, by decide +kernel, by decide⟩
theorem mf_X2_nameOf : MFv mX2_nameOf 2 := ⟨TT_t 1135 (by decide +kernel) rfl, TT_t 1136 (by decide +kernel) rfl, TT_t 7 (by decide +kernel) rfl, TT_t 1137 (by decide +kernel) rfl, ⟨by decide +kernel, by decide +kernel⟩, by decide +kernel, by decide⟩
theorem mf_X2_numberOf : MFv mX2_numberOf 2 := ⟨TT_t 637 (by decide +kernel) rfl, TT_t 638 (by decide +kernel) rfl, TT_t 7 (by decide +kernel) rfl, TT_t 639 (by decide +kernel) rfl, ⟨by decide +kernel, by decide +kernel⟩, by decide +kernel, by decide⟩
theorem mf_X2_isTold : MFv mX2_isTold 1 := ⟨TT_t 633 (by decide +kernel) rfl, TT_t 634 (by decide +kernel) rfl, TT_t 7 (by decide +kernel) rfl, TT_t 635 (by decide +kernel) rfl, ⟨by decide +kernel, by decide +kernel⟩, by decide +kernel, by decide⟩
theorem mf_X2_tell : MFv mX2_tell 2 := ⟨TT_t 641 (by decide +kernel) rfl, TT_t 642 (by decide +kernel) rfl, TT_t 7 (by decide +kernel) rfl, TT_t 643 (by decide +kernel) rfl, ⟨by decide +kernel, by decide +kernel⟩, by decide +kernel, by decide⟩
theorem mf_X2_gain : MFv mX2_gain 3 := ⟨TT_t 1032 (by decide +kernel) rfl, TT_t 1033 (by decide +kernel) rfl, TT_t 7 (by decide +kernel) rfl, TT_t 1034 (by decide +kernel) rfl, ⟨by decide +kernel, by decide +kernel⟩, by decide +kernel, by decide⟩
theorem mf_X8_isBlank : MFs mX8_isBlank 1 := ⟨TT_t 580 (by decide +kernel) rfl, TT_t 2 (by decide +kernel) rfl, TT_t 581 (by decide +kernel) rfl, ⟨by decide +kernel, by decide +kernel⟩, by decide +kernel, by decide⟩
theorem mf_X8_addToken : MFv mX8_addToken 3 := ⟨TT_t 584 (by decide +kernel) rfl, TT_s 1 (by decide +kernel) rfl, TT_t 2 (by decide +kernel) rfl, TT_t 585 (by decide +kernel) rfl, ⟨by decide +kernel, by decide +kernel⟩, by decide +kernel, by decide⟩
theorem mf_X8_isLetter : MFs mX8_isLetter 1 := ⟨TT_t 587 (by decide +kernel) rfl, TT_t 2 (by decide +kernel) rfl, TT_t 588 (by decide +kernel) rfl, ⟨by decide +kernel, by decide +kernel⟩, by decide +kernel, by decide⟩
theorem mf_X8_isDigit : MFs mX8_isDigit 1 := ⟨TT_t 590 (by decide +kernel) rfl, TT_t 2 (by decide +kernel) rfl, TT_t 591 (by decide +kernel) rfl, ⟨by decide +kernel, by decide +kernel⟩, by decide +kernel, by decide⟩
theorem mf_X8_kindOfWord : MFv mX8_kindOfWord 1 := ⟨TT_t 600 (by decide +kernel) rfl, TT_s 3 (by decide +kernel) rfl, TT_t 2 (by decide +kernel) rfl, TT_t 601 (by decide +kernel) rfl, ⟨by decide +kernel, by decide +kernel⟩, by decide +kernel, by decide⟩
theorem mf_X8_readRun : MFv mX8_readRun 1 := ⟨TT_t 594 (by decide +kernel) rfl, TT_s 2 (by decide +kernel) rfl, TT_t 2 (by decide +kernel) rfl, TT_t 595 (by decide +kernel) rfl, ⟨by decide +kernel, by decide +kernel⟩, by decide +kernel, by decide⟩
theorem mf_X8_isSign : MFs mX8_isSign 1 := ⟨TT_t 603 (by decide +kernel) rfl, TT_t 2 (by decide +kernel) rfl, TT_t 604 (by decide +kernel) rfl, ⟨by decide +kernel, by decide +kernel⟩, by decide +kernel, by decide⟩
theorem mf_X8_readToken : MFv mX8_readToken 2 := ⟨TT_t 574 (by decide +kernel) rfl, TT_s 0 (by decide +kernel) rfl, TT_t 2 (by decide +kernel) rfl, TT_t 575 (by decide +kernel) rfl, ⟨by decide +kernel, by decide +kernel⟩, by decide +kernel, by decide⟩
theorem mf_X8_begin : MFv mX8_begin 1 := ⟨TT_t 569 (by decide +kernel) rfl, TT_t 570 (by decide +kernel) rfl, TT_t 2 (by decide +kernel) rfl, TT_t 571 (by decide +kernel) rfl, ⟨by decide +kernel, by decide +kernel⟩, by decide +kernel, by decide⟩
theorem mf_X8_fail : MFv mX8_fail 1 := ⟨TT_t 610 (by decide +kernel) rfl, TT_t 611 (by decide +kernel) rfl, TT_t 2 (by decide +kernel) rfl, TT_t 612 (by decide +kernel) rfl, ⟨by decide +kernel, by decide +kernel⟩, by decide +kernel, by decide⟩
theorem mf_X8_step : MFv mX8_step 0 := ⟨TT_t 616 (by decide +kernel) rfl, TT_t 617 (by decide +kernel) rfl, TT_t 2 (by decide +kernel) rfl, TT_t 618 (by decide +kernel) rfl, ⟨by decide +kernel, by decide +kernel⟩, by decide +kernel, by decide⟩
theorem mf_X8_content : MFv mX8_content 0 := ⟨TT_t 630 (by decide +kernel) rfl, TT_s 6 (by decide +kernel) rfl, TT_t 2 (by decide +kernel) rfl, TT_t 631 (by decide +kernel) rfl, ⟨by decide +kernel, by decide +kernel⟩, by decide +kernel, by decide⟩
theorem mf_X8_takeNew : MFv mX8_takeNew 2 := ⟨TT_t 624 (by decide +kernel) rfl, TT_t 625 (by decide +kernel) rfl, TT_t 2 (by decide +kernel) rfl, TT_t 626 (by decide +kernel) rfl, ⟨by decide +kernel, by decide +kernel⟩, by decide +kernel, by decide⟩
theorem mf_X8_takeNumber : MFv mX8_takeNumber 2 := ⟨TT_t 648 (by decide +kernel) rfl, TT_t 649 (by decide +kernel) rfl, TT_t 2 (by decide +kernel) rfl, TT_t 650 (by decide +kernel) rfl, ⟨by decide +kernel, by decide +kernel⟩, by decide +kernel, by decide⟩
theorem mf_X3_readScent : MFv mX3_readScent 0 := ⟨TT_t 621 (by decide +kernel) rfl, TT_s 5 (by decide +kernel) rfl, TT_t 8 (by decide +kernel) rfl, TT_t 622 (by decide +kernel) rfl, ⟨by decide +kernel, by decide +kernel⟩, by decide +kernel, by decide⟩
theorem mf_X8_takeTold : MFv mX8_takeTold 2 := ⟨TT_t 661 (by decide +kernel) rfl, TT_t 662 (by decide +kernel) rfl, TT_t 2 (by decide +kernel) rfl, TT_t 663 (by decide +kernel) rfl, ⟨by decide +kernel, by decide +kernel⟩, by decide +kernel, by decide⟩
theorem mf_X8_failAtTaken : MFv mX8_failAtTaken 1 := ⟨TT_t 666 (by decide +kernel) rfl, TT_t 667 (by decide +kernel) rfl, TT_t 2 (by decide +kernel) rfl, TT_t 668 (by decide +kernel) rfl, ⟨by decide +kernel, by decide +kernel⟩, by decide +kernel, by decide⟩
theorem mf_X3_readSmell : MFv mX3_readSmell 1 := ⟨TT_t 658 (by decide +kernel) rfl, TT_s 8 (by decide +kernel) rfl, TT_t 8 (by decide +kernel) rfl, TT_t 659 (by decide +kernel) rfl, ⟨by decide +kernel, by decide +kernel⟩, by decide +kernel, by decide⟩
theorem mf_X3_readPlace : MFv mX3_readPlace 0 := ⟨TT_t 654 (by decide +kernel) rfl, TT_s 7 (by decide +kernel) rfl, TT_t 8 (by decide +kernel) rfl, TT_t 655 (by decide +kernel) rfl, ⟨by decide +kernel, by decide +kernel⟩, by decide +kernel, by decide⟩
theorem mf_X3_readWitness : MFv mX3_readWitness 0 := ⟨TT_t 671 (by decide +kernel) rfl, TT_s 9 (by decide +kernel) rfl, TT_t 8 (by decide +kernel) rfl, TT_t 672 (by decide +kernel) rfl, ⟨by decide +kernel, by decide +kernel⟩, by decide +kernel, by decide⟩
theorem mf_X3_addLine : MFv mX3_addLine 1 := ⟨TT_t 679 (by decide +kernel) rfl, TT_s 11 (by decide +kernel) rfl, TT_t 8 (by decide +kernel) rfl, TT_t 680 (by decide +kernel) rfl, ⟨by decide +kernel, by decide +kernel⟩, by decide +kernel, by decide⟩
theorem mf_X3_readSmoke : MFv mX3_readSmoke 0 := ⟨TT_t 675 (by decide +kernel) rfl, TT_s 10 (by decide +kernel) rfl, TT_t 8 (by decide +kernel) rfl, TT_t 676 (by decide +kernel) rfl, ⟨by decide +kernel, by decide +kernel⟩, by decide +kernel, by decide⟩
theorem mf_X3_readWent : MFv mX3_readWent 0 := ⟨TT_t 683 (by decide +kernel) rfl, TT_s 12 (by decide +kernel) rfl, TT_t 8 (by decide +kernel) rfl, TT_t 684 (by decide +kernel) rfl, ⟨by decide +kernel, by decide +kernel⟩, by decide +kernel, by decide⟩
theorem mf_X3_readRain : MFv mX3_readRain 0 := ⟨TT_t 687 (by decide +kernel) rfl, TT_s 13 (by decide +kernel) rfl, TT_t 8 (by decide +kernel) rfl, TT_t 688 (by decide +kernel) rfl, ⟨by decide +kernel, by decide +kernel⟩, by decide +kernel, by decide⟩
theorem mf_X3_readLine : MFv mX3_readLine 0 := ⟨TT_t 607 (by decide +kernel) rfl, TT_s 4 (by decide +kernel) rfl, TT_t 8 (by decide +kernel) rfl, TT_t 608 (by decide +kernel) rfl, ⟨by decide +kernel, by decide +kernel⟩, by decide +kernel, by decide⟩
theorem mf_X8_take : MFv mX8_take 1 := ⟨TT_t 690 (by decide +kernel) rfl, TT_t 691 (by decide +kernel) rfl, TT_t 2 (by decide +kernel) rfl, TT_t 692 (by decide +kernel) rfl, ⟨by decide +kernel, by decide +kernel⟩, by decide +kernel, by decide⟩
theorem mf_X3_read : MFv mX3_read 0 := ⟨TT_t 554 (by decide +kernel) rfl, TT_t 555 (by decide +kernel) rfl, TT_t 8 (by decide +kernel) rfl, TT_t 556 (by decide +kernel) rfl, ⟨by decide +kernel, by decide +kernel⟩, by decide +kernel, by decide⟩
theorem mf_X11_strongest : MFs mX11_strongest 2 := ⟨TT_t 750 (by decide +kernel) rfl, TT_t 1 (by decide +kernel) rfl, TT_t 751 (by decide +kernel) rfl, ⟨by decide +kernel, by decide +kernel⟩, by decide +kernel, by decide⟩
theorem mf_X4_isAnyClean : MFs mX4_isAnyClean 1 := ⟨TT_t 857 (by decide +kernel) rfl, TT_t 13 (by decide +kernel) rfl, TT_t 858 (by decide +kernel) rfl, ⟨by decide +kernel, by decide +kernel⟩, by decide +kernel, by decide⟩
theorem mf_X4_isDrowned : MFs mX4_isDrowned 5 := ⟨TT_t 876 (by decide +kernel) rfl, TT_t 13 (by decide +kernel) rfl, TT_t 877 (by decide +kernel) rfl, ⟨by decide +kernel, by decide +kernel⟩, by decide +kernel, by decide⟩
theorem mf_X4_open : MFs mX4_open 5 := ⟨TT_t 879 (by decide +kernel) rfl, TT_t 13 (by decide +kernel) rfl, TT_t 880 (by decide +kernel) rfl, ⟨by decide +kernel, by decide +kernel⟩, by decide +kernel, by decide⟩
theorem mf_X4_tryCloth : MFv mX4_tryCloth 4 := ⟨TT_t 872 (by decide +kernel) rfl, TT_s 21 (by decide +kernel) rfl, TT_t 13 (by decide +kernel) rfl, TT_t 873 (by decide +kernel) rfl, ⟨by decide +kernel, by decide +kernel⟩, by decide +kernel, by decide⟩
theorem mf_X4_tryNext : MFv mX4_tryNext 3 := ⟨TT_t 868 (by decide +kernel) rfl, TT_s 20 (by decide +kernel) rfl, TT_t 13 (by decide +kernel) rfl, TT_t 869 (by decide +kernel) rfl, ⟨by decide +kernel, by decide +kernel⟩, by decide +kernel, by decide⟩
theorem mf_X4_canOneNose : MFv mX4_canOneNose 1 := ⟨TT_t 862 (by decide +kernel) rfl, TT_s 19 (by decide +kernel) rfl, TT_t 13 (by decide +kernel) rfl, TT_t 863 (by decide +kernel) rfl, ⟨by decide +kernel, by decide +kernel⟩, by decide +kernel, by decide⟩
theorem mf_X4_findOrder : MFv mX4_findOrder 1 := ⟨TT_t 853 (by decide +kernel) rfl, TT_t 854 (by decide +kernel) rfl, TT_t 13 (by decide +kernel) rfl, TT_t 855 (by decide +kernel) rfl, ⟨by decide +kernel, by decide +kernel⟩, by decide +kernel, by decide⟩
theorem mf_X4_foundAt : MFv mX4_foundAt 1 := ⟨TT_t 888 (by decide +kernel) rfl, TT_t 889 (by decide +kernel) rfl, TT_t 13 (by decide +kernel) rfl, TT_t 890 (by decide +kernel) rfl, ⟨by decide +kernel, by decide +kernel⟩, by decide +kernel, by decide⟩
theorem mf_X4_share : MFv mX4_share 1 := ⟨TT_t 902 (by decide +kernel) rfl, TT_s 22 (by decide +kernel) rfl, TT_t 13 (by decide +kernel) rfl, TT_t 903 (by decide +kernel) rfl, ⟨by decide +kernel, by decide +kernel⟩, by decide +kernel, by decide⟩
theorem mf_X4_fewest : MFv mX4_fewest 1 := ⟨TT_t 896 (by decide +kernel) rfl, TT_t 897 (by decide +kernel) rfl, TT_t 13 (by decide +kernel) rfl, TT_t 898 (by decide +kernel) rfl, ⟨by decide +kernel, by decide +kernel⟩, by decide +kernel, by decide⟩
theorem mf_X10_hasCloth : MFv mX10_hasCloth 1 := ⟨TT_t 742 (by decide +kernel) rfl, TT_t 743 (by decide +kernel) rfl, TT_t 9 (by decide +kernel) rfl, TT_t 744 (by decide +kernel) rfl, ⟨by decide +kernel, by decide +kernel⟩, by decide +kernel, by decide⟩
theorem mf_X4_isRowTold : MFs mX4_isRowTold 2 := ⟨TT_t 913 (by decide +kernel) rfl, TT_t 13 (by decide +kernel) rfl, TT_t 914 (by decide +kernel) rfl, ⟨by decide +kernel, by decide +kernel⟩, by decide +kernel, by decide⟩
theorem mf_X4_openRow : MFv mX4_openRow 2 := ⟨TT_t 909 (by decide +kernel) rfl, TT_t 910 (by decide +kernel) rfl, TT_t 13 (by decide +kernel) rfl, TT_t 911 (by decide +kernel) rfl, ⟨by decide +kernel, by decide +kernel⟩, by decide +kernel, by decide⟩
theorem mf_X5_sortOf : MFs mX5_sortOf 1 := ⟨TT_t 1077 (by decide +kernel) rfl, TT_t 12 (by decide +kernel) rfl, TT_t 1078 (by decide +kernel) rfl, ⟨by decide +kernel, by decide +kernel⟩, by decide +kernel, by decide⟩
theorem mf_X5_isSo : MFs mX5_isSo 4 := ⟨TT_t 1080 (by decide +kernel) rfl, TT_t 12 (by decide +kernel) rfl, TT_t 1081 (by decide +kernel) rfl, ⟨by decide +kernel, by decide +kernel⟩, by decide +kernel, by decide⟩
theorem mf_X5_readLine : MFv mX5_readLine 4 := ⟨TT_t 1070 (by decide +kernel) rfl, TT_s 34 (by decide +kernel) rfl, TT_t 12 (by decide +kernel) rfl, TT_t 1071 (by decide +kernel) rfl, ⟨by decide +kernel, by decide +kernel⟩, by decide +kernel, by decide⟩
theorem mf_X5_read : MFv mX5_read 3 := ⟨TT_t 1064 (by decide +kernel) rfl, TT_t 1065 (by decide +kernel) rfl, TT_t 12 (by decide +kernel) rfl, TT_t 1066 (by decide +kernel) rfl, ⟨by decide +kernel, by decide +kernel⟩, by decide +kernel, by decide⟩
theorem mf_X6_clear : MFv mX6_clear 0 := ⟨TT_t 713 (by decide +kernel) rfl, TT_t 714 (by decide +kernel) rfl, TT_t 10 (by decide +kernel) rfl, TT_t 715 (by decide +kernel) rfl, ⟨by decide +kernel, by decide +kernel⟩, by decide +kernel, by decide⟩
theorem mf_X6_isEmpty : MFv mX6_isEmpty 0 := ⟨TT_t 1213 (by decide +kernel) rfl, TT_t 1214 (by decide +kernel) rfl, TT_t 10 (by decide +kernel) rfl, TT_t 1215 (by decide +kernel) rfl, ⟨by decide +kernel, by decide +kernel⟩, by decide +kernel, by decide⟩
theorem mf_X6_copyFrom : MFv mX6_copyFrom 1 := ⟨TT_t 1204 (by decide +kernel) rfl, TT_t 1205 (by decide +kernel) rfl, TT_t 10 (by decide +kernel) rfl, TT_t 1206 (by decide +kernel) rfl, ⟨by decide +kernel, by decide +kernel⟩, by decide +kernel, by decide⟩
theorem mf_X6_add : MFv mX6_add 3 := ⟨TT_t 1192 (by decide +kernel) rfl, TT_t 1193 (by decide +kernel) rfl, TT_t 10 (by decide +kernel) rfl, TT_t 1194 (by decide +kernel) rfl, ⟨by decide +kernel, by decide +kernel⟩, by decide +kernel, by decide⟩
theorem mf_X11_total : MFs mX11_total 2 := ⟨TT_t 753 (by decide +kernel) rfl, TT_t 1 (by decide +kernel) rfl, TT_t 754 (by decide +kernel) rfl, ⟨by decide +kernel, by decide +kernel⟩, by decide +kernel, by decide⟩
theorem mf_X6_compares : MFs mX6_compares 3 := ⟨TT_t 1228 (by decide +kernel) rfl, TT_t 10 (by decide +kernel) rfl, TT_t 1229 (by decide +kernel) rfl, ⟨by decide +kernel, by decide +kernel⟩, by decide +kernel, by decide⟩
theorem mf_X6_most : MFs mX6_most 2 := ⟨TT_t 1231 (by decide +kernel) rfl, TT_t 10 (by decide +kernel) rfl, TT_t 1232 (by decide +kernel) rfl, ⟨by decide +kernel, by decide +kernel⟩, by decide +kernel, by decide⟩
theorem mf_X6_holds : MFv mX6_holds 4 := ⟨TT_t 1224 (by decide +kernel) rfl, TT_s 49 (by decide +kernel) rfl, TT_t 10 (by decide +kernel) rfl, TT_t 1225 (by decide +kernel) rfl, ⟨by decide +kernel, by decide +kernel⟩, by decide +kernel, by decide⟩
theorem mf_X6_isSaidOf : MFv mX6_isSaidOf 3 := ⟨TT_t 1217 (by decide +kernel) rfl, TT_t 1218 (by decide +kernel) rfl, TT_t 10 (by decide +kernel) rfl, TT_t 1219 (by decide +kernel) rfl, ⟨by decide +kernel, by decide +kernel⟩, by decide +kernel, by decide⟩
theorem mf_X7_added : MFv mX7_added 3 := ⟨TT_t 1189 (by decide +kernel) rfl, TT_s 47 (by decide +kernel) rfl, TT_t 11 (by decide +kernel) rfl, TT_t 1190 (by decide +kernel) rfl, ⟨by decide +kernel, by decide +kernel⟩, by decide +kernel, by decide⟩
theorem mf_X7_readMeasure : MFv mX7_readMeasure 1 := ⟨TT_t 1200 (by decide +kernel) rfl, TT_s 48 (by decide +kernel) rfl, TT_t 11 (by decide +kernel) rfl, TT_t 1201 (by decide +kernel) rfl, ⟨by decide +kernel, by decide +kernel⟩, by decide +kernel, by decide⟩
theorem mf_X7_beginsOne : MFs mX7_beginsOne 1 := ⟨TT_t 1178 (by decide +kernel) rfl, TT_t 11 (by decide +kernel) rfl, TT_t 1179 (by decide +kernel) rfl, ⟨by decide +kernel, by decide +kernel⟩, by decide +kernel, by decide⟩
theorem mf_X7_readAll : MFv mX7_readAll 2 := ⟨TT_t 1171 (by decide +kernel) rfl, TT_s 44 (by decide +kernel) rfl, TT_t 11 (by decide +kernel) rfl, TT_t 1172 (by decide +kernel) rfl, ⟨by decide +kernel, by decide +kernel⟩, by decide +kernel, by decide⟩
theorem mf_X7_readCond : MFv mX7_readCond 2 := ⟨TT_t 1167 (by decide +kernel) rfl, TT_s 43 (by decide +kernel) rfl, TT_t 11 (by decide +kernel) rfl, TT_t 1168 (by decide +kernel) rfl, ⟨by decide +kernel, by decide +kernel⟩, by decide +kernel, by decide⟩
theorem mf_X7_readInside : MFv mX7_readInside 3 := ⟨TT_t 1184 (by decide +kernel) rfl, TT_s 46 (by decide +kernel) rfl, TT_t 11 (by decide +kernel) rfl, TT_t 1185 (by decide +kernel) rfl, ⟨by decide +kernel, by decide +kernel⟩, by decide +kernel, by decide⟩
theorem mf_X7_readOne : MFv mX7_readOne 2 := ⟨TT_t 1175 (by decide +kernel) rfl, TT_s 45 (by decide +kernel) rfl, TT_t 11 (by decide +kernel) rfl, TT_t 1176 (by decide +kernel) rfl, ⟨by decide +kernel, by decide +kernel⟩, by decide +kernel, by decide⟩
theorem mf_X7_read : MFv mX7_read 1 := ⟨TT_t 1160 (by decide +kernel) rfl, TT_t 1161 (by decide +kernel) rfl, TT_t 11 (by decide +kernel) rfl, TT_t 1162 (by decide +kernel) rfl, ⟨by decide +kernel, by decide +kernel⟩, by decide +kernel, by decide⟩
theorem mf_J3_checkIndex_8e157 : MFs mJ3_checkIndex_8e157 3 := ⟨TT_t 70 (by decide +kernel) rfl, TT_t 5 (by decide +kernel) rfl, TT_t 71 (by decide +kernel) rfl, ⟨by decide +kernel, by decide +kernel⟩, by decide +kernel, by decide⟩
theorem mf_X8_keyWord : MFs mX8_keyWord 1 := ⟨TT_t 51 (by decide +kernel) rfl, TT_t 2 (by decide +kernel) rfl, TT_t 52 (by decide +kernel) rfl, ⟨by decide +kernel, by decide +kernel⟩, by decide +kernel, by decide⟩
theorem mf_X8_addFour : MFv mX8_addFour 1 := ⟨TT_t 536 (by decide +kernel) rfl, TT_t 537 (by decide +kernel) rfl, TT_t 2 (by decide +kernel) rfl, TT_t 538 (by decide +kernel) rfl, ⟨by decide +kernel, by decide +kernel⟩, by decide +kernel, by decide⟩
theorem mf_X9_findMostAir : MFv mX9_findMostAir 1 := ⟨TT_t 932 (by decide +kernel) rfl, TT_s 23 (by decide +kernel) rfl, TT_t 14 (by decide +kernel) rfl, TT_t 933 (by decide +kernel) rfl, ⟨by decide +kernel, by decide +kernel⟩, by decide +kernel, by decide⟩
theorem mf_X9_addRow : MFv mX9_addRow 0 := ⟨TT_t 942 (by decide +kernel) rfl, TT_s 25 (by decide +kernel) rfl, TT_t 14 (by decide +kernel) rfl, TT_t 943 (by decide +kernel) rfl, ⟨by decide +kernel, by decide +kernel⟩, by decide +kernel, by decide⟩
theorem mf_X9_canEndAsTold : MFv mX9_canEndAsTold 3 := ⟨TT_t 952 (by decide +kernel) rfl, TT_s 27 (by decide +kernel) rfl, TT_t 14 (by decide +kernel) rfl, TT_t 953 (by decide +kernel) rfl, ⟨by decide +kernel, by decide +kernel⟩, by decide +kernel, by decide⟩
theorem mf_X9_tryHour : MFv mX9_tryHour 3 := ⟨TT_t 938 (by decide +kernel) rfl, TT_s 24 (by decide +kernel) rfl, TT_t 14 (by decide +kernel) rfl, TT_t 939 (by decide +kernel) rfl, ⟨by decide +kernel, by decide +kernel⟩, by decide +kernel, by decide⟩
theorem mf_X9_tryPlace : MFv mX9_tryPlace 4 := ⟨TT_t 947 (by decide +kernel) rfl, TT_s 26 (by decide +kernel) rfl, TT_t 14 (by decide +kernel) rfl, TT_t 948 (by decide +kernel) rfl, ⟨by decide +kernel, by decide +kernel⟩, by decide +kernel, by decide⟩
theorem mf_X9_search : MFv mX9_search 4 := ⟨TT_t 925 (by decide +kernel) rfl, TT_t 926 (by decide +kernel) rfl, TT_t 14 (by decide +kernel) rfl, TT_t 927 (by decide +kernel) rfl, ⟨by decide +kernel, by decide +kernel⟩, by decide +kernel, by decide⟩
theorem mf_X10_begin : MFv mX10_begin 1 := ⟨TT_t 707 (by decide +kernel) rfl, TT_t 708 (by decide +kernel) rfl, TT_t 9 (by decide +kernel) rfl, TT_t 709 (by decide +kernel) rfl, ⟨by decide +kernel, by decide +kernel⟩, by decide +kernel, by decide⟩
theorem mf_X10_wash : MFv mX10_wash 1 := ⟨TT_t 783 (by decide +kernel) rfl, TT_t 784 (by decide +kernel) rfl, TT_t 9 (by decide +kernel) rfl, TT_t 785 (by decide +kernel) rfl, ⟨by decide +kernel, by decide +kernel⟩, by decide +kernel, by decide⟩
theorem mf_X10_cut : MFv mX10_cut 2 := ⟨TT_t 795 (by decide +kernel) rfl, TT_t 796 (by decide +kernel) rfl, TT_t 9 (by decide +kernel) rfl, TT_t 797 (by decide +kernel) rfl, ⟨by decide +kernel, by decide +kernel⟩, by decide +kernel, by decide⟩
theorem mf_X10_hoursTillClean : MFv mX10_hoursTillClean 2 := ⟨TT_t 1056 (by decide +kernel) rfl, TT_t 1057 (by decide +kernel) rfl, TT_t 9 (by decide +kernel) rfl, TT_t 1058 (by decide +kernel) rfl, ⟨by decide +kernel, by decide +kernel⟩, by decide +kernel, by decide⟩
theorem mf_X11_feed : MFv mX11_feed 5 := ⟨TT_t 532 (by decide +kernel) rfl, TT_t 533 (by decide +kernel) rfl, TT_t 1 (by decide +kernel) rfl, TT_t 534 (by decide +kernel) rfl, ⟨by decide +kernel, by decide +kernel⟩, by decide +kernel, by decide⟩
theorem mf_X11_end : MFv mX11_end 1 := ⟨TT_t 546 (by decide +kernel) rfl, TT_t 547 (by decide +kernel) rfl, TT_t 1 (by decide +kernel) rfl, TT_t 548 (by decide +kernel) rfl, ⟨by decide +kernel, by decide +kernel⟩, by decide +kernel, by decide⟩
theorem mf_X11_forgetPast : MFv mX11_forgetPast 0 := ⟨TT_t 718 (by decide +kernel) rfl, TT_s 14 (by decide +kernel) rfl, TT_t 1 (by decide +kernel) rfl, TT_t 719 (by decide +kernel) rfl, ⟨by decide +kernel, by decide +kernel⟩, by decide +kernel, by decide⟩
theorem mf_X11_hill : MFv mX11_hill 0 := ⟨TT_t 550 (by decide +kernel) rfl, TT_t 551 (by decide +kernel) rfl, TT_t 1 (by decide +kernel) rfl, TT_t 552 (by decide +kernel) rfl, ⟨by decide +kernel, by decide +kernel⟩, by decide +kernel, by decide⟩
theorem mf_X11_fault : MFv mX11_fault 0 := ⟨TT_t 721 (by decide +kernel) rfl, TT_t 722 (by decide +kernel) rfl, TT_t 1 (by decide +kernel) rfl, TT_t 723 (by decide +kernel) rfl, ⟨by decide +kernel, by decide +kernel⟩, by decide +kernel, by decide⟩
theorem mf_X11_air : MFv mX11_air 2 := ⟨TT_t 1255 (by decide +kernel) rfl, TT_t 1256 (by decide +kernel) rfl, TT_t 1 (by decide +kernel) rfl, TT_t 1257 (by decide +kernel) rfl, ⟨by decide +kernel, by decide +kernel⟩, by decide +kernel, by decide⟩
theorem mf_X11_fade : MFv mX11_fade 1 := ⟨TT_t 725 (by decide +kernel) rfl, TT_t 726 (by decide +kernel) rfl, TT_t 1 (by decide +kernel) rfl, TT_t 727 (by decide +kernel) rfl, ⟨by decide +kernel, by decide +kernel⟩, by decide +kernel, by decide⟩
theorem mf_X11_witness : MFv mX11_witness 2 := ⟨TT_t 1323 (by decide +kernel) rfl, TT_t 1324 (by decide +kernel) rfl, TT_t 1 (by decide +kernel) rfl, TT_t 1325 (by decide +kernel) rfl, ⟨by decide +kernel, by decide +kernel⟩, by decide +kernel, by decide⟩
theorem mf_X11_coat : MFv mX11_coat 2 := ⟨TT_t 734 (by decide +kernel) rfl, TT_t 735 (by decide +kernel) rfl, TT_t 1 (by decide +kernel) rfl, TT_t 736 (by decide +kernel) rfl, ⟨by decide +kernel, by decide +kernel⟩, by decide +kernel, by decide⟩
theorem mf_X11_cloth : MFv mX11_cloth 2 := ⟨TT_t 738 (by decide +kernel) rfl, TT_t 739 (by decide +kernel) rfl, TT_t 1 (by decide +kernel) rfl, TT_t 740 (by decide +kernel) rfl, ⟨by decide +kernel, by decide +kernel⟩, by decide +kernel, by decide⟩
theorem mf_X11_box : MFv mX11_box 2 := ⟨TT_t 746 (by decide +kernel) rfl, TT_t 747 (by decide +kernel) rfl, TT_t 1 (by decide +kernel) rfl, TT_t 748 (by decide +kernel) rfl, ⟨by decide +kernel, by decide +kernel⟩, by decide +kernel, by decide⟩
theorem mf_X11_keepPast : MFv mX11_keepPast 0 := ⟨TT_t 761 (by decide +kernel) rfl, TT_s 15 (by decide +kernel) rfl, TT_t 1 (by decide +kernel) rfl, TT_t 762 (by decide +kernel) rfl, ⟨by decide +kernel, by decide +kernel⟩, by decide +kernel, by decide⟩
theorem mf_X11_goes : MFv mX11_goes 2 := ⟨TT_t 756 (by decide +kernel) rfl, TT_t 757 (by decide +kernel) rfl, TT_t 1 (by decide +kernel) rfl, TT_t 758 (by decide +kernel) rfl, ⟨by decide +kernel, by decide +kernel⟩, by decide +kernel, by decide⟩
theorem mf_X11_change : MFv mX11_change 2 := ⟨TT_t 769 (by decide +kernel) rfl, TT_t 770 (by decide +kernel) rfl, TT_t 1 (by decide +kernel) rfl, TT_t 771 (by decide +kernel) rfl, ⟨by decide +kernel, by decide +kernel⟩, by decide +kernel, by decide⟩
theorem mf_X11_soap : MFv mX11_soap 1 := ⟨TT_t 779 (by decide +kernel) rfl, TT_t 780 (by decide +kernel) rfl, TT_t 1 (by decide +kernel) rfl, TT_t 781 (by decide +kernel) rfl, ⟨by decide +kernel, by decide +kernel⟩, by decide +kernel, by decide⟩
theorem mf_X11_isBox : MFs mX11_isBox 1 := ⟨TT_t 792 (by decide +kernel) rfl, TT_t 1 (by decide +kernel) rfl, TT_t 793 (by decide +kernel) rfl, ⟨by decide +kernel, by decide +kernel⟩, by decide +kernel, by decide⟩
theorem mf_X11_send : MFv mX11_send 2 := ⟨TT_t 788 (by decide +kernel) rfl, TT_t 789 (by decide +kernel) rfl, TT_t 1 (by decide +kernel) rfl, TT_t 790 (by decide +kernel) rfl, ⟨by decide +kernel, by decide +kernel⟩, by decide +kernel, by decide⟩
theorem mf_X11_move : MFv mX11_move 2 := ⟨TT_t 800 (by decide +kernel) rfl, TT_t 801 (by decide +kernel) rfl, TT_t 1 (by decide +kernel) rfl, TT_t 802 (by decide +kernel) rfl, ⟨by decide +kernel, by decide +kernel⟩, by decide +kernel, by decide⟩
theorem mf_X11_canPass : MFv mX11_canPass 1 := ⟨TT_t 809 (by decide +kernel) rfl, TT_s 16 (by decide +kernel) rfl, TT_t 1 (by decide +kernel) rfl, TT_t 810 (by decide +kernel) rfl, ⟨by decide +kernel, by decide +kernel⟩, by decide +kernel, by decide⟩
theorem mf_X11_on : MFv mX11_on 1 := ⟨TT_t 804 (by decide +kernel) rfl, TT_t 805 (by decide +kernel) rfl, TT_t 1 (by decide +kernel) rfl, TT_t 806 (by decide +kernel) rfl, ⟨by decide +kernel, by decide +kernel⟩, by decide +kernel, by decide⟩
theorem mf_X11_undo : MFv mX11_undo 0 := ⟨TT_t 845 (by decide +kernel) rfl, TT_t 846 (by decide +kernel) rfl, TT_t 1 (by decide +kernel) rfl, TT_t 847 (by decide +kernel) rfl, ⟨by decide +kernel, by decide +kernel⟩, by decide +kernel, by decide⟩
theorem mf_X11_order : MFv mX11_order 0 := ⟨TT_t 849 (by decide +kernel) rfl, TT_t 850 (by decide +kernel) rfl, TT_t 1 (by decide +kernel) rfl, TT_t 851 (by decide +kernel) rfl, ⟨by decide +kernel, by decide +kernel⟩, by decide +kernel, by decide⟩
theorem mf_X11_opened : MFv mX11_opened 1 := ⟨TT_t 884 (by decide +kernel) rfl, TT_t 885 (by decide +kernel) rfl, TT_t 1 (by decide +kernel) rfl, TT_t 886 (by decide +kernel) rfl, ⟨by decide +kernel, by decide +kernel⟩, by decide +kernel, by decide⟩
theorem mf_X11_noses : MFv mX11_noses 0 := ⟨TT_t 892 (by decide +kernel) rfl, TT_t 893 (by decide +kernel) rfl, TT_t 1 (by decide +kernel) rfl, TT_t 894 (by decide +kernel) rfl, ⟨by decide +kernel, by decide +kernel⟩, by decide +kernel, by decide⟩
theorem mf_X11_drowned : MFv mX11_drowned 0 := ⟨TT_t 905 (by decide +kernel) rfl, TT_t 906 (by decide +kernel) rfl, TT_t 1 (by decide +kernel) rfl, TT_t 907 (by decide +kernel) rfl, ⟨by decide +kernel, by decide +kernel⟩, by decide +kernel, by decide⟩
theorem mf_X11_remains : MFv mX11_remains 1 := ⟨TT_t 917 (by decide +kernel) rfl, TT_t 918 (by decide +kernel) rfl, TT_t 1 (by decide +kernel) rfl, TT_t 919 (by decide +kernel) rfl, ⟨by decide +kernel, by decide +kernel⟩, by decide +kernel, by decide⟩
theorem mf_X11_was : MFv mX11_was 2 := ⟨TT_t 921 (by decide +kernel) rfl, TT_t 922 (by decide +kernel) rfl, TT_t 1 (by decide +kernel) rfl, TT_t 923 (by decide +kernel) rfl, ⟨by decide +kernel, by decide +kernel⟩, by decide +kernel, by decide⟩
theorem mf_X11_rows : MFv mX11_rows 2 := ⟨TT_t 955 (by decide +kernel) rfl, TT_t 956 (by decide +kernel) rfl, TT_t 1 (by decide +kernel) rfl, TT_t 957 (by decide +kernel) rfl, ⟨by decide +kernel, by decide +kernel⟩, by decide +kernel, by decide⟩
theorem mf_X11_first : MFv mX11_first 1 := ⟨TT_t 959 (by decide +kernel) rfl, TT_t 960 (by decide +kernel) rfl, TT_t 1 (by decide +kernel) rfl, TT_t 961 (by decide +kernel) rfl, ⟨by decide +kernel, by decide +kernel⟩, by decide +kernel, by decide⟩
theorem mf_X11_changed : MFv mX11_changed 0 := ⟨TT_t 963 (by decide +kernel) rfl, TT_t 964 (by decide +kernel) rfl, TT_t 1 (by decide +kernel) rfl, TT_t 965 (by decide +kernel) rfl, ⟨by decide +kernel, by decide +kernel⟩, by decide +kernel, by decide⟩
theorem mf_X11_changeAt : MFv mX11_changeAt 1 := ⟨TT_t 1008 (by decide +kernel) rfl, TT_t 1009 (by decide +kernel) rfl, TT_t 1 (by decide +kernel) rfl, TT_t 1010 (by decide +kernel) rfl, ⟨by decide +kernel, by decide +kernel⟩, by decide +kernel, by decide⟩
theorem mf_X11_leastUnlike : MFs mX11_leastUnlike 4 := ⟨TT_t 1016 (by decide +kernel) rfl, TT_t 1 (by decide +kernel) rfl, TT_t 1017 (by decide +kernel) rfl, ⟨by decide +kernel, by decide +kernel⟩, by decide +kernel, by decide⟩
theorem mf_X11_dog : MFv mX11_dog 1 := ⟨TT_t 1012 (by decide +kernel) rfl, TT_t 1013 (by decide +kernel) rfl, TT_t 1 (by decide +kernel) rfl, TT_t 1014 (by decide +kernel) rfl, ⟨by decide +kernel, by decide +kernel⟩, by decide +kernel, by decide⟩
theorem mf_X11_unlike : MFv mX11_unlike 2 := ⟨TT_t 1020 (by decide +kernel) rfl, TT_t 1021 (by decide +kernel) rfl, TT_t 1 (by decide +kernel) rfl, TT_t 1022 (by decide +kernel) rfl, ⟨by decide +kernel, by decide +kernel⟩, by decide +kernel, by decide⟩
theorem mf_X11_alike : MFv mX11_alike 0 := ⟨TT_t 1024 (by decide +kernel) rfl, TT_t 1025 (by decide +kernel) rfl, TT_t 1 (by decide +kernel) rfl, TT_t 1026 (by decide +kernel) rfl, ⟨by decide +kernel, by decide +kernel⟩, by decide +kernel, by decide⟩
theorem mf_X11_kitchen : MFv mX11_kitchen 1 := ⟨TT_t 1028 (by decide +kernel) rfl, TT_t 1029 (by decide +kernel) rfl, TT_t 1 (by decide +kernel) rfl, TT_t 1030 (by decide +kernel) rfl, ⟨by decide +kernel, by decide +kernel⟩, by decide +kernel, by decide⟩
theorem mf_X11_thread : MFv mX11_thread 1 := ⟨TT_t 1036 (by decide +kernel) rfl, TT_t 1037 (by decide +kernel) rfl, TT_t 1 (by decide +kernel) rfl, TT_t 1038 (by decide +kernel) rfl, ⟨by decide +kernel, by decide +kernel⟩, by decide +kernel, by decide⟩
theorem mf_X11_source : MFv mX11_source 1 := ⟨TT_t 1040 (by decide +kernel) rfl, TT_t 1041 (by decide +kernel) rfl, TT_t 1 (by decide +kernel) rfl, TT_t 1042 (by decide +kernel) rfl, ⟨by decide +kernel, by decide +kernel⟩, by decide +kernel, by decide⟩
theorem mf_X11_strangers : MFv mX11_strangers 0 := ⟨TT_t 1044 (by decide +kernel) rfl, TT_t 1045 (by decide +kernel) rfl, TT_t 1 (by decide +kernel) rfl, TT_t 1046 (by decide +kernel) rfl, ⟨by decide +kernel, by decide +kernel⟩, by decide +kernel, by decide⟩
theorem mf_X11_wearer : MFv mX11_wearer 1 := ⟨TT_t 1048 (by decide +kernel) rfl, TT_t 1049 (by decide +kernel) rfl, TT_t 1 (by decide +kernel) rfl, TT_t 1050 (by decide +kernel) rfl, ⟨by decide +kernel, by decide +kernel⟩, by decide +kernel, by decide⟩
theorem mf_X11_clean : MFv mX11_clean 1 := ⟨TT_t 1052 (by decide +kernel) rfl, TT_t 1053 (by decide +kernel) rfl, TT_t 1 (by decide +kernel) rfl, TT_t 1054 (by decide +kernel) rfl, ⟨by decide +kernel, by decide +kernel⟩, by decide +kernel, by decide⟩
theorem mf_X11_pleas : MFv mX11_pleas 0 := ⟨TT_t 1060 (by decide +kernel) rfl, TT_t 1061 (by decide +kernel) rfl, TT_t 1 (by decide +kernel) rfl, TT_t 1062 (by decide +kernel) rfl, ⟨by decide +kernel, by decide +kernel⟩, by decide +kernel, by decide⟩
theorem mf_X11_canDraw : MFv mX11_canDraw 0 := ⟨TT_t 1090 (by decide +kernel) rfl, TT_s 35 (by decide +kernel) rfl, TT_t 1 (by decide +kernel) rfl, TT_t 1091 (by decide +kernel) rfl, ⟨by decide +kernel, by decide +kernel⟩, by decide +kernel, by decide⟩
theorem mf_X11_drawn : MFv mX11_drawn 2 := ⟨TT_t 1085 (by decide +kernel) rfl, TT_t 1086 (by decide +kernel) rfl, TT_t 1 (by decide +kernel) rfl, TT_t 1087 (by decide +kernel) rfl, ⟨by decide +kernel, by decide +kernel⟩, by decide +kernel, by decide⟩
theorem mf_X11_weather : MFv mX11_weather 1 := ⟨TT_t 1118 (by decide +kernel) rfl, TT_t 1119 (by decide +kernel) rfl, TT_t 1 (by decide +kernel) rfl, TT_t 1120 (by decide +kernel) rfl, ⟨by decide +kernel, by decide +kernel⟩, by decide +kernel, by decide⟩
theorem mf_X11_odds : MFv mX11_odds 3 := ⟨TT_t 1122 (by decide +kernel) rfl, TT_t 1123 (by decide +kernel) rfl, TT_t 1 (by decide +kernel) rfl, TT_t 1124 (by decide +kernel) rfl, ⟨by decide +kernel, by decide +kernel⟩, by decide +kernel, by decide⟩
theorem mf_X11_writeByte : MFv mX11_writeByte 1 := ⟨TT_t 1145 (by decide +kernel) rfl, TT_s 41 (by decide +kernel) rfl, TT_t 1 (by decide +kernel) rfl, TT_t 1146 (by decide +kernel) rfl, ⟨by decide +kernel, by decide +kernel⟩, by decide +kernel, by decide⟩
theorem mf_X11_writeName : MFv mX11_writeName 1 := ⟨TT_t 1140 (by decide +kernel) rfl, TT_s 40 (by decide +kernel) rfl, TT_t 1 (by decide +kernel) rfl, TT_t 1141 (by decide +kernel) rfl, ⟨by decide +kernel, by decide +kernel⟩, by decide +kernel, by decide⟩
theorem mf_X11_writeNumber : MFv mX11_writeNumber 1 := ⟨TT_t 1149 (by decide +kernel) rfl, TT_s 42 (by decide +kernel) rfl, TT_t 1 (by decide +kernel) rfl, TT_t 1150 (by decide +kernel) rfl, ⟨by decide +kernel, by decide +kernel⟩, by decide +kernel, by decide⟩
theorem mf_X11_write : MFv mX11_write 1 := ⟨TT_t 1131 (by decide +kernel) rfl, TT_t 1132 (by decide +kernel) rfl, TT_t 1 (by decide +kernel) rfl, TT_t 1133 (by decide +kernel) rfl, ⟨by decide +kernel, by decide +kernel⟩, by decide +kernel, by decide⟩
theorem mf_X11_byteAt : MFv mX11_byteAt 1 := ⟨TT_t 1152 (by decide +kernel) rfl, TT_t 1153 (by decide +kernel) rfl, TT_t 1 (by decide +kernel) rfl, TT_t 1154 (by decide +kernel) rfl, ⟨by decide +kernel, by decide +kernel⟩, by decide +kernel, by decide⟩
theorem mf_X11_sentence : MFv mX11_sentence 0 := ⟨TT_t 1156 (by decide +kernel) rfl, TT_t 1157 (by decide +kernel) rfl, TT_t 1 (by decide +kernel) rfl, TT_t 1158 (by decide +kernel) rfl, ⟨by decide +kernel, by decide +kernel⟩, by decide +kernel, by decide⟩
theorem mf_X11_said : MFv mX11_said 1 := ⟨TT_t 1209 (by decide +kernel) rfl, TT_t 1210 (by decide +kernel) rfl, TT_t 1 (by decide +kernel) rfl, TT_t 1211 (by decide +kernel) rfl, ⟨by decide +kernel, by decide +kernel⟩, by decide +kernel, by decide⟩
theorem mf_X11_isImage : MFv mX11_isImage 1 := ⟨TT_t 1240 (by decide +kernel) rfl, TT_s 50 (by decide +kernel) rfl, TT_t 1 (by decide +kernel) rfl, TT_t 1241 (by decide +kernel) rfl, ⟨by decide +kernel, by decide +kernel⟩, by decide +kernel, by decide⟩
theorem mf_X11_image : MFv mX11_image 1 := ⟨TT_t 1235 (by decide +kernel) rfl, TT_t 1236 (by decide +kernel) rfl, TT_t 1 (by decide +kernel) rfl, TT_t 1237 (by decide +kernel) rfl, ⟨by decide +kernel, by decide +kernel⟩, by decide +kernel, by decide⟩
theorem mf_X11_restore : MFv mX11_restore 1 := ⟨TT_t 1243 (by decide +kernel) rfl, TT_t 1244 (by decide +kernel) rfl, TT_t 1 (by decide +kernel) rfl, TT_t 1245 (by decide +kernel) rfl, ⟨by decide +kernel, by decide +kernel⟩, by decide +kernel, by decide⟩
theorem mf_X11_count : MFv mX11_count 1 := ⟨TT_t 1247 (by decide +kernel) rfl, TT_t 1248 (by decide +kernel) rfl, TT_t 1 (by decide +kernel) rfl, TT_t 1249 (by decide +kernel) rfl, ⟨by decide +kernel, by decide +kernel⟩, by decide +kernel, by decide⟩
theorem mf_X12_thrown : MFv mX12_thrown 0 := ⟨TT_t 1515 (by decide +kernel) rfl, TT_t 1516 (by decide +kernel) rfl, TT_t 17 (by decide +kernel) rfl, TT_t 1517 (by decide +kernel) rfl, ⟨by decide +kernel, by decide +kernel⟩, by decide +kernel, by decide⟩
theorem mf_X12_refuse : MFv mX12_refuse 0 := ⟨TT_t 1664 (by decide +kernel) rfl, TT_s 77 (by decide +kernel) rfl, TT_t 17 (by decide +kernel) rfl, TT_t 1665 (by decide +kernel) rfl, ⟨by decide +kernel, by decide +kernel⟩, by decide +kernel, by decide⟩
theorem mf_X12_come : MFv mX12_come 1 := ⟨TT_t 1524 (by decide +kernel) rfl, TT_s 52 (by decide +kernel) rfl, TT_t 17 (by decide +kernel) rfl, TT_t 1525 (by decide +kernel) rfl, ⟨by decide +kernel, by decide +kernel⟩, by decide +kernel, by decide⟩
theorem mf_X12_feed : MFv mX12_feed 5 := ⟨TT_t 1519 (by decide +kernel) rfl, TT_t 1520 (by decide +kernel) rfl, TT_t 17 (by decide +kernel) rfl, TT_t 1521 (by decide +kernel) rfl, ⟨by decide +kernel, by decide +kernel⟩, by decide +kernel, by decide⟩
theorem mf_X12_end : MFv mX12_end 1 := ⟨TT_t 1527 (by decide +kernel) rfl, TT_t 1528 (by decide +kernel) rfl, TT_t 17 (by decide +kernel) rfl, TT_t 1529 (by decide +kernel) rfl, ⟨by decide +kernel, by decide +kernel⟩, by decide +kernel, by decide⟩
theorem mf_X12_take : MFv mX12_take 0 := ⟨TT_t 1540 (by decide +kernel) rfl, TT_s 54 (by decide +kernel) rfl, TT_t 17 (by decide +kernel) rfl, TT_t 1541 (by decide +kernel) rfl, ⟨by decide +kernel, by decide +kernel⟩, by decide +kernel, by decide⟩
theorem mf_X12_isIn : MFs mX12_isIn 3 := ⟨TT_t 1601 (by decide +kernel) rfl, TT_t 17 (by decide +kernel) rfl, TT_t 1602 (by decide +kernel) rfl, ⟨by decide +kernel, by decide +kernel⟩, by decide +kernel, by decide⟩
theorem mf_X12_has : MFs mX12_has 2 := ⟨TT_t 1612 (by decide +kernel) rfl, TT_t 17 (by decide +kernel) rfl, TT_t 1613 (by decide +kernel) rfl, ⟨by decide +kernel, by decide +kernel⟩, by decide +kernel, by decide⟩
theorem mf_X12_least : MFs mX12_least 2 := ⟨TT_t 1782 (by decide +kernel) rfl, TT_t 17 (by decide +kernel) rfl, TT_t 1783 (by decide +kernel) rfl, ⟨by decide +kernel, by decide +kernel⟩, by decide +kernel, by decide⟩
theorem mf_X12_size : MFs mX12_size 1 := ⟨TT_t 1877 (by decide +kernel) rfl, TT_t 17 (by decide +kernel) rfl, TT_t 1878 (by decide +kernel) rfl, ⟨by decide +kernel, by decide +kernel⟩, by decide +kernel, by decide⟩
theorem mf_X12_tapeAt : MFv mX12_tapeAt 1 := ⟨TT_t 1554 (by decide +kernel) rfl, TT_s 56 (by decide +kernel) rfl, TT_t 17 (by decide +kernel) rfl, TT_t 1555 (by decide +kernel) rfl, ⟨by decide +kernel, by decide +kernel⟩, by decide +kernel, by decide⟩
theorem mf_X12_isDigit : MFs mX12_isDigit 1 := ⟨TT_t 1550 (by decide +kernel) rfl, TT_t 17 (by decide +kernel) rfl, TT_t 1551 (by decide +kernel) rfl, ⟨by decide +kernel, by decide +kernel⟩, by decide +kernel, by decide⟩
theorem mf_X12_isLetter : MFs mX12_isLetter 1 := ⟨TT_t 1547 (by decide +kernel) rfl, TT_t 17 (by decide +kernel) rfl, TT_t 1548 (by decide +kernel) rfl, ⟨by decide +kernel, by decide +kernel⟩, by decide +kernel, by decide⟩
theorem mf_X12_go : MFv mX12_go 0 := ⟨TT_t 1544 (by decide +kernel) rfl, TT_s 55 (by decide +kernel) rfl, TT_t 17 (by decide +kernel) rfl, TT_t 1545 (by decide +kernel) rfl, ⟨by decide +kernel, by decide +kernel⟩, by decide +kernel, by decide⟩
theorem mf_X12_spelt : MFs mX12_spelt 6 := ⟨TT_t 1570 (by decide +kernel) rfl, TT_t 17 (by decide +kernel) rfl, TT_t 1571 (by decide +kernel) rfl, ⟨by decide +kernel, by decide +kernel⟩, by decide +kernel, by decide⟩
theorem mf_X12_wordOf : MFs mX12_wordOf 1 := ⟨TT_t 1567 (by decide +kernel) rfl, TT_t 17 (by decide +kernel) rfl, TT_t 1568 (by decide +kernel) rfl, ⟨by decide +kernel, by decide +kernel⟩, by decide +kernel, by decide⟩
theorem mf_X12_isWord : MFv mX12_isWord 1 := ⟨TT_t 1564 (by decide +kernel) rfl, TT_s 58 (by decide +kernel) rfl, TT_t 17 (by decide +kernel) rfl, TT_t 1565 (by decide +kernel) rfl, ⟨by decide +kernel, by decide +kernel⟩, by decide +kernel, by decide⟩
theorem mf_X12_isSign : MFv mX12_isSign 1 := ⟨TT_t 1640 (by decide +kernel) rfl, TT_s 73 (by decide +kernel) rfl, TT_t 17 (by decide +kernel) rfl, TT_t 1641 (by decide +kernel) rfl, ⟨by decide +kernel, by decide +kernel⟩, by decide +kernel, by decide⟩
theorem mf_X12_isName : MFv mX12_isName 0 := ⟨TT_t 1587 (by decide +kernel) rfl, TT_s 62 (by decide +kernel) rfl, TT_t 17 (by decide +kernel) rfl, TT_t 1588 (by decide +kernel) rfl, ⟨by decide +kernel, by decide +kernel⟩, by decide +kernel, by decide⟩
theorem mf_X12_bad : MFv mX12_bad 1 := ⟨TT_t 1579 (by decide +kernel) rfl, TT_s 60 (by decide +kernel) rfl, TT_t 17 (by decide +kernel) rfl, TT_t 1580 (by decide +kernel) rfl, ⟨by decide +kernel, by decide +kernel⟩, by decide +kernel, by decide⟩
theorem mf_X12_isNumber : MFv mX12_isNumber 2 := ⟨TT_t 1598 (by decide +kernel) rfl, TT_s 64 (by decide +kernel) rfl, TT_t 17 (by decide +kernel) rfl, TT_t 1599 (by decide +kernel) rfl, ⟨by decide +kernel, by decide +kernel⟩, by decide +kernel, by decide⟩
theorem mf_X12_readNumber : MFv mX12_readNumber 2 := ⟨TT_t 1594 (by decide +kernel) rfl, TT_s 63 (by decide +kernel) rfl, TT_t 17 (by decide +kernel) rfl, TT_t 1595 (by decide +kernel) rfl, ⟨by decide +kernel, by decide +kernel⟩, by decide +kernel, by decide⟩
theorem mf_X12_readEnd : MFv mX12_readEnd 0 := ⟨TT_t 1636 (by decide +kernel) rfl, TT_s 72 (by decide +kernel) rfl, TT_t 17 (by decide +kernel) rfl, TT_t 1637 (by decide +kernel) rfl, ⟨by decide +kernel, by decide +kernel⟩, by decide +kernel, by decide⟩
theorem mf_X12_begin : MFv mX12_begin 1 := ⟨TT_t 1536 (by decide +kernel) rfl, TT_s 53 (by decide +kernel) rfl, TT_t 17 (by decide +kernel) rfl, TT_t 1537 (by decide +kernel) rfl, ⟨by decide +kernel, by decide +kernel⟩, by decide +kernel, by decide⟩
theorem mf_X12_findIn : MFs mX12_findIn 4 := ⟨TT_t 1590 (by decide +kernel) rfl, TT_t 17 (by decide +kernel) rfl, TT_t 1591 (by decide +kernel) rfl, ⟨by decide +kernel, by decide +kernel⟩, by decide +kernel, by decide⟩
theorem mf_X12_readNew : MFv mX12_readNew 1 := ⟨TT_t 1583 (by decide +kernel) rfl, TT_s 61 (by decide +kernel) rfl, TT_t 17 (by decide +kernel) rfl, TT_t 1584 (by decide +kernel) rfl, ⟨by decide +kernel, by decide +kernel⟩, by decide +kernel, by decide⟩
theorem mf_X12_isOne : MFv mX12_isOne 3 := ⟨TT_t 1609 (by decide +kernel) rfl, TT_s 66 (by decide +kernel) rfl, TT_t 17 (by decide +kernel) rfl, TT_t 1610 (by decide +kernel) rfl, ⟨by decide +kernel, by decide +kernel⟩, by decide +kernel, by decide⟩
theorem mf_X12_readOne : MFv mX12_readOne 2 := ⟨TT_t 1620 (by decide +kernel) rfl, TT_s 68 (by decide +kernel) rfl, TT_t 17 (by decide +kernel) rfl, TT_t 1621 (by decide +kernel) rfl, ⟨by decide +kernel, by decide +kernel⟩, by decide +kernel, by decide⟩
theorem mf_X12_readScent : MFv mX12_readScent 0 := ⟨TT_t 1575 (by decide +kernel) rfl, TT_s 59 (by decide +kernel) rfl, TT_t 17 (by decide +kernel) rfl, TT_t 1576 (by decide +kernel) rfl, ⟨by decide +kernel, by decide +kernel⟩, by decide +kernel, by decide⟩
theorem mf_X12_readPlace : MFv mX12_readPlace 0 := ⟨TT_t 1605 (by decide +kernel) rfl, TT_s 65 (by decide +kernel) rfl, TT_t 17 (by decide +kernel) rfl, TT_t 1606 (by decide +kernel) rfl, ⟨by decide +kernel, by decide +kernel⟩, by decide +kernel, by decide⟩
theorem mf_X12_readSmoke : MFv mX12_readSmoke 0 := ⟨TT_t 1616 (by decide +kernel) rfl, TT_s 67 (by decide +kernel) rfl, TT_t 17 (by decide +kernel) rfl, TT_t 1617 (by decide +kernel) rfl, ⟨by decide +kernel, by decide +kernel⟩, by decide +kernel, by decide⟩
theorem mf_X12_readWitness : MFv mX12_readWitness 0 := ⟨TT_t 1624 (by decide +kernel) rfl, TT_s 69 (by decide +kernel) rfl, TT_t 17 (by decide +kernel) rfl, TT_t 1625 (by decide +kernel) rfl, ⟨by decide +kernel, by decide +kernel⟩, by decide +kernel, by decide⟩
theorem mf_X12_readWent : MFv mX12_readWent 0 := ⟨TT_t 1628 (by decide +kernel) rfl, TT_s 70 (by decide +kernel) rfl, TT_t 17 (by decide +kernel) rfl, TT_t 1629 (by decide +kernel) rfl, ⟨by decide +kernel, by decide +kernel⟩, by decide +kernel, by decide⟩
theorem mf_X12_readRain : MFv mX12_readRain 0 := ⟨TT_t 1632 (by decide +kernel) rfl, TT_s 71 (by decide +kernel) rfl, TT_t 17 (by decide +kernel) rfl, TT_t 1633 (by decide +kernel) rfl, ⟨by decide +kernel, by decide +kernel⟩, by decide +kernel, by decide⟩
theorem mf_X12_readLine : MFv mX12_readLine 0 := ⟨TT_t 1560 (by decide +kernel) rfl, TT_s 57 (by decide +kernel) rfl, TT_t 17 (by decide +kernel) rfl, TT_t 1561 (by decide +kernel) rfl, ⟨by decide +kernel, by decide +kernel⟩, by decide +kernel, by decide⟩
theorem mf_X12_startAnew : MFv mX12_startAnew 0 := ⟨TT_t 1644 (by decide +kernel) rfl, TT_s 74 (by decide +kernel) rfl, TT_t 17 (by decide +kernel) rfl, TT_t 1645 (by decide +kernel) rfl, ⟨by decide +kernel, by decide +kernel⟩, by decide +kernel, by decide⟩
theorem mf_X12_hill : MFv mX12_hill 0 := ⟨TT_t 1531 (by decide +kernel) rfl, TT_t 1532 (by decide +kernel) rfl, TT_t 17 (by decide +kernel) rfl, TT_t 1533 (by decide +kernel) rfl, ⟨by decide +kernel, by decide +kernel⟩, by decide +kernel, by decide⟩
theorem mf_X12_fault : MFv mX12_fault 0 := ⟨TT_t 1647 (by decide +kernel) rfl, TT_t 1648 (by decide +kernel) rfl, TT_t 17 (by decide +kernel) rfl, TT_t 1649 (by decide +kernel) rfl, ⟨by decide +kernel, by decide +kernel⟩, by decide +kernel, by decide⟩
theorem mf_X12_isScent : MFv mX12_isScent 1 := ⟨TT_t 1660 (by decide +kernel) rfl, TT_s 76 (by decide +kernel) rfl, TT_t 17 (by decide +kernel) rfl, TT_t 1661 (by decide +kernel) rfl, ⟨by decide +kernel, by decide +kernel⟩, by decide +kernel, by decide⟩
theorem mf_X12_isPlace : MFv mX12_isPlace 1 := ⟨TT_t 1656 (by decide +kernel) rfl, TT_s 75 (by decide +kernel) rfl, TT_t 17 (by decide +kernel) rfl, TT_t 1657 (by decide +kernel) rfl, ⟨by decide +kernel, by decide +kernel⟩, by decide +kernel, by decide⟩
theorem mf_X12_isWitness : MFv mX12_isWitness 1 := ⟨TT_t 1680 (by decide +kernel) rfl, TT_s 79 (by decide +kernel) rfl, TT_t 17 (by decide +kernel) rfl, TT_t 1681 (by decide +kernel) rfl, ⟨by decide +kernel, by decide +kernel⟩, by decide +kernel, by decide⟩
theorem mf_X12_isCloth : MFv mX12_isCloth 1 := ⟨TT_t 1708 (by decide +kernel) rfl, TT_s 84 (by decide +kernel) rfl, TT_t 17 (by decide +kernel) rfl, TT_t 1709 (by decide +kernel) rfl, ⟨by decide +kernel, by decide +kernel⟩, by decide +kernel, by decide⟩
theorem mf_X12_airOf : MFv mX12_airOf 2 := ⟨TT_t 1668 (by decide +kernel) rfl, TT_s 78 (by decide +kernel) rfl, TT_t 17 (by decide +kernel) rfl, TT_t 1669 (by decide +kernel) rfl, ⟨by decide +kernel, by decide +kernel⟩, by decide +kernel, by decide⟩
theorem mf_X12_air : MFv mX12_air 2 := ⟨TT_t 1651 (by decide +kernel) rfl, TT_t 1652 (by decide +kernel) rfl, TT_t 17 (by decide +kernel) rfl, TT_t 1653 (by decide +kernel) rfl, ⟨by decide +kernel, by decide +kernel⟩, by decide +kernel, by decide⟩
theorem mf_X12_fade : MFv mX12_fade 1 := ⟨TT_t 1671 (by decide +kernel) rfl, TT_t 1672 (by decide +kernel) rfl, TT_t 17 (by decide +kernel) rfl, TT_t 1673 (by decide +kernel) rfl, ⟨by decide +kernel, by decide +kernel⟩, by decide +kernel, by decide⟩
theorem mf_X12_onCoat : MFv mX12_onCoat 2 := ⟨TT_t 1700 (by decide +kernel) rfl, TT_s 83 (by decide +kernel) rfl, TT_t 17 (by decide +kernel) rfl, TT_t 1701 (by decide +kernel) rfl, ⟨by decide +kernel, by decide +kernel⟩, by decide +kernel, by decide⟩
theorem mf_X12_onCloth : MFv mX12_onCloth 2 := ⟨TT_t 1712 (by decide +kernel) rfl, TT_s 85 (by decide +kernel) rfl, TT_t 17 (by decide +kernel) rfl, TT_t 1713 (by decide +kernel) rfl, ⟨by decide +kernel, by decide +kernel⟩, by decide +kernel, by decide⟩
theorem mf_X12_ofCloth : MFv mX12_ofCloth 2 := ⟨TT_t 1720 (by decide +kernel) rfl, TT_s 86 (by decide +kernel) rfl, TT_t 17 (by decide +kernel) rfl, TT_t 1721 (by decide +kernel) rfl, ⟨by decide +kernel, by decide +kernel⟩, by decide +kernel, by decide⟩
theorem mf_X12_sumAt : MFv mX12_sumAt 1 := ⟨TT_t 1688 (by decide +kernel) rfl, TT_s 81 (by decide +kernel) rfl, TT_t 17 (by decide +kernel) rfl, TT_t 1689 (by decide +kernel) rfl, ⟨by decide +kernel, by decide +kernel⟩, by decide +kernel, by decide⟩
theorem mf_X12_strongestAt : MFv mX12_strongestAt 1 := ⟨TT_t 1692 (by decide +kernel) rfl, TT_s 82 (by decide +kernel) rfl, TT_t 17 (by decide +kernel) rfl, TT_t 1693 (by decide +kernel) rfl, ⟨by decide +kernel, by decide +kernel⟩, by decide +kernel, by decide⟩
theorem mf_X12_worn : MFv mX12_worn 1 := ⟨TT_t 1684 (by decide +kernel) rfl, TT_s 80 (by decide +kernel) rfl, TT_t 17 (by decide +kernel) rfl, TT_t 1685 (by decide +kernel) rfl, ⟨by decide +kernel, by decide +kernel⟩, by decide +kernel, by decide⟩
theorem mf_X12_witness : MFv mX12_witness 2 := ⟨TT_t 1675 (by decide +kernel) rfl, TT_t 1676 (by decide +kernel) rfl, TT_t 17 (by decide +kernel) rfl, TT_t 1677 (by decide +kernel) rfl, ⟨by decide +kernel, by decide +kernel⟩, by decide +kernel, by decide⟩
theorem mf_X12_coat : MFv mX12_coat 2 := ⟨TT_t 1695 (by decide +kernel) rfl, TT_t 1696 (by decide +kernel) rfl, TT_t 17 (by decide +kernel) rfl, TT_t 1697 (by decide +kernel) rfl, ⟨by decide +kernel, by decide +kernel⟩, by decide +kernel, by decide⟩
theorem mf_X12_cloth : MFv mX12_cloth 2 := ⟨TT_t 1703 (by decide +kernel) rfl, TT_t 1704 (by decide +kernel) rfl, TT_t 17 (by decide +kernel) rfl, TT_t 1705 (by decide +kernel) rfl, ⟨by decide +kernel, by decide +kernel⟩, by decide +kernel, by decide⟩
theorem mf_X12_box : MFv mX12_box 2 := ⟨TT_t 1715 (by decide +kernel) rfl, TT_t 1716 (by decide +kernel) rfl, TT_t 17 (by decide +kernel) rfl, TT_t 1717 (by decide +kernel) rfl, ⟨by decide +kernel, by decide +kernel⟩, by decide +kernel, by decide⟩
theorem mf_X12_wearerOf : MFv mX12_wearerOf 1 := ⟨TT_t 1728 (by decide +kernel) rfl, TT_s 87 (by decide +kernel) rfl, TT_t 17 (by decide +kernel) rfl, TT_t 1729 (by decide +kernel) rfl, ⟨by decide +kernel, by decide +kernel⟩, by decide +kernel, by decide⟩
theorem mf_X12_wearer : MFv mX12_wearer 1 := ⟨TT_t 1723 (by decide +kernel) rfl, TT_t 1724 (by decide +kernel) rfl, TT_t 17 (by decide +kernel) rfl, TT_t 1725 (by decide +kernel) rfl, ⟨by decide +kernel, by decide +kernel⟩, by decide +kernel, by decide⟩
theorem mf_X12_isRain : MFv mX12_isRain 1 := ⟨TT_t 1772 (by decide +kernel) rfl, TT_s 91 (by decide +kernel) rfl, TT_t 17 (by decide +kernel) rfl, TT_t 1773 (by decide +kernel) rfl, ⟨by decide +kernel, by decide +kernel⟩, by decide +kernel, by decide⟩
theorem mf_X12_less : MFs mX12_less 2 := ⟨TT_t 1779 (by decide +kernel) rfl, TT_t 17 (by decide +kernel) rfl, TT_t 1780 (by decide +kernel) rfl, ⟨by decide +kernel, by decide +kernel⟩, by decide +kernel, by decide⟩
theorem mf_X12_fadeAt : MFv mX12_fadeAt 3 := ⟨TT_t 1776 (by decide +kernel) rfl, TT_s 92 (by decide +kernel) rfl, TT_t 17 (by decide +kernel) rfl, TT_t 1777 (by decide +kernel) rfl, ⟨by decide +kernel, by decide +kernel⟩, by decide +kernel, by decide⟩
theorem mf_X12_mixBox : MFv mX12_mixBox 2 := ⟨TT_t 1786 (by decide +kernel) rfl, TT_s 93 (by decide +kernel) rfl, TT_t 17 (by decide +kernel) rfl, TT_t 1787 (by decide +kernel) rfl, ⟨by decide +kernel, by decide +kernel⟩, by decide +kernel, by decide⟩
theorem mf_X12_pass : MFv mX12_pass 1 := ⟨TT_t 1768 (by decide +kernel) rfl, TT_s 90 (by decide +kernel) rfl, TT_t 17 (by decide +kernel) rfl, TT_t 1769 (by decide +kernel) rfl, ⟨by decide +kernel, by decide +kernel⟩, by decide +kernel, by decide⟩
theorem mf_X12_snap : MFv mX12_snap 0 := ⟨TT_t 1740 (by decide +kernel) rfl, TT_s 88 (by decide +kernel) rfl, TT_t 17 (by decide +kernel) rfl, TT_t 1741 (by decide +kernel) rfl, ⟨by decide +kernel, by decide +kernel⟩, by decide +kernel, by decide⟩
theorem mf_X12_undo : MFv mX12_undo 0 := ⟨TT_t 1731 (by decide +kernel) rfl, TT_t 1732 (by decide +kernel) rfl, TT_t 17 (by decide +kernel) rfl, TT_t 1733 (by decide +kernel) rfl, ⟨by decide +kernel, by decide +kernel⟩, by decide +kernel, by decide⟩
theorem mf_X12_layAside : MFv mX12_layAside 0 := ⟨TT_t 1850 (by decide +kernel) rfl, TT_s 100 (by decide +kernel) rfl, TT_t 17 (by decide +kernel) rfl, TT_t 1851 (by decide +kernel) rfl, ⟨by decide +kernel, by decide +kernel⟩, by decide +kernel, by decide⟩
theorem mf_X12_layBack : MFv mX12_layBack 0 := ⟨TT_t 1858 (by decide +kernel) rfl, TT_s 102 (by decide +kernel) rfl, TT_t 17 (by decide +kernel) rfl, TT_t 1859 (by decide +kernel) rfl, ⟨by decide +kernel, by decide +kernel⟩, by decide +kernel, by decide⟩
theorem mf_X12_goes : MFv mX12_goes 2 := ⟨TT_t 1735 (by decide +kernel) rfl, TT_t 1736 (by decide +kernel) rfl, TT_t 17 (by decide +kernel) rfl, TT_t 1737 (by decide +kernel) rfl, ⟨by decide +kernel, by decide +kernel⟩, by decide +kernel, by decide⟩
theorem mf_X12_changeBoth : MFv mX12_changeBoth 2 := ⟨TT_t 1748 (by decide +kernel) rfl, TT_s 89 (by decide +kernel) rfl, TT_t 17 (by decide +kernel) rfl, TT_t 1749 (by decide +kernel) rfl, ⟨by decide +kernel, by decide +kernel⟩, by decide +kernel, by decide⟩
theorem mf_X12_change : MFv mX12_change 2 := ⟨TT_t 1743 (by decide +kernel) rfl, TT_t 1744 (by decide +kernel) rfl, TT_t 17 (by decide +kernel) rfl, TT_t 1745 (by decide +kernel) rfl, ⟨by decide +kernel, by decide +kernel⟩, by decide +kernel, by decide⟩
theorem mf_X12_soap : MFv mX12_soap 1 := ⟨TT_t 1751 (by decide +kernel) rfl, TT_t 1752 (by decide +kernel) rfl, TT_t 17 (by decide +kernel) rfl, TT_t 1753 (by decide +kernel) rfl, ⟨by decide +kernel, by decide +kernel⟩, by decide +kernel, by decide⟩
theorem mf_X12_send : MFv mX12_send 2 := ⟨TT_t 1755 (by decide +kernel) rfl, TT_t 1756 (by decide +kernel) rfl, TT_t 17 (by decide +kernel) rfl, TT_t 1757 (by decide +kernel) rfl, ⟨by decide +kernel, by decide +kernel⟩, by decide +kernel, by decide⟩
theorem mf_X12_move : MFv mX12_move 2 := ⟨TT_t 1759 (by decide +kernel) rfl, TT_t 1760 (by decide +kernel) rfl, TT_t 17 (by decide +kernel) rfl, TT_t 1761 (by decide +kernel) rfl, ⟨by decide +kernel, by decide +kernel⟩, by decide +kernel, by decide⟩
theorem mf_X12_on : MFv mX12_on 1 := ⟨TT_t 1763 (by decide +kernel) rfl, TT_t 1764 (by decide +kernel) rfl, TT_t 17 (by decide +kernel) rfl, TT_t 1765 (by decide +kernel) rfl, ⟨by decide +kernel, by decide +kernel⟩, by decide +kernel, by decide⟩
theorem mf_X12_isDrowned : MFv mX12_isDrowned 2 := ⟨TT_t 1806 (by decide +kernel) rfl, TT_s 97 (by decide +kernel) rfl, TT_t 17 (by decide +kernel) rfl, TT_t 1807 (by decide +kernel) rfl, ⟨by decide +kernel, by decide +kernel⟩, by decide +kernel, by decide⟩
theorem mf_X12_open : MFv mX12_open 2 := ⟨TT_t 1810 (by decide +kernel) rfl, TT_s 98 (by decide +kernel) rfl, TT_t 17 (by decide +kernel) rfl, TT_t 1811 (by decide +kernel) rfl, ⟨by decide +kernel, by decide +kernel⟩, by decide +kernel, by decide⟩
theorem mf_X12_startOpening : MFv mX12_startOpening 0 := ⟨TT_t 1798 (by decide +kernel) rfl, TT_s 95 (by decide +kernel) rfl, TT_t 17 (by decide +kernel) rfl, TT_t 1799 (by decide +kernel) rfl, ⟨by decide +kernel, by decide +kernel⟩, by decide +kernel, by decide⟩
theorem mf_X12_openOn : MFv mX12_openOn 2 := ⟨TT_t 1802 (by decide +kernel) rfl, TT_s 96 (by decide +kernel) rfl, TT_t 17 (by decide +kernel) rfl, TT_t 1803 (by decide +kernel) rfl, ⟨by decide +kernel, by decide +kernel⟩, by decide +kernel, by decide⟩
theorem mf_X12_openAll : MFv mX12_openAll 0 := ⟨TT_t 1794 (by decide +kernel) rfl, TT_s 94 (by decide +kernel) rfl, TT_t 17 (by decide +kernel) rfl, TT_t 1795 (by decide +kernel) rfl, ⟨by decide +kernel, by decide +kernel⟩, by decide +kernel, by decide⟩
theorem mf_X12_order : MFv mX12_order 0 := ⟨TT_t 1789 (by decide +kernel) rfl, TT_t 1790 (by decide +kernel) rfl, TT_t 17 (by decide +kernel) rfl, TT_t 1791 (by decide +kernel) rfl, ⟨by decide +kernel, by decide +kernel⟩, by decide +kernel, by decide⟩
theorem mf_X12_opened : MFv mX12_opened 1 := ⟨TT_t 1813 (by decide +kernel) rfl, TT_t 1814 (by decide +kernel) rfl, TT_t 17 (by decide +kernel) rfl, TT_t 1815 (by decide +kernel) rfl, ⟨by decide +kernel, by decide +kernel⟩, by decide +kernel, by decide⟩
theorem mf_X12_noses : MFv mX12_noses 0 := ⟨TT_t 1817 (by decide +kernel) rfl, TT_t 1818 (by decide +kernel) rfl, TT_t 17 (by decide +kernel) rfl, TT_t 1819 (by decide +kernel) rfl, ⟨by decide +kernel, by decide +kernel⟩, by decide +kernel, by decide⟩
theorem mf_X12_drowned : MFv mX12_drowned 0 := ⟨TT_t 1821 (by decide +kernel) rfl, TT_t 1822 (by decide +kernel) rfl, TT_t 17 (by decide +kernel) rfl, TT_t 1823 (by decide +kernel) rfl, ⟨by decide +kernel, by decide +kernel⟩, by decide +kernel, by decide⟩
theorem mf_X12_remains : MFv mX12_remains 1 := ⟨TT_t 1825 (by decide +kernel) rfl, TT_t 1826 (by decide +kernel) rfl, TT_t 17 (by decide +kernel) rfl, TT_t 1827 (by decide +kernel) rfl, ⟨by decide +kernel, by decide +kernel⟩, by decide +kernel, by decide⟩
theorem mf_X12_wearThrough : MFv mX12_wearThrough 2 := ⟨TT_t 1834 (by decide +kernel) rfl, TT_s 99 (by decide +kernel) rfl, TT_t 17 (by decide +kernel) rfl, TT_t 1835 (by decide +kernel) rfl, ⟨by decide +kernel, by decide +kernel⟩, by decide +kernel, by decide⟩
theorem mf_X12_was : MFv mX12_was 2 := ⟨TT_t 1829 (by decide +kernel) rfl, TT_t 1830 (by decide +kernel) rfl, TT_t 17 (by decide +kernel) rfl, TT_t 1831 (by decide +kernel) rfl, ⟨by decide +kernel, by decide +kernel⟩, by decide +kernel, by decide⟩
theorem mf_X12_rows : MFv mX12_rows 2 := ⟨TT_t 1837 (by decide +kernel) rfl, TT_t 1838 (by decide +kernel) rfl, TT_t 17 (by decide +kernel) rfl, TT_t 1839 (by decide +kernel) rfl, ⟨by decide +kernel, by decide +kernel⟩, by decide +kernel, by decide⟩
theorem mf_X12_first : MFv mX12_first 1 := ⟨TT_t 1841 (by decide +kernel) rfl, TT_t 1842 (by decide +kernel) rfl, TT_t 17 (by decide +kernel) rfl, TT_t 1843 (by decide +kernel) rfl, ⟨by decide +kernel, by decide +kernel⟩, by decide +kernel, by decide⟩
theorem mf_X12_areSo : MFv mX12_areSo 0 := ⟨TT_t 1854 (by decide +kernel) rfl, TT_s 101 (by decide +kernel) rfl, TT_t 17 (by decide +kernel) rfl, TT_t 1855 (by decide +kernel) rfl, ⟨by decide +kernel, by decide +kernel⟩, by decide +kernel, by decide⟩
theorem mf_X12_changed : MFv mX12_changed 0 := ⟨TT_t 1845 (by decide +kernel) rfl, TT_t 1846 (by decide +kernel) rfl, TT_t 17 (by decide +kernel) rfl, TT_t 1847 (by decide +kernel) rfl, ⟨by decide +kernel, by decide +kernel⟩, by decide +kernel, by decide⟩
theorem mf_X12_changeAt : MFv mX12_changeAt 1 := ⟨TT_t 1861 (by decide +kernel) rfl, TT_t 1862 (by decide +kernel) rfl, TT_t 17 (by decide +kernel) rfl, TT_t 1863 (by decide +kernel) rfl, ⟨by decide +kernel, by decide +kernel⟩, by decide +kernel, by decide⟩
theorem mf_X12_apart : MFv mX12_apart 2 := ⟨TT_t 1874 (by decide +kernel) rfl, TT_s 104 (by decide +kernel) rfl, TT_t 17 (by decide +kernel) rfl, TT_t 1875 (by decide +kernel) rfl, ⟨by decide +kernel, by decide +kernel⟩, by decide +kernel, by decide⟩
theorem mf_X12_clothAt : MFv mX12_clothAt 1 := ⟨TT_t 1870 (by decide +kernel) rfl, TT_s 103 (by decide +kernel) rfl, TT_t 17 (by decide +kernel) rfl, TT_t 1871 (by decide +kernel) rfl, ⟨by decide +kernel, by decide +kernel⟩, by decide +kernel, by decide⟩
theorem mf_X12_unlike : MFv mX12_unlike 2 := ⟨TT_t 1865 (by decide +kernel) rfl, TT_t 1866 (by decide +kernel) rfl, TT_t 17 (by decide +kernel) rfl, TT_t 1867 (by decide +kernel) rfl, ⟨by decide +kernel, by decide +kernel⟩, by decide +kernel, by decide⟩
theorem mf_X12_dog : MFv mX12_dog 1 := ⟨TT_t 1880 (by decide +kernel) rfl, TT_t 1881 (by decide +kernel) rfl, TT_t 17 (by decide +kernel) rfl, TT_t 1882 (by decide +kernel) rfl, ⟨by decide +kernel, by decide +kernel⟩, by decide +kernel, by decide⟩
theorem mf_X12_alike : MFv mX12_alike 0 := ⟨TT_t 1884 (by decide +kernel) rfl, TT_t 1885 (by decide +kernel) rfl, TT_t 17 (by decide +kernel) rfl, TT_t 1886 (by decide +kernel) rfl, ⟨by decide +kernel, by decide +kernel⟩, by decide +kernel, by decide⟩
theorem mf_X12_kitchen : MFv mX12_kitchen 1 := ⟨TT_t 1888 (by decide +kernel) rfl, TT_t 1889 (by decide +kernel) rfl, TT_t 17 (by decide +kernel) rfl, TT_t 1890 (by decide +kernel) rfl, ⟨by decide +kernel, by decide +kernel⟩, by decide +kernel, by decide⟩
theorem mf_X12_thread : MFv mX12_thread 1 := ⟨TT_t 1892 (by decide +kernel) rfl, TT_t 1893 (by decide +kernel) rfl, TT_t 17 (by decide +kernel) rfl, TT_t 1894 (by decide +kernel) rfl, ⟨by decide +kernel, by decide +kernel⟩, by decide +kernel, by decide⟩
theorem mf_X12_source : MFv mX12_source 1 := ⟨TT_t 1896 (by decide +kernel) rfl, TT_t 1897 (by decide +kernel) rfl, TT_t 17 (by decide +kernel) rfl, TT_t 1898 (by decide +kernel) rfl, ⟨by decide +kernel, by decide +kernel⟩, by decide +kernel, by decide⟩
theorem mf_X12_strangers : MFv mX12_strangers 0 := ⟨TT_t 1900 (by decide +kernel) rfl, TT_t 1901 (by decide +kernel) rfl, TT_t 17 (by decide +kernel) rfl, TT_t 1902 (by decide +kernel) rfl, ⟨by decide +kernel, by decide +kernel⟩, by decide +kernel, by decide⟩
theorem mf_X12_clean : MFv mX12_clean 1 := ⟨TT_t 1904 (by decide +kernel) rfl, TT_t 1905 (by decide +kernel) rfl, TT_t 17 (by decide +kernel) rfl, TT_t 1906 (by decide +kernel) rfl, ⟨by decide +kernel, by decide +kernel⟩, by decide +kernel, by decide⟩
theorem mf_X12_readPlea : MFv mX12_readPlea 0 := ⟨TT_t 1913 (by decide +kernel) rfl, TT_s 105 (by decide +kernel) rfl, TT_t 17 (by decide +kernel) rfl, TT_t 1914 (by decide +kernel) rfl, ⟨by decide +kernel, by decide +kernel⟩, by decide +kernel, by decide⟩
theorem mf_X12_pleas : MFv mX12_pleas 0 := ⟨TT_t 1908 (by decide +kernel) rfl, TT_t 1909 (by decide +kernel) rfl, TT_t 17 (by decide +kernel) rfl, TT_t 1910 (by decide +kernel) rfl, ⟨by decide +kernel, by decide +kernel⟩, by decide +kernel, by decide⟩
theorem mf_X12_draw : MFv mX12_draw 1 := ⟨TT_t 1929 (by decide +kernel) rfl, TT_s 108 (by decide +kernel) rfl, TT_t 17 (by decide +kernel) rfl, TT_t 1930 (by decide +kernel) rfl, ⟨by decide +kernel, by decide +kernel⟩, by decide +kernel, by decide⟩
theorem mf_X12_drawHours : MFv mX12_drawHours 2 := ⟨TT_t 1925 (by decide +kernel) rfl, TT_s 107 (by decide +kernel) rfl, TT_t 17 (by decide +kernel) rfl, TT_t 1926 (by decide +kernel) rfl, ⟨by decide +kernel, by decide +kernel⟩, by decide +kernel, by decide⟩
theorem mf_X12_canDraw : MFv mX12_canDraw 1 := ⟨TT_t 1921 (by decide +kernel) rfl, TT_s 106 (by decide +kernel) rfl, TT_t 17 (by decide +kernel) rfl, TT_t 1922 (by decide +kernel) rfl, ⟨by decide +kernel, by decide +kernel⟩, by decide +kernel, by decide⟩
theorem mf_X12_drawn : MFv mX12_drawn 2 := ⟨TT_t 1916 (by decide +kernel) rfl, TT_t 1917 (by decide +kernel) rfl, TT_t 17 (by decide +kernel) rfl, TT_t 1918 (by decide +kernel) rfl, ⟨by decide +kernel, by decide +kernel⟩, by decide +kernel, by decide⟩
theorem mf_X12_weather : MFv mX12_weather 1 := ⟨TT_t 1933 (by decide +kernel) rfl, TT_t 1934 (by decide +kernel) rfl, TT_t 17 (by decide +kernel) rfl, TT_t 1935 (by decide +kernel) rfl, ⟨by decide +kernel, by decide +kernel⟩, by decide +kernel, by decide⟩
theorem mf_X12_odds : MFv mX12_odds 3 := ⟨TT_t 1937 (by decide +kernel) rfl, TT_t 1938 (by decide +kernel) rfl, TT_t 17 (by decide +kernel) rfl, TT_t 1939 (by decide +kernel) rfl, ⟨by decide +kernel, by decide +kernel⟩, by decide +kernel, by decide⟩
theorem mf_X12_put : MFv mX12_put 1 := ⟨TT_t 1946 (by decide +kernel) rfl, TT_s 109 (by decide +kernel) rfl, TT_t 17 (by decide +kernel) rfl, TT_t 1947 (by decide +kernel) rfl, ⟨by decide +kernel, by decide +kernel⟩, by decide +kernel, by decide⟩
theorem mf_X12_write : MFv mX12_write 1 := ⟨TT_t 1941 (by decide +kernel) rfl, TT_t 1942 (by decide +kernel) rfl, TT_t 17 (by decide +kernel) rfl, TT_t 1943 (by decide +kernel) rfl, ⟨by decide +kernel, by decide +kernel⟩, by decide +kernel, by decide⟩
theorem mf_X12_byteAt : MFv mX12_byteAt 1 := ⟨TT_t 1949 (by decide +kernel) rfl, TT_t 1950 (by decide +kernel) rfl, TT_t 17 (by decide +kernel) rfl, TT_t 1951 (by decide +kernel) rfl, ⟨by decide +kernel, by decide +kernel⟩, by decide +kernel, by decide⟩
theorem mf_X12_saysOne : MFv mX12_saysOne 4 := ⟨TT_t 1978 (by decide +kernel) rfl, TT_s 115 (by decide +kernel) rfl, TT_t 17 (by decide +kernel) rfl, TT_t 1979 (by decide +kernel) rfl, ⟨by decide +kernel, by decide +kernel⟩, by decide +kernel, by decide⟩
theorem mf_X12_readNamed : MFv mX12_readNamed 3 := ⟨TT_t 1982 (by decide +kernel) rfl, TT_s 116 (by decide +kernel) rfl, TT_t 17 (by decide +kernel) rfl, TT_t 1983 (by decide +kernel) rfl, ⟨by decide +kernel, by decide +kernel⟩, by decide +kernel, by decide⟩
theorem mf_X12_readCompare : MFv mX12_readCompare 1 := ⟨TT_t 1986 (by decide +kernel) rfl, TT_s 117 (by decide +kernel) rfl, TT_t 17 (by decide +kernel) rfl, TT_t 1987 (by decide +kernel) rfl, ⟨by decide +kernel, by decide +kernel⟩, by decide +kernel, by decide⟩
theorem mf_X12_readAnd : MFv mX12_readAnd 0 := ⟨TT_t 1962 (by decide +kernel) rfl, TT_s 111 (by decide +kernel) rfl, TT_t 17 (by decide +kernel) rfl, TT_t 1963 (by decide +kernel) rfl, ⟨by decide +kernel, by decide +kernel⟩, by decide +kernel, by decide⟩
theorem mf_X12_readBracket : MFv mX12_readBracket 0 := ⟨TT_t 1970 (by decide +kernel) rfl, TT_s 113 (by decide +kernel) rfl, TT_t 17 (by decide +kernel) rfl, TT_t 1971 (by decide +kernel) rfl, ⟨by decide +kernel, by decide +kernel⟩, by decide +kernel, by decide⟩
theorem mf_X12_readNot : MFv mX12_readNot 0 := ⟨TT_t 1974 (by decide +kernel) rfl, TT_s 114 (by decide +kernel) rfl, TT_t 17 (by decide +kernel) rfl, TT_t 1975 (by decide +kernel) rfl, ⟨by decide +kernel, by decide +kernel⟩, by decide +kernel, by decide⟩
theorem mf_X12_readOr : MFv mX12_readOr 0 := ⟨TT_t 1958 (by decide +kernel) rfl, TT_s 110 (by decide +kernel) rfl, TT_t 17 (by decide +kernel) rfl, TT_t 1959 (by decide +kernel) rfl, ⟨by decide +kernel, by decide +kernel⟩, by decide +kernel, by decide⟩
theorem mf_X12_readTerm : MFv mX12_readTerm 0 := ⟨TT_t 1966 (by decide +kernel) rfl, TT_s 112 (by decide +kernel) rfl, TT_t 17 (by decide +kernel) rfl, TT_t 1967 (by decide +kernel) rfl, ⟨by decide +kernel, by decide +kernel⟩, by decide +kernel, by decide⟩
theorem mf_X12_sentence : MFv mX12_sentence 0 := ⟨TT_t 1953 (by decide +kernel) rfl, TT_t 1954 (by decide +kernel) rfl, TT_t 17 (by decide +kernel) rfl, TT_t 1955 (by decide +kernel) rfl, ⟨by decide +kernel, by decide +kernel⟩, by decide +kernel, by decide⟩
theorem mf_X12_valueOf : MFv mX12_valueOf 2 := ⟨TT_t 1998 (by decide +kernel) rfl, TT_s 119 (by decide +kernel) rfl, TT_t 17 (by decide +kernel) rfl, TT_t 1999 (by decide +kernel) rfl, ⟨by decide +kernel, by decide +kernel⟩, by decide +kernel, by decide⟩
theorem mf_X12_holds : MFv mX12_holds 2 := ⟨TT_t 1994 (by decide +kernel) rfl, TT_s 118 (by decide +kernel) rfl, TT_t 17 (by decide +kernel) rfl, TT_t 1995 (by decide +kernel) rfl, ⟨by decide +kernel, by decide +kernel⟩, by decide +kernel, by decide⟩
theorem mf_X12_said : MFv mX12_said 1 := ⟨TT_t 1989 (by decide +kernel) rfl, TT_t 1990 (by decide +kernel) rfl, TT_t 17 (by decide +kernel) rfl, TT_t 1991 (by decide +kernel) rfl, ⟨by decide +kernel, by decide +kernel⟩, by decide +kernel, by decide⟩
theorem mf_X12_image : MFv mX12_image 1 := ⟨TT_t 2001 (by decide +kernel) rfl, TT_t 2002 (by decide +kernel) rfl, TT_t 17 (by decide +kernel) rfl, TT_t 2003 (by decide +kernel) rfl, ⟨by decide +kernel, by decide +kernel⟩, by decide +kernel, by decide⟩
theorem mf_X12_restore : MFv mX12_restore 1 := ⟨TT_t 2005 (by decide +kernel) rfl, TT_t 2006 (by decide +kernel) rfl, TT_t 17 (by decide +kernel) rfl, TT_t 2007 (by decide +kernel) rfl, ⟨by decide +kernel, by decide +kernel⟩, by decide +kernel, by decide⟩
theorem mf_X12_count : MFv mX12_count 1 := ⟨TT_t 2009 (by decide +kernel) rfl, TT_t 2010 (by decide +kernel) rfl, TT_t 17 (by decide +kernel) rfl, TT_t 2011 (by decide +kernel) rfl, ⟨by decide +kernel, by decide +kernel⟩, by decide +kernel, by decide⟩
theorem kt_0_1 {a : Nat} (h : kd a = 0) : kd (rf a 1) = 20 := kt_of h (by decide) (by decide +kernel)
theorem lt_0_1 {a : Nat} (h : kd a = 0) : ln (rf a 1) = 40 := lt_of h (by decide) (by decide +kernel)
theorem kt_0_4 {a : Nat} (h : kd a = 0) : kd (rf a 4) = 20 := kt_of h (by decide) (by decide +kernel)
theorem lt_0_4 {a : Nat} (h : kd a = 0) : ln (rf a 4) = 36 := lt_of h (by decide) (by decide +kernel)
theorem kt_0_5 {a : Nat} (h : kd a = 0) : kd (rf a 5) = 20 := kt_of h (by decide) (by decide +kernel)
theorem lt_0_5 {a : Nat} (h : kd a = 0) : ln (rf a 5) = 366 := lt_of h (by decide) (by decide +kernel)
theorem kt_0_6 {a : Nat} (h : kd a = 0) : kd (rf a 6) = 20 := kt_of h (by decide) (by decide +kernel)
theorem lt_0_6 {a : Nat} (h : kd a = 0) : ln (rf a 6) = 2196 := lt_of h (by decide) (by decide +kernel)
theorem kt_0_7 {a : Nat} (h : kd a = 0) : kd (rf a 7) = 20 := kt_of h (by decide) (by decide +kernel)
theorem lt_0_7 {a : Nat} (h : kd a = 0) : ln (rf a 7) = 6 := lt_of h (by decide) (by decide +kernel)
theorem kt_1_5 {a : Nat} (h : kd a = 1) : kd (rf a 5) = 10 := kt_of h (by decide) (by decide +kernel)
theorem kt_2_0 {a : Nat} (h : kd a = 2) : kd (rf a 0) = 20 := kt_of h (by decide) (by decide +kernel)
theorem lt_2_0 {a : Nat} (h : kd a = 2) : ln (rf a 0) = 6 := lt_of h (by decide) (by decide +kernel)
theorem kt_2_1 {a : Nat} (h : kd a = 2) : kd (rf a 1) = 21 := kt_of h (by decide) (by decide +kernel)
theorem lt_2_1 {a : Nat} (h : kd a = 2) : ln (rf a 1) = 18 := lt_of h (by decide) (by decide +kernel)
theorem kt_2_2 {a : Nat} (h : kd a = 2) : kd (rf a 2) = 20 := kt_of h (by decide) (by decide +kernel)
theorem lt_2_2 {a : Nat} (h : kd a = 2) : ln (rf a 2) = 6 := lt_of h (by decide) (by decide +kernel)
theorem kt_2_3 {a : Nat} (h : kd a = 2) : kd (rf a 3) = 20 := kt_of h (by decide) (by decide +kernel)
theorem lt_2_3 {a : Nat} (h : kd a = 2) : ln (rf a 3) = 36 := lt_of h (by decide) (by decide +kernel)
theorem kt_2_4 {a : Nat} (h : kd a = 2) : kd (rf a 4) = 20 := kt_of h (by decide) (by decide +kernel)
theorem lt_2_4 {a : Nat} (h : kd a = 2) : ln (rf a 4) = 6 := lt_of h (by decide) (by decide +kernel)
theorem kt_2_5 {a : Nat} (h : kd a = 2) : kd (rf a 5) = 20 := kt_of h (by decide) (by decide +kernel)
theorem lt_2_5 {a : Nat} (h : kd a = 2) : ln (rf a 5) = 6 := lt_of h (by decide) (by decide +kernel)
theorem kt_2_6 {a : Nat} (h : kd a = 2) : kd (rf a 6) = 20 := kt_of h (by decide) (by decide +kernel)
theorem lt_2_6 {a : Nat} (h : kd a = 2) : ln (rf a 6) = 366 := lt_of h (by decide) (by decide +kernel)
theorem kt_2_7 {a : Nat} (h : kd a = 2) : kd (rf a 7) = 20 := kt_of h (by decide) (by decide +kernel)
theorem lt_2_7 {a : Nat} (h : kd a = 2) : ln (rf a 7) = 61 := lt_of h (by decide) (by decide +kernel)
theorem kt_3_0 {a : Nat} (h : kd a = 3) : kd (rf a 0) = 8 := kt_of h (by decide) (by decide +kernel)
theorem kt_3_1 {a : Nat} (h : kd a = 3) : kd (rf a 1) = 2 := kt_of h (by decide) (by decide +kernel)
theorem kt_3_2 {a : Nat} (h : kd a = 3) : kd (rf a 2) = 20 := kt_of h (by decide) (by decide +kernel)
theorem lt_3_2 {a : Nat} (h : kd a = 3) : ln (rf a 2) = 36 := lt_of h (by decide) (by decide +kernel)
theorem kt_3_3 {a : Nat} (h : kd a = 3) : kd (rf a 3) = 20 := kt_of h (by decide) (by decide +kernel)
theorem lt_3_3 {a : Nat} (h : kd a = 3) : ln (rf a 3) = 216 := lt_of h (by decide) (by decide +kernel)
theorem kt_4_0 {a : Nat} (h : kd a = 4) : kd (rf a 0) = 20 := kt_of h (by decide) (by decide +kernel)
theorem lt_4_0 {a : Nat} (h : kd a = 4) : ln (rf a 0) = 6 := lt_of h (by decide) (by decide +kernel)
theorem kt_4_3 {a : Nat} (h : kd a = 4) : kd (rf a 3) = 20 := kt_of h (by decide) (by decide +kernel)
theorem lt_4_3 {a : Nat} (h : kd a = 4) : ln (rf a 3) = 8 := lt_of h (by decide) (by decide +kernel)
theorem kt_4_4 {a : Nat} (h : kd a = 4) : kd (rf a 4) = 20 := kt_of h (by decide) (by decide +kernel)
theorem lt_4_4 {a : Nat} (h : kd a = 4) : ln (rf a 4) = 8 := lt_of h (by decide) (by decide +kernel)
theorem kt_4_5 {a : Nat} (h : kd a = 4) : kd (rf a 5) = 20 := kt_of h (by decide) (by decide +kernel)
theorem lt_4_5 {a : Nat} (h : kd a = 4) : ln (rf a 5) = 8 := lt_of h (by decide) (by decide +kernel)
theorem kt_4_6 {a : Nat} (h : kd a = 4) : kd (rf a 6) = 20 := kt_of h (by decide) (by decide +kernel)
theorem lt_4_6 {a : Nat} (h : kd a = 4) : ln (rf a 6) = 54 := lt_of h (by decide) (by decide +kernel)
theorem kt_4_7 {a : Nat} (h : kd a = 4) : kd (rf a 7) = 20 := kt_of h (by decide) (by decide +kernel)
theorem lt_4_7 {a : Nat} (h : kd a = 4) : ln (rf a 7) = 256 := lt_of h (by decide) (by decide +kernel)
theorem kt_4_8 {a : Nat} (h : kd a = 4) : kd (rf a 8) = 20 := kt_of h (by decide) (by decide +kernel)
theorem lt_4_8 {a : Nat} (h : kd a = 4) : ln (rf a 8) = 256 := lt_of h (by decide) (by decide +kernel)
theorem kt_6_0 {a : Nat} (h : kd a = 6) : kd (rf a 0) = 20 := kt_of h (by decide) (by decide +kernel)
theorem lt_6_0 {a : Nat} (h : kd a = 6) : ln (rf a 0) = 40 := lt_of h (by decide) (by decide +kernel)
theorem kt_6_1 {a : Nat} (h : kd a = 6) : kd (rf a 1) = 20 := kt_of h (by decide) (by decide +kernel)
theorem lt_6_1 {a : Nat} (h : kd a = 6) : ln (rf a 1) = 40 := lt_of h (by decide) (by decide +kernel)
theorem kt_6_2 {a : Nat} (h : kd a = 6) : kd (rf a 2) = 20 := kt_of h (by decide) (by decide +kernel)
theorem lt_6_2 {a : Nat} (h : kd a = 6) : ln (rf a 2) = 40 := lt_of h (by decide) (by decide +kernel)
theorem kt_7_0 {a : Nat} (h : kd a = 7) : kd (rf a 0) = 8 := kt_of h (by decide) (by decide +kernel)
theorem kt_7_1 {a : Nat} (h : kd a = 7) : kd (rf a 1) = 6 := kt_of h (by decide) (by decide +kernel)
theorem kt_8_0 {a : Nat} (h : kd a = 8) : kd (rf a 0) = 20 := kt_of h (by decide) (by decide +kernel)
theorem lt_8_0 {a : Nat} (h : kd a = 8) : ln (rf a 0) = 940 := lt_of h (by decide) (by decide +kernel)
theorem kt_8_4 {a : Nat} (h : kd a = 8) : kd (rf a 4) = 21 := kt_of h (by decide) (by decide +kernel)
theorem lt_8_4 {a : Nat} (h : kd a = 8) : ln (rf a 4) = 17 := lt_of h (by decide) (by decide +kernel)
theorem kt_8_5 {a : Nat} (h : kd a = 8) : kd (rf a 5) = 20 := kt_of h (by decide) (by decide +kernel)
theorem lt_8_5 {a : Nat} (h : kd a = 8) : ln (rf a 5) = 941 := lt_of h (by decide) (by decide +kernel)
theorem kt_8_6 {a : Nat} (h : kd a = 8) : kd (rf a 6) = 20 := kt_of h (by decide) (by decide +kernel)
theorem lt_8_6 {a : Nat} (h : kd a = 8) : ln (rf a 6) = 941 := lt_of h (by decide) (by decide +kernel)
theorem kt_8_7 {a : Nat} (h : kd a = 8) : kd (rf a 7) = 21 := kt_of h (by decide) (by decide +kernel)
theorem lt_8_7 {a : Nat} (h : kd a = 8) : ln (rf a 7) = 941 := lt_of h (by decide) (by decide +kernel)
theorem kt_9_2 {a : Nat} (h : kd a = 9) : kd (rf a 2) = 20 := kt_of h (by decide) (by decide +kernel)
theorem lt_9_2 {a : Nat} (h : kd a = 9) : ln (rf a 2) = 42 := lt_of h (by decide) (by decide +kernel)
theorem kt_9_4 {a : Nat} (h : kd a = 9) : kd (rf a 4) = 20 := kt_of h (by decide) (by decide +kernel)
theorem lt_9_4 {a : Nat} (h : kd a = 9) : ln (rf a 4) = 7 := lt_of h (by decide) (by decide +kernel)
theorem kt_9_6 {a : Nat} (h : kd a = 9) : kd (rf a 6) = 20 := kt_of h (by decide) (by decide +kernel)
theorem lt_9_6 {a : Nat} (h : kd a = 9) : ln (rf a 6) = 6 := lt_of h (by decide) (by decide +kernel)
theorem kt_9_7 {a : Nat} (h : kd a = 9) : kd (rf a 7) = 20 := kt_of h (by decide) (by decide +kernel)
theorem lt_9_7 {a : Nat} (h : kd a = 9) : ln (rf a 7) = 6 := lt_of h (by decide) (by decide +kernel)
theorem kt_9_8 {a : Nat} (h : kd a = 9) : kd (rf a 8) = 20 := kt_of h (by decide) (by decide +kernel)
theorem lt_9_8 {a : Nat} (h : kd a = 9) : ln (rf a 8) = 7 := lt_of h (by decide) (by decide +kernel)
theorem kt_9_9 {a : Nat} (h : kd a = 9) : kd (rf a 9) = 20 := kt_of h (by decide) (by decide +kernel)
theorem lt_9_9 {a : Nat} (h : kd a = 9) : ln (rf a 9) = 42 := lt_of h (by decide) (by decide +kernel)
theorem kt_10_1 {a : Nat} (h : kd a = 10) : kd (rf a 1) = 20 := kt_of h (by decide) (by decide +kernel)
theorem lt_10_1 {a : Nat} (h : kd a = 10) : ln (rf a 1) = 6 := lt_of h (by decide) (by decide +kernel)
theorem kt_10_2 {a : Nat} (h : kd a = 10) : kd (rf a 2) = 20 := kt_of h (by decide) (by decide +kernel)
theorem lt_10_2 {a : Nat} (h : kd a = 10) : ln (rf a 2) = 6 := lt_of h (by decide) (by decide +kernel)
theorem kt_10_3 {a : Nat} (h : kd a = 10) : kd (rf a 3) = 20 := kt_of h (by decide) (by decide +kernel)
theorem lt_10_3 {a : Nat} (h : kd a = 10) : ln (rf a 3) = 36 := lt_of h (by decide) (by decide +kernel)
theorem kt_10_5 {a : Nat} (h : kd a = 10) : kd (rf a 5) = 20 := kt_of h (by decide) (by decide +kernel)
theorem lt_10_5 {a : Nat} (h : kd a = 10) : ln (rf a 5) = 48 := lt_of h (by decide) (by decide +kernel)
theorem kt_10_6 {a : Nat} (h : kd a = 10) : kd (rf a 6) = 20 := kt_of h (by decide) (by decide +kernel)
theorem lt_10_6 {a : Nat} (h : kd a = 10) : ln (rf a 6) = 8 := lt_of h (by decide) (by decide +kernel)
theorem kt_10_7 {a : Nat} (h : kd a = 10) : kd (rf a 7) = 20 := kt_of h (by decide) (by decide +kernel)
theorem lt_10_7 {a : Nat} (h : kd a = 10) : ln (rf a 7) = 8 := lt_of h (by decide) (by decide +kernel)
theorem kt_10_8 {a : Nat} (h : kd a = 10) : kd (rf a 8) = 20 := kt_of h (by decide) (by decide +kernel)
theorem lt_10_8 {a : Nat} (h : kd a = 10) : ln (rf a 8) = 8 := lt_of h (by decide) (by decide +kernel)
theorem kt_11_0 {a : Nat} (h : kd a = 11) : kd (rf a 0) = 8 := kt_of h (by decide) (by decide +kernel)
theorem kt_11_1 {a : Nat} (h : kd a = 11) : kd (rf a 1) = 2 := kt_of h (by decide) (by decide +kernel)
theorem kt_11_2 {a : Nat} (h : kd a = 11) : kd (rf a 2) = 3 := kt_of h (by decide) (by decide +kernel)
theorem kt_11_3 {a : Nat} (h : kd a = 11) : kd (rf a 3) = 10 := kt_of h (by decide) (by decide +kernel)
theorem kt_11_4 {a : Nat} (h : kd a = 11) : kd (rf a 4) = 6 := kt_of h (by decide) (by decide +kernel)
theorem kt_11_5 {a : Nat} (h : kd a = 11) : kd (rf a 5) = 7 := kt_of h (by decide) (by decide +kernel)
theorem kt_11_6 {a : Nat} (h : kd a = 11) : kd (rf a 6) = 5 := kt_of h (by decide) (by decide +kernel)
theorem kt_11_7 {a : Nat} (h : kd a = 11) : kd (rf a 7) = 23 := kt_of h (by decide) (by decide +kernel)
theorem lt_11_7 {a : Nat} (h : kd a = 11) : ln (rf a 7) = 8 := lt_of h (by decide) (by decide +kernel)
theorem kt_11_10 {a : Nat} (h : kd a = 11) : kd (rf a 10) = 24 := kt_of h (by decide) (by decide +kernel)
theorem lt_11_10 {a : Nat} (h : kd a = 11) : ln (rf a 10) = 2 := lt_of h (by decide) (by decide +kernel)
theorem kt_11_11 {a : Nat} (h : kd a = 11) : kd (rf a 11) = 23 := kt_of h (by decide) (by decide +kernel)
theorem lt_11_11 {a : Nat} (h : kd a = 11) : ln (rf a 11) = 2 := lt_of h (by decide) (by decide +kernel)
theorem kt_11_12 {a : Nat} (h : kd a = 11) : kd (rf a 12) = 25 := kt_of h (by decide) (by decide +kernel)
theorem lt_11_12 {a : Nat} (h : kd a = 11) : ln (rf a 12) = 2 := lt_of h (by decide) (by decide +kernel)
theorem kt_11_13 {a : Nat} (h : kd a = 11) : kd (rf a 13) = 20 := kt_of h (by decide) (by decide +kernel)
theorem lt_11_13 {a : Nat} (h : kd a = 11) : ln (rf a 13) = 2 := lt_of h (by decide) (by decide +kernel)
theorem kt_11_14 {a : Nat} (h : kd a = 11) : kd (rf a 14) = 4 := kt_of h (by decide) (by decide +kernel)
theorem kt_11_15 {a : Nat} (h : kd a = 11) : kd (rf a 15) = 9 := kt_of h (by decide) (by decide +kernel)
theorem kt_11_16 {a : Nat} (h : kd a = 11) : kd (rf a 16) = 0 := kt_of h (by decide) (by decide +kernel)
theorem kt_11_17 {a : Nat} (h : kd a = 11) : kd (rf a 17) = 1 := kt_of h (by decide) (by decide +kernel)
theorem kt_11_18 {a : Nat} (h : kd a = 11) : kd (rf a 18) = 20 := kt_of h (by decide) (by decide +kernel)
theorem lt_11_18 {a : Nat} (h : kd a = 11) : ln (rf a 18) = 66 := lt_of h (by decide) (by decide +kernel)
theorem kt_12_1 {a : Nat} (h : kd a = 12) : kd (rf a 1) = 20 := kt_of h (by decide) (by decide +kernel)
theorem lt_12_1 {a : Nat} (h : kd a = 12) : ln (rf a 1) = 940 := lt_of h (by decide) (by decide +kernel)
theorem kt_12_14 {a : Nat} (h : kd a = 12) : kd (rf a 14) = 20 := kt_of h (by decide) (by decide +kernel)
theorem lt_12_14 {a : Nat} (h : kd a = 12) : ln (rf a 14) = 516 := lt_of h (by decide) (by decide +kernel)
theorem kt_12_15 {a : Nat} (h : kd a = 12) : kd (rf a 15) = 20 := kt_of h (by decide) (by decide +kernel)
theorem lt_12_15 {a : Nat} (h : kd a = 12) : ln (rf a 15) = 144 := lt_of h (by decide) (by decide +kernel)
theorem kt_12_16 {a : Nat} (h : kd a = 12) : kd (rf a 16) = 20 := kt_of h (by decide) (by decide +kernel)
theorem lt_12_16 {a : Nat} (h : kd a = 12) : ln (rf a 16) = 1032 := lt_of h (by decide) (by decide +kernel)
theorem kt_12_17 {a : Nat} (h : kd a = 12) : kd (rf a 17) = 20 := kt_of h (by decide) (by decide +kernel)
theorem lt_12_17 {a : Nat} (h : kd a = 12) : ln (rf a 17) = 1040 := lt_of h (by decide) (by decide +kernel)
theorem kt_12_18 {a : Nat} (h : kd a = 12) : kd (rf a 18) = 20 := kt_of h (by decide) (by decide +kernel)
theorem lt_12_18 {a : Nat} (h : kd a = 12) : ln (rf a 18) = 130 := lt_of h (by decide) (by decide +kernel)
theorem kt_12_19 {a : Nat} (h : kd a = 12) : kd (rf a 19) = 21 := kt_of h (by decide) (by decide +kernel)
theorem lt_12_19 {a : Nat} (h : kd a = 12) : ln (rf a 19) = 18 := lt_of h (by decide) (by decide +kernel)
theorem kt_12_20 {a : Nat} (h : kd a = 12) : kd (rf a 20) = 21 := kt_of h (by decide) (by decide +kernel)
theorem lt_12_20 {a : Nat} (h : kd a = 12) : ln (rf a 20) = 18 := lt_of h (by decide) (by decide +kernel)
theorem kt_12_21 {a : Nat} (h : kd a = 12) : kd (rf a 21) = 21 := kt_of h (by decide) (by decide +kernel)
theorem lt_12_21 {a : Nat} (h : kd a = 12) : ln (rf a 21) = 36 := lt_of h (by decide) (by decide +kernel)
theorem kt_12_22 {a : Nat} (h : kd a = 12) : kd (rf a 22) = 22 := kt_of h (by decide) (by decide +kernel)
theorem lt_12_22 {a : Nat} (h : kd a = 12) : ln (rf a 22) = 2 := lt_of h (by decide) (by decide +kernel)
theorem kt_12_24 {a : Nat} (h : kd a = 12) : kd (rf a 24) = 20 := kt_of h (by decide) (by decide +kernel)
theorem lt_12_24 {a : Nat} (h : kd a = 12) : ln (rf a 24) = 54 := lt_of h (by decide) (by decide +kernel)
theorem kt_12_25 {a : Nat} (h : kd a = 12) : kd (rf a 25) = 20 := kt_of h (by decide) (by decide +kernel)
theorem lt_12_25 {a : Nat} (h : kd a = 12) : ln (rf a 25) = 8 := lt_of h (by decide) (by decide +kernel)
theorem kt_12_26 {a : Nat} (h : kd a = 12) : kd (rf a 26) = 20 := kt_of h (by decide) (by decide +kernel)
theorem lt_12_26 {a : Nat} (h : kd a = 12) : ln (rf a 26) = 8 := lt_of h (by decide) (by decide +kernel)
theorem kt_12_27 {a : Nat} (h : kd a = 12) : kd (rf a 27) = 22 := kt_of h (by decide) (by decide +kernel)
theorem lt_12_27 {a : Nat} (h : kd a = 12) : ln (rf a 27) = 256 := lt_of h (by decide) (by decide +kernel)
theorem kt_12_28 {a : Nat} (h : kd a = 12) : kd (rf a 28) = 20 := kt_of h (by decide) (by decide +kernel)
theorem lt_12_28 {a : Nat} (h : kd a = 12) : ln (rf a 28) = 256 := lt_of h (by decide) (by decide +kernel)
theorem kt_12_31 {a : Nat} (h : kd a = 12) : kd (rf a 31) = 20 := kt_of h (by decide) (by decide +kernel)
theorem lt_12_31 {a : Nat} (h : kd a = 12) : ln (rf a 31) = 8 := lt_of h (by decide) (by decide +kernel)
theorem kt_12_32 {a : Nat} (h : kd a = 12) : kd (rf a 32) = 20 := kt_of h (by decide) (by decide +kernel)
theorem lt_12_32 {a : Nat} (h : kd a = 12) : ln (rf a 32) = 6 := lt_of h (by decide) (by decide +kernel)
theorem kt_12_34 {a : Nat} (h : kd a = 12) : kd (rf a 34) = 20 := kt_of h (by decide) (by decide +kernel)
theorem lt_12_34 {a : Nat} (h : kd a = 12) : ln (rf a 34) = 6 := lt_of h (by decide) (by decide +kernel)
theorem kt_12_35 {a : Nat} (h : kd a = 12) : kd (rf a 35) = 20 := kt_of h (by decide) (by decide +kernel)
theorem lt_12_35 {a : Nat} (h : kd a = 12) : ln (rf a 35) = 36 := lt_of h (by decide) (by decide +kernel)
theorem kt_12_36 {a : Nat} (h : kd a = 12) : kd (rf a 36) = 20 := kt_of h (by decide) (by decide +kernel)
theorem lt_12_36 {a : Nat} (h : kd a = 12) : ln (rf a 36) = 6 := lt_of h (by decide) (by decide +kernel)
theorem kt_12_37 {a : Nat} (h : kd a = 12) : kd (rf a 37) = 20 := kt_of h (by decide) (by decide +kernel)
theorem lt_12_37 {a : Nat} (h : kd a = 12) : ln (rf a 37) = 6 := lt_of h (by decide) (by decide +kernel)
theorem kt_12_38 {a : Nat} (h : kd a = 12) : kd (rf a 38) = 20 := kt_of h (by decide) (by decide +kernel)
theorem lt_12_38 {a : Nat} (h : kd a = 12) : ln (rf a 38) = 6 := lt_of h (by decide) (by decide +kernel)
theorem kt_12_42 {a : Nat} (h : kd a = 12) : kd (rf a 42) = 20 := kt_of h (by decide) (by decide +kernel)
theorem lt_12_42 {a : Nat} (h : kd a = 12) : ln (rf a 42) = 36 := lt_of h (by decide) (by decide +kernel)
theorem kt_12_43 {a : Nat} (h : kd a = 12) : kd (rf a 43) = 20 := kt_of h (by decide) (by decide +kernel)
theorem lt_12_43 {a : Nat} (h : kd a = 12) : ln (rf a 43) = 40 := lt_of h (by decide) (by decide +kernel)
theorem kt_12_51 {a : Nat} (h : kd a = 12) : kd (rf a 51) = 20 := kt_of h (by decide) (by decide +kernel)
theorem lt_12_51 {a : Nat} (h : kd a = 12) : ln (rf a 51) = 3 := lt_of h (by decide) (by decide +kernel)
theorem kt_12_52 {a : Nat} (h : kd a = 12) : kd (rf a 52) = 20 := kt_of h (by decide) (by decide +kernel)
theorem lt_12_52 {a : Nat} (h : kd a = 12) : ln (rf a 52) = 80 := lt_of h (by decide) (by decide +kernel)
theorem kt_12_53 {a : Nat} (h : kd a = 12) : kd (rf a 53) = 20 := kt_of h (by decide) (by decide +kernel)
theorem lt_12_53 {a : Nat} (h : kd a = 12) : ln (rf a 53) = 7 := lt_of h (by decide) (by decide +kernel)
theorem kt_12_55 {a : Nat} (h : kd a = 12) : kd (rf a 55) = 20 := kt_of h (by decide) (by decide +kernel)
theorem lt_12_55 {a : Nat} (h : kd a = 12) : ln (rf a 55) = 240 := lt_of h (by decide) (by decide +kernel)
