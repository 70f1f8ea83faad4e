theorem sT1 : ∀ w ∈ tables_1_1, w ∈ tables_1 := fun w h => by unfold tables_1; exact List.mem_append_left _ h
theorem TQ1 (i : Nat) {w : Cond} (hi : tables_1_1[i]? = some w) (hg : goodWord w = true) : w ∈ TT := TT_in (List.mem_append_right _ (sT1 w (List.mem_of_getElem? hi))) hg
theorem NQ1 (i : Nat) {w : Cond} (hi : tables_1_1[i]? = some w) (hg : isNest w = true) : w ∈ NW := List.mem_filter.mpr ⟨sT1 w (List.mem_of_getElem? hi), hg⟩
theorem sT2 : ∀ w ∈ tables_1_2, w ∈ tables_1 := fun w h => by unfold tables_1; exact List.mem_append_right _ (List.mem_append_left _ h)
theorem TQ2 (i : Nat) {w : Cond} (hi : tables_1_2[i]? = some w) (hg : goodWord w = true) : w ∈ TT := TT_in (List.mem_append_right _ (sT2 w (List.mem_of_getElem? hi))) hg
theorem NQ2 (i : Nat) {w : Cond} (hi : tables_1_2[i]? = some w) (hg : isNest w = true) : w ∈ NW := List.mem_filter.mpr ⟨sT2 w (List.mem_of_getElem? hi), hg⟩
theorem sT3 : ∀ w ∈ tables_1_3, w ∈ tables_1 := fun w h => by unfold tables_1; exact List.mem_append_right _ (List.mem_append_right _ (List.mem_append_left _ h))
theorem TQ3 (i : Nat) {w : Cond} (hi : tables_1_3[i]? = some w) (hg : goodWord w = true) : w ∈ TT := TT_in (List.mem_append_right _ (sT3 w (List.mem_of_getElem? hi))) hg
theorem NQ3 (i : Nat) {w : Cond} (hi : tables_1_3[i]? = some w) (hg : isNest w = true) : w ∈ NW := List.mem_filter.mpr ⟨sT3 w (List.mem_of_getElem? hi), hg⟩
theorem sT4 : ∀ w ∈ tables_1_4, w ∈ tables_1 := fun w h => by unfold tables_1; exact List.mem_append_right _ (List.mem_append_right _ (List.mem_append_right _ (List.mem_append_left _ h)))
theorem TQ4 (i : Nat) {w : Cond} (hi : tables_1_4[i]? = some w) (hg : goodWord w = true) : w ∈ TT := TT_in (List.mem_append_right _ (sT4 w (List.mem_of_getElem? hi))) hg
theorem NQ4 (i : Nat) {w : Cond} (hi : tables_1_4[i]? = some w) (hg : isNest w = true) : w ∈ NW := List.mem_filter.mpr ⟨sT4 w (List.mem_of_getElem? hi), hg⟩
theorem sT5 : ∀ w ∈ tables_1_5, w ∈ tables_1 := fun w h => by unfold tables_1; exact List.mem_append_right _ (List.mem_append_right _ (List.mem_append_right _ (List.mem_append_right _ (List.mem_append_left _ h))))
theorem TQ5 (i : Nat) {w : Cond} (hi : tables_1_5[i]? = some w) (hg : goodWord w = true) : w ∈ TT := TT_in (List.mem_append_right _ (sT5 w (List.mem_of_getElem? hi))) hg
theorem NQ5 (i : Nat) {w : Cond} (hi : tables_1_5[i]? = some w) (hg : isNest w = true) : w ∈ NW := List.mem_filter.mpr ⟨sT5 w (List.mem_of_getElem? hi), hg⟩
theorem sT6 : ∀ w ∈ tables_1_6, w ∈ tables_1 := fun w h => by unfold tables_1; exact List.mem_append_right _ (List.mem_append_right _ (List.mem_append_right _ (List.mem_append_right _ (List.mem_append_right _ (List.mem_append_left _ h)))))
theorem TQ6 (i : Nat) {w : Cond} (hi : tables_1_6[i]? = some w) (hg : goodWord w = true) : w ∈ TT := TT_in (List.mem_append_right _ (sT6 w (List.mem_of_getElem? hi))) hg
theorem NQ6 (i : Nat) {w : Cond} (hi : tables_1_6[i]? = some w) (hg : isNest w = true) : w ∈ NW := List.mem_filter.mpr ⟨sT6 w (List.mem_of_getElem? hi), hg⟩
theorem sT7 : ∀ w ∈ tables_1_7, w ∈ tables_1 := fun w h => by unfold tables_1; exact List.mem_append_right _ (List.mem_append_right _ (List.mem_append_right _ (List.mem_append_right _ (List.mem_append_right _ (List.mem_append_right _ (List.mem_append_left _ h))))))
theorem TQ7 (i : Nat) {w : Cond} (hi : tables_1_7[i]? = some w) (hg : goodWord w = true) : w ∈ TT := TT_in (List.mem_append_right _ (sT7 w (List.mem_of_getElem? hi))) hg
theorem NQ7 (i : Nat) {w : Cond} (hi : tables_1_7[i]? = some w) (hg : isNest w = true) : w ∈ NW := List.mem_filter.mpr ⟨sT7 w (List.mem_of_getElem? hi), hg⟩
theorem sT8 : ∀ w ∈ tables_1_8, w ∈ tables_1 := fun w h => by unfold tables_1; exact List.mem_append_right _ (List.mem_append_right _ (List.mem_append_right _ (List.mem_append_right _ (List.mem_append_right _ (List.mem_append_right _ (List.mem_append_right _ (List.mem_append_left _ h)))))))
theorem TQ8 (i : Nat) {w : Cond} (hi : tables_1_8[i]? = some w) (hg : goodWord w = true) : w ∈ TT := TT_in (List.mem_append_right _ (sT8 w (List.mem_of_getElem? hi))) hg
theorem NQ8 (i : Nat) {w : Cond} (hi : tables_1_8[i]? = some w) (hg : isNest w = true) : w ∈ NW := List.mem_filter.mpr ⟨sT8 w (List.mem_of_getElem? hi), hg⟩
theorem sT9 : ∀ w ∈ tables_1_9, w ∈ tables_1 := fun w h => by unfold tables_1; exact List.mem_append_right _ (List.mem_append_right _ (List.mem_append_right _ (List.mem_append_right _ (List.mem_append_right _ (List.mem_append_right _ (List.mem_append_right _ (List.mem_append_right _ h)))))))
theorem TQ9 (i : Nat) {w : Cond} (hi : tables_1_9[i]? = some w) (hg : goodWord w = true) : w ∈ TT := TT_in (List.mem_append_right _ (sT9 w (List.mem_of_getElem? hi))) hg
theorem NQ9 (i : Nat) {w : Cond} (hi : tables_1_9[i]? = some w) (hg : isNest w = true) : w ∈ NW := List.mem_filter.mpr ⟨sT9 w (List.mem_of_getElem? hi), hg⟩
theorem ml_L_18 : Cond.methodLink RL 18 yX11_init ∈ TT := (TQ1 27 rfl rfl)
theorem ml_X11_11 : Cond.methodLink RX11 11 yX8_init ∈ TT := (TQ1 35 rfl rfl)
theorem ml_X8_17 : Cond.methodLink RX8 17 yJ0_length_8abf5 ∈ TT := (TQ1 40 rfl rfl)
theorem ml_J0_335 : Cond.methodLink RJ0 335 yJ0_coder_7d493 ∈ TT := (TQ1 44 rfl rfl)
theorem ml_X8_36 : Cond.methodLink RX8 36 yX8_keyWord ∈ TT := (TQ1 50 rfl rfl)
theorem ml_X8_104 : Cond.methodLink RX8 104 yJ0_charAt_5068e ∈ TT := (TQ1 53 rfl rfl)
theorem ml_J0_492 : Cond.methodLink RJ0 492 yJ0_isLatin1_aae02 ∈ TT := (TQ1 57 rfl rfl)
theorem ml_J0_495 : Cond.methodLink RJ0 495 yJ1_charAt_3b067 ∈ TT := (TQ1 61 rfl rfl)
theorem ml_J1_9 : Cond.methodLink RJ1 9 yJ0_checkIndex_df160 ∈ TT := (TQ1 64 rfl rfl)
theorem ml_J0_1059 : Cond.methodLink RJ0 1059 yJ3_checkIndex_8e157 ∈ TT := (TQ1 69 rfl rfl)
theorem ml_J0_498 : Cond.methodLink RJ0 498 yJ2_charAt_3b067 ∈ TT := (TQ1 72 rfl rfl)
theorem ml_J2_67 : Cond.methodLink RJ2 67 yJ2_checkIndex_2214a ∈ TT := (TQ1 75 rfl rfl)
theorem ml_J2_48 : Cond.methodLink RJ2 48 yJ2_length_9d52b ∈ TT := (TQ1 78 rfl rfl)
theorem ml_J2_414 : Cond.methodLink RJ2 414 yJ0_checkIndex_df160 ∈ TT := (TQ1 81 rfl rfl)
theorem ml_J2_71 : Cond.methodLink RJ2 71 yJ2_getChar_3b067 ∈ TT := (TQ1 82 rfl rfl)
theorem fl_X8_9 : Cond.fieldLink RX8 9 (TX8 0).1 (TX8 0).2.1 (TX8 0).2.2.1 ∈ TT := (TQ1 91 rfl rfl)
theorem fl_X9_54 : Cond.fieldLink RX9 54 (TX8 0).1 (TX8 0).2.1 (TX8 0).2.2.1 ∈ TT := (TQ1 92 rfl rfl)
theorem fl_X0_68 : Cond.fieldLink RX0 68 (TX8 0).1 (TX8 0).2.1 (TX8 0).2.2.1 ∈ TT := (TQ1 93 rfl rfl)
theorem fl_X4_92 : Cond.fieldLink RX4 92 (TX8 0).1 (TX8 0).2.1 (TX8 0).2.2.1 ∈ TT := (TQ1 94 rfl rfl)
theorem fl_X11_110 : Cond.fieldLink RX11 110 (TX8 1).1 (TX8 1).2.1 (TX8 1).2.2.1 ∈ TT := (TQ1 95 rfl rfl)
theorem fl_X8_40 : Cond.fieldLink RX8 40 (TX8 1).1 (TX8 1).2.1 (TX8 1).2.2.1 ∈ TT := (TQ1 96 rfl rfl)
theorem fl_X9_49 : Cond.fieldLink RX9 49 (TX8 1).1 (TX8 1).2.1 (TX8 1).2.2.1 ∈ TT := (TQ1 97 rfl rfl)
theorem fl_X4_87 : Cond.fieldLink RX4 87 (TX8 1).1 (TX8 1).2.1 (TX8 1).2.2.1 ∈ TT := (TQ1 98 rfl rfl)
theorem fl_X8_53 : Cond.fieldLink RX8 53 (TX8 2).1 (TX8 2).2.1 (TX8 2).2.2.1 ∈ TT := (TQ1 99 rfl rfl)
theorem fl_X11_122 : Cond.fieldLink RX11 122 (TX8 2).1 (TX8 2).2.1 (TX8 2).2.2.1 ∈ TT := (TQ1 100 rfl rfl)
theorem fl_X8_56 : Cond.fieldLink RX8 56 (TX8 3).1 (TX8 3).2.1 (TX8 3).2.2.1 ∈ TT := (TQ1 101 rfl rfl)
theorem fl_X11_125 : Cond.fieldLink RX11 125 (TX8 3).1 (TX8 3).2.1 (TX8 3).2.2.1 ∈ TT := (TQ1 102 rfl rfl)
theorem fl_X8_23 : Cond.fieldLink RX8 23 (TX8 4).1 (TX8 4).2.1 (TX8 4).2.2.1 ∈ TT := (TQ1 103 rfl rfl)
theorem fl_X8_27 : Cond.fieldLink RX8 27 (TX8 5).1 (TX8 5).2.1 (TX8 5).2.2.1 ∈ TT := (TQ1 104 rfl rfl)
theorem fl_X8_30 : Cond.fieldLink RX8 30 (TX8 6).1 (TX8 6).2.1 (TX8 6).2.2.1 ∈ TT := (TQ1 105 rfl rfl)
theorem fl_X8_33 : Cond.fieldLink RX8 33 (TX8 7).1 (TX8 7).2.1 (TX8 7).2.2.1 ∈ TT := (TQ1 106 rfl rfl)
theorem fl_X8_59 : Cond.fieldLink RX8 59 (TX8 8).1 (TX8 8).2.1 (TX8 8).2.2.1 ∈ TT := (TQ1 107 rfl rfl)
theorem fl_X8_69 : Cond.fieldLink RX8 69 (TX8 9).1 (TX8 9).2.1 (TX8 9).2.2.1 ∈ TT := (TQ1 108 rfl rfl)
theorem fl_X5_21 : Cond.fieldLink RX5 21 (TX8 10).1 (TX8 10).2.1 (TX8 10).2.2.1 ∈ TT := (TQ1 109 rfl rfl)
theorem fl_X7_39 : Cond.fieldLink RX7 39 (TX8 10).1 (TX8 10).2.1 (TX8 10).2.2.1 ∈ TT := (TQ1 110 rfl rfl)
theorem fl_X3_44 : Cond.fieldLink RX3 44 (TX8 10).1 (TX8 10).2.1 (TX8 10).2.2.1 ∈ TT := (TQ1 111 rfl rfl)
theorem fl_X8_72 : Cond.fieldLink RX8 72 (TX8 10).1 (TX8 10).2.1 (TX8 10).2.2.1 ∈ TT := (TQ1 112 rfl rfl)
theorem fl_X5_36 : Cond.fieldLink RX5 36 (TX8 11).1 (TX8 11).2.1 (TX8 11).2.2.1 ∈ TT := (TQ1 113 rfl rfl)
theorem fl_X3_94 : Cond.fieldLink RX3 94 (TX8 11).1 (TX8 11).2.1 (TX8 11).2.2.1 ∈ TT := (TQ1 114 rfl rfl)
theorem fl_X7_76 : Cond.fieldLink RX7 76 (TX8 11).1 (TX8 11).2.1 (TX8 11).2.2.1 ∈ TT := (TQ1 115 rfl rfl)
theorem fl_X8_118 : Cond.fieldLink RX8 118 (TX8 11).1 (TX8 11).2.1 (TX8 11).2.2.1 ∈ TT := (TQ1 116 rfl rfl)
theorem nl_X11_18 : Cond.methodLinkNest RX11 18 yX2_init "ScentCourt" ∈ NW := (NQ1 147 rfl rfl)
theorem fl_X2_13 : Cond.fieldLink RX2 13 (TX2 0).1 (TX2 0).2.1 (TX2 0).2.2.1 ∈ TT := (TQ1 153 rfl rfl)
theorem fl_X0_31 : Cond.fieldLink RX0 31 (TX2 0).1 (TX2 0).2.1 (TX2 0).2.2.1 ∈ TT := (TQ1 154 rfl rfl)
theorem fl_X9_34 : Cond.fieldLink RX9 34 (TX2 0).1 (TX2 0).2.1 (TX2 0).2.2.1 ∈ TT := (TQ1 155 rfl rfl)
theorem fl_X3_59 : Cond.fieldLink RX3 59 (TX2 0).1 (TX2 0).2.1 (TX2 0).2.2.1 ∈ TT := (TQ1 156 rfl rfl)
theorem fl_X1_63 : Cond.fieldLink RX1 63 (TX2 0).1 (TX2 0).2.1 (TX2 0).2.2.1 ∈ TT := (TQ1 157 rfl rfl)
theorem fl_X10_76 : Cond.fieldLink RX10 76 (TX2 0).1 (TX2 0).2.1 (TX2 0).2.2.1 ∈ TT := (TQ1 158 rfl rfl)
theorem fl_X11_260 : Cond.fieldLink RX11 260 (TX2 0).1 (TX2 0).2.1 (TX2 0).2.2.1 ∈ TT := (TQ1 159 rfl rfl)
theorem fl_X2_18 : Cond.fieldLink RX2 18 (TX2 1).1 (TX2 1).2.1 (TX2 1).2.2.1 ∈ TT := (TQ1 160 rfl rfl)
theorem fl_X2_22 : Cond.fieldLink RX2 22 (TX2 2).1 (TX2 2).2.1 (TX2 2).2.2.1 ∈ TT := (TQ1 161 rfl rfl)
theorem fl_X3_101 : Cond.fieldLink RX3 101 (TX2 2).1 (TX2 2).2.1 (TX2 2).2.2.1 ∈ TT := (TQ1 162 rfl rfl)
theorem fl_X9_102 : Cond.fieldLink RX9 102 (TX2 2).1 (TX2 2).2.1 (TX2 2).2.2.1 ∈ TT := (TQ1 163 rfl rfl)
theorem fl_X11_158 : Cond.fieldLink RX11 158 (TX2 2).1 (TX2 2).2.1 (TX2 2).2.2.1 ∈ TT := (TQ1 164 rfl rfl)
theorem fl_X10_98 : Cond.fieldLink RX10 98 (TX2 2).1 (TX2 2).2.1 (TX2 2).2.2.1 ∈ TT := (TQ1 165 rfl rfl)
theorem fl_X2_25 : Cond.fieldLink RX2 25 (TX2 3).1 (TX2 3).2.1 (TX2 3).2.2.1 ∈ TT := (TQ1 166 rfl rfl)
theorem fl_X9_75 : Cond.fieldLink RX9 75 (TX2 3).1 (TX2 3).2.1 (TX2 3).2.2.1 ∈ TT := (TQ1 167 rfl rfl)
theorem fl_X11_151 : Cond.fieldLink RX11 151 (TX2 3).1 (TX2 3).2.1 (TX2 3).2.2.1 ∈ TT := (TQ1 168 rfl rfl)
theorem fl_X3_117 : Cond.fieldLink RX3 117 (TX2 3).1 (TX2 3).2.1 (TX2 3).2.2.1 ∈ TT := (TQ1 169 rfl rfl)
theorem fl_X2_28 : Cond.fieldLink RX2 28 (TX2 4).1 (TX2 4).2.1 (TX2 4).2.2.1 ∈ TT := (TQ1 170 rfl rfl)
theorem fl_X9_99 : Cond.fieldLink RX9 99 (TX2 4).1 (TX2 4).2.1 (TX2 4).2.2.1 ∈ TT := (TQ1 171 rfl rfl)
theorem fl_X3_120 : Cond.fieldLink RX3 120 (TX2 4).1 (TX2 4).2.1 (TX2 4).2.2.1 ∈ TT := (TQ1 172 rfl rfl)
theorem fl_X6_71 : Cond.fieldLink RX6 71 (TX2 4).1 (TX2 4).2.1 (TX2 4).2.2.1 ∈ TT := (TQ1 173 rfl rfl)
theorem fl_X11_167 : Cond.fieldLink RX11 167 (TX2 4).1 (TX2 4).2.1 (TX2 4).2.2.1 ∈ TT := (TQ1 174 rfl rfl)
theorem fl_X10_104 : Cond.fieldLink RX10 104 (TX2 4).1 (TX2 4).2.1 (TX2 4).2.2.1 ∈ TT := (TQ1 175 rfl rfl)
theorem fl_X2_31 : Cond.fieldLink RX2 31 (TX2 5).1 (TX2 5).2.1 (TX2 5).2.2.1 ∈ TT := (TQ1 176 rfl rfl)
theorem fl_X10_40 : Cond.fieldLink RX10 40 (TX2 5).1 (TX2 5).2.1 (TX2 5).2.2.1 ∈ TT := (TQ1 177 rfl rfl)
theorem fl_X0_77 : Cond.fieldLink RX0 77 (TX2 5).1 (TX2 5).2.1 (TX2 5).2.2.1 ∈ TT := (TQ1 178 rfl rfl)
theorem fl_X3_123 : Cond.fieldLink RX3 123 (TX2 5).1 (TX2 5).2.1 (TX2 5).2.2.1 ∈ TT := (TQ1 179 rfl rfl)
theorem fl_X2_34 : Cond.fieldLink RX2 34 (TX2 6).1 (TX2 6).2.1 (TX2 6).2.2.1 ∈ TT := (TQ1 180 rfl rfl)
theorem fl_X3_129 : Cond.fieldLink RX3 129 (TX2 6).1 (TX2 6).2.1 (TX2 6).2.2.1 ∈ TT := (TQ1 181 rfl rfl)
theorem fl_X2_37 : Cond.fieldLink RX2 37 (TX2 7).1 (TX2 7).2.1 (TX2 7).2.2.1 ∈ TT := (TQ1 182 rfl rfl)
theorem fl_X3_132 : Cond.fieldLink RX3 132 (TX2 7).1 (TX2 7).2.1 (TX2 7).2.2.1 ∈ TT := (TQ1 183 rfl rfl)
theorem ml_X11_25 : Cond.methodLink RX11 25 yX3_init ∈ TT := (TQ1 203 rfl rfl)
theorem nl_X3_11 : Cond.methodLinkNest RX3 11 yX2_init "ScentCourt" ∈ NW := (NQ1 208 rfl rfl)
theorem fl_X3_25 : Cond.fieldLink RX3 25 (TX3 0).1 (TX3 0).2.1 (TX3 0).2.2.1 ∈ TT := (TQ1 209 rfl rfl)
theorem fl_X3_12 : Cond.fieldLink RX3 12 (TX3 1).1 (TX3 1).2.1 (TX3 1).2.2.1 ∈ TT := (TQ1 210 rfl rfl)
theorem fl_X11_128 : Cond.fieldLink RX11 128 (TX3 1).1 (TX3 1).2.1 (TX3 1).2.2.1 ∈ TT := (TQ1 211 rfl rfl)
theorem fl_X3_18 : Cond.fieldLink RX3 18 (TX3 2).1 (TX3 2).2.1 (TX3 2).2.2.1 ∈ TT := (TQ1 212 rfl rfl)
theorem fl_X3_22 : Cond.fieldLink RX3 22 (TX3 3).1 (TX3 3).2.1 (TX3 3).2.2.1 ∈ TT := (TQ1 213 rfl rfl)
theorem nl_X11_34 : Cond.methodLinkNest RX11 34 yX10_init "ScentCourt" ∈ NW := (NQ1 225 rfl rfl)
theorem fl_X10_33 : Cond.fieldLink RX10 33 (TX10 0).1 (TX10 0).2.1 (TX10 0).2.2.1 ∈ TT := (TQ1 229 rfl rfl)
theorem fl_X11_227 : Cond.fieldLink RX11 227 (TX10 0).1 (TX10 0).2.1 (TX10 0).2.2.1 ∈ TT := (TQ1 230 rfl rfl)
theorem fl_X10_9 : Cond.fieldLink RX10 9 (TX10 1).1 (TX10 1).2.1 (TX10 1).2.2.1 ∈ TT := (TQ1 231 rfl rfl)
theorem fl_X5_56 : Cond.fieldLink RX5 56 (TX10 1).1 (TX10 1).2.1 (TX10 1).2.2.1 ∈ TT := (TQ1 232 rfl rfl)
theorem fl_X1_72 : Cond.fieldLink RX1 72 (TX10 1).1 (TX10 1).2.1 (TX10 1).2.2.1 ∈ TT := (TQ1 233 rfl rfl)
theorem fl_X6_60 : Cond.fieldLink RX6 60 (TX10 1).1 (TX10 1).2.1 (TX10 1).2.2.1 ∈ TT := (TQ1 234 rfl rfl)
theorem fl_X11_161 : Cond.fieldLink RX11 161 (TX10 1).1 (TX10 1).2.1 (TX10 1).2.2.1 ∈ TT := (TQ1 235 rfl rfl)
theorem fl_X10_15 : Cond.fieldLink RX10 15 (TX10 2).1 (TX10 2).2.1 (TX10 2).2.2.1 ∈ TT := (TQ1 236 rfl rfl)
theorem fl_X1_54 : Cond.fieldLink RX1 54 (TX10 2).1 (TX10 2).2.1 (TX10 2).2.2.1 ∈ TT := (TQ1 237 rfl rfl)
theorem fl_X5_66 : Cond.fieldLink RX5 66 (TX10 2).1 (TX10 2).2.1 (TX10 2).2.2.1 ∈ TT := (TQ1 238 rfl rfl)
theorem fl_X6_49 : Cond.fieldLink RX6 49 (TX10 2).1 (TX10 2).2.1 (TX10 2).2.2.1 ∈ TT := (TQ1 239 rfl rfl)
theorem fl_X11_164 : Cond.fieldLink RX11 164 (TX10 2).1 (TX10 2).2.1 (TX10 2).2.2.1 ∈ TT := (TQ2 0 rfl rfl)
theorem fl_X10_18 : Cond.fieldLink RX10 18 (TX10 3).1 (TX10 3).2.1 (TX10 3).2.2.1 ∈ TT := (TQ2 1 rfl rfl)
theorem fl_X5_69 : Cond.fieldLink RX5 69 (TX10 3).1 (TX10 3).2.1 (TX10 3).2.2.1 ∈ TT := (TQ2 2 rfl rfl)
theorem fl_X6_54 : Cond.fieldLink RX6 54 (TX10 3).1 (TX10 3).2.1 (TX10 3).2.2.1 ∈ TT := (TQ2 3 rfl rfl)
theorem fl_X11_170 : Cond.fieldLink RX11 170 (TX10 3).1 (TX10 3).2.1 (TX10 3).2.2.1 ∈ TT := (TQ2 4 rfl rfl)
theorem fl_X10_37 : Cond.fieldLink RX10 37 (TX10 4).1 (TX10 4).2.1 (TX10 4).2.2.1 ∈ TT := (TQ2 5 rfl rfl)
theorem fl_X4_40 : Cond.fieldLink RX4 40 (TX10 4).1 (TX10 4).2.1 (TX10 4).2.2.1 ∈ TT := (TQ2 6 rfl rfl)
theorem fl_X11_213 : Cond.fieldLink RX11 213 (TX10 4).1 (TX10 4).2.1 (TX10 4).2.2.1 ∈ TT := (TQ2 7 rfl rfl)
theorem fl_X10_21 : Cond.fieldLink RX10 21 (TX10 5).1 (TX10 5).2.1 (TX10 5).2.2.1 ∈ TT := (TQ2 8 rfl rfl)
theorem fl_X4_67 : Cond.fieldLink RX4 67 (TX10 5).1 (TX10 5).2.1 (TX10 5).2.2.1 ∈ TT := (TQ2 9 rfl rfl)
theorem fl_X11_183 : Cond.fieldLink RX11 183 (TX10 5).1 (TX10 5).2.1 (TX10 5).2.2.1 ∈ TT := (TQ2 10 rfl rfl)
theorem fl_X10_24 : Cond.fieldLink RX10 24 (TX10 6).1 (TX10 6).2.1 (TX10 6).2.2.1 ∈ TT := (TQ2 11 rfl rfl)
theorem fl_X11_186 : Cond.fieldLink RX11 186 (TX10 6).1 (TX10 6).2.1 (TX10 6).2.2.1 ∈ TT := (TQ2 12 rfl rfl)
theorem fl_X10_27 : Cond.fieldLink RX10 27 (TX10 7).1 (TX10 7).2.1 (TX10 7).2.2.1 ∈ TT := (TQ2 13 rfl rfl)
theorem fl_X11_189 : Cond.fieldLink RX11 189 (TX10 7).1 (TX10 7).2.1 (TX10 7).2.2.1 ∈ TT := (TQ2 14 rfl rfl)
theorem fl_X10_30 : Cond.fieldLink RX10 30 (TX10 8).1 (TX10 8).2.1 (TX10 8).2.2.1 ∈ TT := (TQ2 15 rfl rfl)
theorem fl_X11_192 : Cond.fieldLink RX11 192 (TX10 8).1 (TX10 8).2.1 (TX10 8).2.2.1 ∈ TT := (TQ2 16 rfl rfl)
theorem nl_X11_41 : Cond.methodLinkNest RX11 41 yX6_init "ScentCourt" ∈ NW := (NQ2 38 rfl rfl)
theorem fl_X6_9 : Cond.fieldLink RX6 9 (TX6 0).1 (TX6 0).2.1 (TX6 0).2.2.1 ∈ TT := (TQ2 42 rfl rfl)
theorem fl_X6_15 : Cond.fieldLink RX6 15 (TX6 1).1 (TX6 1).2.1 (TX6 1).2.2.1 ∈ TT := (TQ2 43 rfl rfl)
theorem fl_X6_18 : Cond.fieldLink RX6 18 (TX6 2).1 (TX6 2).2.1 (TX6 2).2.2.1 ∈ TT := (TQ2 44 rfl rfl)
theorem fl_X6_21 : Cond.fieldLink RX6 21 (TX6 3).1 (TX6 3).2.1 (TX6 3).2.2.1 ∈ TT := (TQ2 45 rfl rfl)
theorem ml_X11_48 : Cond.methodLink RX11 48 yX7_init ∈ TT := (TQ2 57 rfl rfl)
theorem nl_X7_11 : Cond.methodLinkNest RX7 11 yX6_init "ScentCourt" ∈ NW := (NQ2 62 rfl rfl)
theorem fl_X7_18 : Cond.fieldLink RX7 18 (TX7 0).1 (TX7 0).2.1 (TX7 0).2.2.1 ∈ TT := (TQ2 63 rfl rfl)
theorem fl_X7_12 : Cond.fieldLink RX7 12 (TX7 1).1 (TX7 1).2.1 (TX7 1).2.2.1 ∈ TT := (TQ2 64 rfl rfl)
theorem fl_X11_356 : Cond.fieldLink RX11 356 (TX7 1).1 (TX7 1).2.1 (TX7 1).2.2.1 ∈ TT := (TQ2 65 rfl rfl)
theorem fl_X7_25 : Cond.fieldLink RX7 25 (TX7 2).1 (TX7 2).2.1 (TX7 2).2.2.1 ∈ TT := (TQ2 66 rfl rfl)
theorem nl_X11_55 : Cond.methodLinkNest RX11 55 yX5_init "ScentCourt" ∈ NW := (NQ2 76 rfl rfl)
theorem fl_X5_9 : Cond.fieldLink RX5 9 (TX5 0).1 (TX5 0).2.1 (TX5 0).2.2.1 ∈ TT := (TQ2 80 rfl rfl)
theorem fl_X11_309 : Cond.fieldLink RX11 309 (TX5 0).1 (TX5 0).2.1 (TX5 0).2.2.1 ∈ TT := (TQ2 81 rfl rfl)
theorem nl_X11_81 : Cond.methodLinkNest RX11 81 yX4_init "ScentCourt" ∈ NW := (NQ2 90 rfl rfl)
theorem fl_X4_9 : Cond.fieldLink RX4 9 (TX4 0).1 (TX4 0).2.1 (TX4 0).2.2.1 ∈ TT := (TQ2 94 rfl rfl)
theorem fl_X11_257 : Cond.fieldLink RX11 257 (TX4 0).1 (TX4 0).2.1 (TX4 0).2.2.1 ∈ TT := (TQ2 95 rfl rfl)
theorem fl_X4_103 : Cond.fieldLink RX4 103 (TX4 1).1 (TX4 1).2.1 (TX4 1).2.2.1 ∈ TT := (TQ2 96 rfl rfl)
theorem fl_X11_253 : Cond.fieldLink RX11 253 (TX4 1).1 (TX4 1).2.1 (TX4 1).2.2.1 ∈ TT := (TQ2 97 rfl rfl)
theorem fl_X4_46 : Cond.fieldLink RX4 46 (TX4 2).1 (TX4 2).2.1 (TX4 2).2.2.1 ∈ TT := (TQ2 98 rfl rfl)
theorem fl_X4_15 : Cond.fieldLink RX4 15 (TX4 3).1 (TX4 3).2.1 (TX4 3).2.2.1 ∈ TT := (TQ2 99 rfl rfl)
theorem fl_X4_18 : Cond.fieldLink RX4 18 (TX4 4).1 (TX4 4).2.1 (TX4 4).2.2.1 ∈ TT := (TQ2 100 rfl rfl)
theorem fl_X4_21 : Cond.fieldLink RX4 21 (TX4 5).1 (TX4 5).2.1 (TX4 5).2.2.1 ∈ TT := (TQ2 101 rfl rfl)
theorem fl_X4_24 : Cond.fieldLink RX4 24 (TX4 6).1 (TX4 6).2.1 (TX4 6).2.2.1 ∈ TT := (TQ2 102 rfl rfl)
theorem fl_X4_27 : Cond.fieldLink RX4 27 (TX4 7).1 (TX4 7).2.1 (TX4 7).2.2.1 ∈ TT := (TQ2 103 rfl rfl)
theorem fl_X4_30 : Cond.fieldLink RX4 30 (TX4 8).1 (TX4 8).2.1 (TX4 8).2.2.1 ∈ TT := (TQ2 104 rfl rfl)
theorem nl_X11_88 : Cond.methodLinkNest RX11 88 yX9_init "ScentCourt" ∈ NW := (NQ2 126 rfl rfl)
theorem fl_X9_30 : Cond.fieldLink RX9 30 (TX9 0).1 (TX9 0).2.1 (TX9 0).2.2.1 ∈ TT := (TQ2 130 rfl rfl)
theorem fl_X11_267 : Cond.fieldLink RX11 267 (TX9 0).1 (TX9 0).2.1 (TX9 0).2.2.1 ∈ TT := (TQ2 131 rfl rfl)
theorem fl_X9_43 : Cond.fieldLink RX9 43 (TX9 1).1 (TX9 1).2.1 (TX9 1).2.2.1 ∈ TT := (TQ2 132 rfl rfl)
theorem fl_X11_270 : Cond.fieldLink RX11 270 (TX9 1).1 (TX9 1).2.1 (TX9 1).2.2.1 ∈ TT := (TQ2 133 rfl rfl)
theorem fl_X9_9 : Cond.fieldLink RX9 9 (TX9 2).1 (TX9 2).2.1 (TX9 2).2.2.1 ∈ TT := (TQ2 134 rfl rfl)
theorem fl_X11_273 : Cond.fieldLink RX11 273 (TX9 2).1 (TX9 2).2.1 (TX9 2).2.2.1 ∈ TT := (TQ2 135 rfl rfl)
theorem fl_X9_105 : Cond.fieldLink RX9 105 (TX9 3).1 (TX9 3).2.1 (TX9 3).2.2.1 ∈ TT := (TQ2 136 rfl rfl)
theorem fl_X11_276 : Cond.fieldLink RX11 276 (TX9 3).1 (TX9 3).2.1 (TX9 3).2.2.1 ∈ TT := (TQ2 137 rfl rfl)
theorem fl_X9_15 : Cond.fieldLink RX9 15 (TX9 4).1 (TX9 4).2.1 (TX9 4).2.2.1 ∈ TT := (TQ2 138 rfl rfl)
theorem fl_X11_279 : Cond.fieldLink RX11 279 (TX9 4).1 (TX9 4).2.1 (TX9 4).2.2.1 ∈ TT := (TQ2 139 rfl rfl)
theorem fl_X9_46 : Cond.fieldLink RX9 46 (TX9 5).1 (TX9 5).2.1 (TX9 5).2.2.1 ∈ TT := (TQ2 140 rfl rfl)
theorem fl_X9_18 : Cond.fieldLink RX9 18 (TX9 6).1 (TX9 6).2.1 (TX9 6).2.2.1 ∈ TT := (TQ2 141 rfl rfl)
theorem fl_X9_21 : Cond.fieldLink RX9 21 (TX9 7).1 (TX9 7).2.1 (TX9 7).2.2.1 ∈ TT := (TQ2 142 rfl rfl)
theorem fl_X9_24 : Cond.fieldLink RX9 24 (TX9 8).1 (TX9 8).2.1 (TX9 8).2.2.1 ∈ TT := (TQ2 143 rfl rfl)
theorem fl_X9_27 : Cond.fieldLink RX9 27 (TX9 9).1 (TX9 9).2.1 (TX9 9).2.2.1 ∈ TT := (TQ2 144 rfl rfl)
theorem nl_X11_95 : Cond.methodLinkNest RX11 95 yX0_init "ScentCourt" ∈ NW := (NQ2 168 rfl rfl)
theorem fl_X0_43 : Cond.fieldLink RX0 43 (TX0 0).1 (TX0 0).2.1 (TX0 0).2.2.1 ∈ TT := (TQ2 172 rfl rfl)
theorem fl_X11_285 : Cond.fieldLink RX11 285 (TX0 0).1 (TX0 0).2.1 (TX0 0).2.2.1 ∈ TT := (TQ2 173 rfl rfl)
theorem fl_X0_9 : Cond.fieldLink RX0 9 (TX0 1).1 (TX0 1).2.1 (TX0 1).2.2.1 ∈ TT := (TQ2 174 rfl rfl)
theorem fl_X11_288 : Cond.fieldLink RX11 288 (TX0 1).1 (TX0 1).2.1 (TX0 1).2.2.1 ∈ TT := (TQ2 175 rfl rfl)
theorem fl_X0_27 : Cond.fieldLink RX0 27 (TX0 2).1 (TX0 2).2.1 (TX0 2).2.2.1 ∈ TT := (TQ2 176 rfl rfl)
theorem fl_X0_40 : Cond.fieldLink RX0 40 (TX0 3).1 (TX0 3).2.1 (TX0 3).2.2.1 ∈ TT := (TQ2 177 rfl rfl)
theorem fl_X0_15 : Cond.fieldLink RX0 15 (TX0 4).1 (TX0 4).2.1 (TX0 4).2.2.1 ∈ TT := (TQ2 178 rfl rfl)
theorem fl_X0_18 : Cond.fieldLink RX0 18 (TX0 5).1 (TX0 5).2.1 (TX0 5).2.2.1 ∈ TT := (TQ2 179 rfl rfl)
theorem fl_X0_21 : Cond.fieldLink RX0 21 (TX0 6).1 (TX0 6).2.1 (TX0 6).2.2.1 ∈ TT := (TQ2 180 rfl rfl)
theorem fl_X0_24 : Cond.fieldLink RX0 24 (TX0 7).1 (TX0 7).2.1 (TX0 7).2.2.1 ∈ TT := (TQ2 181 rfl rfl)
theorem nl_X11_102 : Cond.methodLinkNest RX11 102 yX1_init "ScentCourt" ∈ NW := (NQ2 201 rfl rfl)
theorem nl_X1_11 : Cond.methodLinkNest RX1 11 yX10_init "ScentCourt" ∈ NW := (NQ2 206 rfl rfl)
theorem fl_X1_18 : Cond.fieldLink RX1 18 (TX1 0).1 (TX1 0).2.1 (TX1 0).2.2.1 ∈ TT := (TQ2 207 rfl rfl)
theorem fl_X11_320 : Cond.fieldLink RX11 320 (TX1 0).1 (TX1 0).2.1 (TX1 0).2.2.1 ∈ TT := (TQ2 208 rfl rfl)
theorem fl_X1_22 : Cond.fieldLink RX1 22 (TX1 1).1 (TX1 1).2.1 (TX1 1).2.2.1 ∈ TT := (TQ2 209 rfl rfl)
theorem fl_X11_323 : Cond.fieldLink RX11 323 (TX1 1).1 (TX1 1).2.1 (TX1 1).2.2.1 ∈ TT := (TQ2 210 rfl rfl)
theorem fl_X1_26 : Cond.fieldLink RX1 26 (TX1 2).1 (TX1 2).2.1 (TX1 2).2.2.1 ∈ TT := (TQ2 211 rfl rfl)
theorem fl_X11_326 : Cond.fieldLink RX11 326 (TX1 2).1 (TX1 2).2.1 (TX1 2).2.2.1 ∈ TT := (TQ2 212 rfl rfl)
theorem fl_X1_29 : Cond.fieldLink RX1 29 (TX1 3).1 (TX1 3).2.1 (TX1 3).2.2.1 ∈ TT := (TQ2 213 rfl rfl)
theorem fl_X11_329 : Cond.fieldLink RX11 329 (TX1 3).1 (TX1 3).2.1 (TX1 3).2.2.1 ∈ TT := (TQ2 214 rfl rfl)
theorem fl_X1_32 : Cond.fieldLink RX1 32 (TX1 4).1 (TX1 4).2.1 (TX1 4).2.2.1 ∈ TT := (TQ2 215 rfl rfl)
theorem fl_X1_12 : Cond.fieldLink RX1 12 (TX1 5).1 (TX1 5).2.1 (TX1 5).2.2.1 ∈ TT := (TQ2 216 rfl rfl)
theorem fl_X11_12 : Cond.fieldLink RX11 12 (TX11 0).1 (TX11 0).2.1 (TX11 0).2.2.1 ∈ TT := (TQ2 230 rfl rfl)
theorem fl_X11_19 : Cond.fieldLink RX11 19 (TX11 1).1 (TX11 1).2.1 (TX11 1).2.2.1 ∈ TT := (TQ2 231 rfl rfl)
theorem fl_X11_28 : Cond.fieldLink RX11 28 (TX11 2).1 (TX11 2).2.1 (TX11 2).2.2.1 ∈ TT := (TQ2 232 rfl rfl)
theorem fl_X11_35 : Cond.fieldLink RX11 35 (TX11 3).1 (TX11 3).2.1 (TX11 3).2.2.1 ∈ TT := (TQ2 233 rfl rfl)
theorem fl_X11_42 : Cond.fieldLink RX11 42 (TX11 4).1 (TX11 4).2.1 (TX11 4).2.2.1 ∈ TT := (TQ2 234 rfl rfl)
theorem fl_X11_49 : Cond.fieldLink RX11 49 (TX11 5).1 (TX11 5).2.1 (TX11 5).2.2.1 ∈ TT := (TQ2 235 rfl rfl)
theorem fl_X11_56 : Cond.fieldLink RX11 56 (TX11 6).1 (TX11 6).2.1 (TX11 6).2.2.1 ∈ TT := (TQ2 236 rfl rfl)
theorem fl_X11_60 : Cond.fieldLink RX11 60 (TX11 7).1 (TX11 7).2.1 (TX11 7).2.2.1 ∈ TT := (TQ2 237 rfl rfl)
theorem fl_X11_233 : Cond.fieldLink RX11 233 (TX11 8).1 (TX11 8).2.1 (TX11 8).2.2.1 ∈ TT := (TQ2 238 rfl rfl)
theorem fl_X11_230 : Cond.fieldLink RX11 230 (TX11 9).1 (TX11 9).2.1 (TX11 9).2.2.1 ∈ TT := (TQ2 239 rfl rfl)
theorem fl_X11_64 : Cond.fieldLink RX11 64 (TX11 10).1 (TX11 10).2.1 (TX11 10).2.2.1 ∈ TT := (TQ3 0 rfl rfl)
theorem fl_X11_68 : Cond.fieldLink RX11 68 (TX11 11).1 (TX11 11).2.1 (TX11 11).2.2.1 ∈ TT := (TQ3 1 rfl rfl)
theorem fl_X11_71 : Cond.fieldLink RX11 71 (TX11 12).1 (TX11 12).2.1 (TX11 12).2.2.1 ∈ TT := (TQ3 2 rfl rfl)
theorem fl_X11_75 : Cond.fieldLink RX11 75 (TX11 13).1 (TX11 13).2.1 (TX11 13).2.2.1 ∈ TT := (TQ3 3 rfl rfl)
theorem fl_X11_82 : Cond.fieldLink RX11 82 (TX11 14).1 (TX11 14).2.1 (TX11 14).2.2.1 ∈ TT := (TQ3 4 rfl rfl)
theorem fl_X11_89 : Cond.fieldLink RX11 89 (TX11 15).1 (TX11 15).2.1 (TX11 15).2.2.1 ∈ TT := (TQ3 5 rfl rfl)
theorem fl_X11_96 : Cond.fieldLink RX11 96 (TX11 16).1 (TX11 16).2.1 (TX11 16).2.2.1 ∈ TT := (TQ3 6 rfl rfl)
theorem fl_X11_103 : Cond.fieldLink RX11 103 (TX11 17).1 (TX11 17).2.1 (TX11 17).2.2.1 ∈ TT := (TQ3 7 rfl rfl)
theorem fl_X11_107 : Cond.fieldLink RX11 107 (TX11 18).1 (TX11 18).2.1 (TX11 18).2.2.1 ∈ TT := (TQ3 8 rfl rfl)
theorem fl_X11_336 : Cond.fieldLink RX11 336 (TX11 19).1 (TX11 19).2.1 (TX11 19).2.2.1 ∈ TT := (TQ3 9 rfl rfl)
theorem ml_L_22 : Cond.methodLink RL 22 yX11_feed ∈ TT := (TQ3 51 rfl rfl)
theorem ml_X11_114 : Cond.methodLink RX11 114 yX8_addFour ∈ TT := (TQ3 55 rfl rfl)
theorem nl_X8_43 : Cond.methodLinkNest RX8 43 yX11_put "ScentCourt" ∈ NW := (NQ3 59 rfl rfl)
theorem ml_X8_47 : Cond.methodLink RX8 47 Lib.Math.min.name ∈ TT := (TQ3 62 rfl rfl)
theorem ml_L_27 : Cond.methodLink RL 27 yX11_end ∈ TT := (TQ3 65 rfl rfl)
theorem ml_L_32 : Cond.methodLink RL 32 yX11_hill ∈ TT := (TQ3 69 rfl rfl)
theorem ml_X11_118 : Cond.methodLink RX11 118 yX3_read ∈ TT := (TQ3 73 rfl rfl)
theorem ml_X3_29 : Cond.methodLink RX3 29 yX2_clear ∈ TT := (TQ3 77 rfl rfl)
theorem ml_X2_40 : Cond.methodLink RX2 40 yJ7_fill_53178 ∈ TT := (TQ3 81 rfl rfl)
theorem ml_X2_46 : Cond.methodLink RX2 46 yJ7_fill_d0a16 ∈ TT := (TQ3 84 rfl rfl)
theorem ml_X3_32 : Cond.methodLink RX3 32 yJ7_fill_53178 ∈ TT := (TQ3 87 rfl rfl)
theorem ml_X3_38 : Cond.methodLink RX3 38 yX8_begin ∈ TT := (TQ3 88 rfl rfl)
theorem ml_X8_62 : Cond.methodLink RX8 62 yX8_readToken ∈ TT := (TQ3 92 rfl rfl)
theorem nl_X8_65 : Cond.methodLinkNest RX8 65 yX11_at "ScentCourt" ∈ NW := (NQ3 96 rfl rfl)
theorem ml_X8_75 : Cond.methodLink RX8 75 yX8_isBlank ∈ TT := (TQ3 99 rfl rfl)
theorem ml_X8_79 : Cond.methodLink RX8 79 yX8_addToken ∈ TT := (TQ3 102 rfl rfl)
theorem ml_X8_83 : Cond.methodLink RX8 83 yX8_isLetter ∈ TT := (TQ3 106 rfl rfl)
theorem ml_X8_86 : Cond.methodLink RX8 86 yX8_isDigit ∈ TT := (TQ3 109 rfl rfl)
theorem ml_X8_89 : Cond.methodLink RX8 89 yX8_readRun ∈ TT := (TQ3 112 rfl rfl)
theorem cl_X8_96 : Cond.constantLong RX8 96 (10) ∈ TT := (TQ3 116 rfl rfl)
theorem cl_X8_98 : Cond.constantLong RX8 98 (48) ∈ TT := (TQ3 117 rfl rfl)
theorem ml_X8_100 : Cond.methodLink RX8 100 yX8_kindOfWord ∈ TT := (TQ3 118 rfl rfl)
theorem ml_X8_93 : Cond.methodLink RX8 93 yX8_isSign ∈ TT := (TQ3 122 rfl rfl)
theorem ml_X3_48 : Cond.methodLink RX3 48 yX3_readLine ∈ TT := (TQ3 125 rfl rfl)
theorem ml_X3_56 : Cond.methodLink RX3 56 yX8_fail ∈ TT := (TQ3 129 rfl rfl)
theorem nl_X3_62 : Cond.methodLinkNest RX3 62 yX11_at "ScentCourt" ∈ NW := (NQ3 133 rfl rfl)
theorem ml_X3_69 : Cond.methodLink RX3 69 yX8_step ∈ TT := (TQ3 135 rfl rfl)
theorem ml_X3_72 : Cond.methodLink RX3 72 yX3_readScent ∈ TT := (TQ3 139 rfl rfl)
theorem ml_X3_90 : Cond.methodLink RX3 90 yX8_takeNew ∈ TT := (TQ3 143 rfl rfl)
theorem ml_X8_108 : Cond.methodLink RX8 108 yX8_fail ∈ TT := (TQ3 147 rfl rfl)
theorem ml_X8_114 : Cond.methodLink RX8 114 yX8_content ∈ TT := (TQ3 148 rfl rfl)
theorem ml_X8_127 : Cond.methodLink RX8 127 yX2_isTold ∈ TT := (TQ3 152 rfl rfl)
theorem ml_X2_69 : Cond.methodLink RX2 69 yX2_numberOf ∈ TT := (TQ3 156 rfl rfl)
theorem ml_X8_131 : Cond.methodLink RX8 131 yX2_tell ∈ TT := (TQ3 160 rfl rfl)
theorem nl_X2_65 : Cond.methodLinkNest RX2 65 yX11_at "ScentCourt" ∈ NW := (NQ3 164 rfl rfl)
theorem nl_X2_73 : Cond.methodLinkNest RX2 73 yX11_put "ScentCourt" ∈ NW := (NQ3 165 rfl rfl)
theorem ml_X8_111 : Cond.methodLink RX8 111 yX8_step ∈ TT := (TQ3 166 rfl rfl)
theorem ml_X3_97 : Cond.methodLink RX3 97 yX8_takeNumber ∈ TT := (TQ3 167 rfl rfl)
theorem nl_X3_104 : Cond.methodLinkNest RX3 104 yX11_put "ScentCourt" ∈ NW := (NQ3 171 rfl rfl)
theorem ml_X3_75 : Cond.methodLink RX3 75 yX3_readPlace ∈ TT := (TQ3 172 rfl rfl)
theorem ml_X3_108 : Cond.methodLink RX3 108 yX3_readSmell ∈ TT := (TQ3 176 rfl rfl)
theorem ml_X3_111 : Cond.methodLink RX3 111 yX8_takeTold ∈ TT := (TQ3 180 rfl rfl)
theorem ml_X8_121 : Cond.methodLink RX8 121 yX2_numberOf ∈ TT := (TQ3 184 rfl rfl)
theorem ml_X3_114 : Cond.methodLink RX3 114 yX8_failAtTaken ∈ TT := (TQ3 185 rfl rfl)
theorem ml_X3_78 : Cond.methodLink RX3 78 yX3_readWitness ∈ TT := (TQ3 189 rfl rfl)
theorem ml_X3_81 : Cond.methodLink RX3 81 yX3_readSmoke ∈ TT := (TQ3 193 rfl rfl)
theorem ml_X3_126 : Cond.methodLink RX3 126 yX3_addLine ∈ TT := (TQ3 197 rfl rfl)
theorem ml_X3_84 : Cond.methodLink RX3 84 yX3_readWent ∈ TT := (TQ3 201 rfl rfl)
theorem ml_X3_87 : Cond.methodLink RX3 87 yX3_readRain ∈ TT := (TQ3 205 rfl rfl)
theorem ml_X3_52 : Cond.methodLink RX3 52 yX8_take ∈ TT := (TQ3 209 rfl rfl)
theorem ml_X11_131 : Cond.methodLink RX11 131 yX2_copyFrom ∈ TT := (TQ3 213 rfl rfl)
theorem nl_X2_49 : Cond.methodLinkNest RX2 49 yX11_copy "ScentCourt" ∈ NW := (NQ3 217 rfl rfl)
theorem ml_X11_371 : Cond.methodLink RX11 371 Lib.Math.min.name ∈ TT := (TQ3 220 rfl rfl)
theorem ml_X2_53 : Cond.methodLink RX2 53 Lib.Math.min.name ∈ TT := (TQ3 224 rfl rfl)
theorem ml_X11_135 : Cond.methodLink RX11 135 yX10_begin ∈ TT := (TQ3 226 rfl rfl)
theorem nl_X10_45 : Cond.methodLinkNest RX10 45 yX11_copy "ScentCourt" ∈ NW := (NQ3 230 rfl rfl)
theorem ml_X10_49 : Cond.methodLink RX10 49 yJ7_fill_53178 ∈ TT := (TQ3 231 rfl rfl)
theorem ml_X11_138 : Cond.methodLink RX11 138 yX6_clear ∈ TT := (TQ3 232 rfl rfl)
theorem ml_X11_141 : Cond.methodLink RX11 141 yX11_forgetPast ∈ TT := (TQ3 236 rfl rfl)
theorem ml_L_37 : Cond.methodLink RL 37 yX11_fault ∈ TT := (TQ4 0 rfl rfl)
theorem ml_L_50 : Cond.methodLink RL 50 yX11_fade ∈ TT := (TQ4 4 rfl rfl)
theorem ml_X11_144 : Cond.methodLink RX11 144 yX2_has ∈ TT := (TQ4 8 rfl rfl)
theorem ml_X11_154 : Cond.methodLink RX11 154 yX11_at ∈ TT := (TQ4 12 rfl rfl)
theorem ml_L_58 : Cond.methodLink RL 58 yX11_coat ∈ TT := (TQ4 13 rfl rfl)
theorem ml_L_62 : Cond.methodLink RL 62 yX11_cloth ∈ TT := (TQ4 17 rfl rfl)
theorem ml_X11_179 : Cond.methodLink RX11 179 yX10_hasCloth ∈ TT := (TQ4 21 rfl rfl)
theorem ml_L_66 : Cond.methodLink RL 66 yX11_box ∈ TT := (TQ4 25 rfl rfl)
theorem ml_X11_176 : Cond.methodLink RX11 176 yX11_strongest ∈ TT := (TQ4 29 rfl rfl)
theorem ml_X11_173 : Cond.methodLink RX11 173 yX11_total ∈ TT := (TQ4 32 rfl rfl)
theorem ml_L_70 : Cond.methodLink RL 70 yX11_goes ∈ TT := (TQ4 35 rfl rfl)
theorem ml_X11_195 : Cond.methodLink RX11 195 yX11_keepPast ∈ TT := (TQ4 39 rfl rfl)
theorem ml_X11_236 : Cond.methodLink RX11 236 yX10_copyFrom ∈ TT := (TQ4 43 rfl rfl)
theorem ml_X11_198 : Cond.methodLink RX11 198 yX11_put ∈ TT := (TQ4 47 rfl rfl)
theorem ml_L_75 : Cond.methodLink RL 75 yX11_change ∈ TT := (TQ4 48 rfl rfl)
theorem ml_X11_202 : Cond.methodLink RX11 202 yX10_swap ∈ TT := (TQ4 52 rfl rfl)
theorem nl_X10_55 : Cond.methodLinkNest RX10 55 yX11_at "ScentCourt" ∈ NW := (NQ4 56 rfl rfl)
theorem nl_X10_59 : Cond.methodLinkNest RX10 59 yX11_put "ScentCourt" ∈ NW := (NQ4 57 rfl rfl)
theorem ml_L_79 : Cond.methodLink RL 79 yX11_soap ∈ TT := (TQ4 58 rfl rfl)
theorem ml_X11_206 : Cond.methodLink RX11 206 yX10_wash ∈ TT := (TQ4 62 rfl rfl)
theorem nl_X10_63 : Cond.methodLinkNest RX10 63 yX11_total "ScentCourt" ∈ NW := (NQ4 66 rfl rfl)
theorem ml_L_83 : Cond.methodLink RL 83 yX11_send ∈ TT := (TQ4 67 rfl rfl)
theorem ml_X11_210 : Cond.methodLink RX11 210 yX11_isBox ∈ TT := (TQ4 71 rfl rfl)
theorem ml_X11_216 : Cond.methodLink RX11 216 yX10_cut ∈ TT := (TQ4 74 rfl rfl)
theorem ml_X10_66 : Cond.methodLink RX10 66 Lib.Math.min.name ∈ TT := (TQ4 78 rfl rfl)
theorem ml_L_87 : Cond.methodLink RL 87 yX11_move ∈ TT := (TQ4 79 rfl rfl)
theorem ml_L_91 : Cond.methodLink RL 91 yX11_on ∈ TT := (TQ4 83 rfl rfl)
theorem ml_X11_220 : Cond.methodLink RX11 220 yX11_canPass ∈ TT := (TQ4 87 rfl rfl)
theorem ml_X11_223 : Cond.methodLink RX11 223 yX10_passHour ∈ TT := (TQ4 91 rfl rfl)
theorem ml_X10_72 : Cond.methodLink RX10 72 yX2_isRainTold ∈ TT := (TQ4 95 rfl rfl)
theorem ml_X10_79 : Cond.methodLink RX10 79 yX2_wentTo ∈ TT := (TQ4 99 rfl rfl)
theorem ml_X10_82 : Cond.methodLink RX10 82 yX2_passHour ∈ TT := (TQ4 103 rfl rfl)
theorem ml_X2_77 : Cond.methodLink RX2 77 yX2_fades ∈ TT := (TQ4 107 rfl rfl)
theorem ml_X2_81 : Cond.methodLink RX2 81 Lib.Math.max.name ∈ TT := (TQ4 111 rfl rfl)
theorem ml_X10_86 : Cond.methodLink RX10 86 yX2_fades ∈ TT := (TQ4 114 rfl rfl)
theorem ml_X10_90 : Cond.methodLink RX10 90 yX10_fadeCloth ∈ TT := (TQ4 115 rfl rfl)
theorem ml_X10_101 : Cond.methodLink RX10 101 Lib.Math.max.name ∈ TT := (TQ4 119 rfl rfl)
theorem ml_X10_94 : Cond.methodLink RX10 94 yX10_mingle ∈ TT := (TQ4 120 rfl rfl)
theorem ml_L_95 : Cond.methodLink RL 95 yX11_undo ∈ TT := (TQ4 124 rfl rfl)
theorem ml_L_99 : Cond.methodLink RL 99 yX11_order ∈ TT := (TQ4 128 rfl rfl)
theorem ml_X11_239 : Cond.methodLink RX11 239 yX4_findOrder ∈ TT := (TQ4 132 rfl rfl)
theorem ml_X4_33 : Cond.methodLink RX4 33 yX4_isAnyClean ∈ TT := (TQ4 136 rfl rfl)
theorem nl_X4_70 : Cond.methodLinkNest RX4 70 yX11_strongest "ScentCourt" ∈ NW := (NQ4 139 rfl rfl)
theorem ml_X4_37 : Cond.methodLink RX4 37 yX4_canOneNose ∈ TT := (TQ4 140 rfl rfl)
theorem ml_X4_81 : Cond.methodLink RX4 81 yJ7_fill_53178 ∈ TT := (TQ4 144 rfl rfl)
theorem nl_X4_73 : Cond.methodLinkNest RX4 73 yX11_put "ScentCourt" ∈ NW := (NQ4 145 rfl rfl)
theorem ml_X4_111 : Cond.methodLink RX4 111 yX4_tryNext ∈ TT := (TQ4 146 rfl rfl)
theorem ml_X4_115 : Cond.methodLink RX4 115 yX4_tryCloth ∈ TT := (TQ4 150 rfl rfl)
theorem nl_X4_53 : Cond.methodLinkNest RX4 53 yX11_at "ScentCourt" ∈ NW := (NQ4 154 rfl rfl)
theorem ml_X4_95 : Cond.methodLink RX4 95 yX4_isDrowned ∈ TT := (TQ4 155 rfl rfl)
theorem ml_X4_99 : Cond.methodLink RX4 99 yX4_open ∈ TT := (TQ4 158 rfl rfl)
theorem ml_X4_119 : Cond.methodLink RX4 119 Lib.Math.max.name ∈ TT := (TQ4 161 rfl rfl)
theorem nl_X4_49 : Cond.methodLinkNest RX4 49 yX11_copy "ScentCourt" ∈ NW := (NQ4 162 rfl rfl)
theorem ml_L_103 : Cond.methodLink RL 103 yX11_opened ∈ TT := (TQ4 163 rfl rfl)
theorem ml_X11_243 : Cond.methodLink RX11 243 yX4_foundAt ∈ TT := (TQ4 167 rfl rfl)
theorem ml_L_107 : Cond.methodLink RL 107 yX11_noses ∈ TT := (TQ4 171 rfl rfl)
theorem ml_X11_246 : Cond.methodLink RX11 246 yX4_fewest ∈ TT := (TQ4 175 rfl rfl)
theorem ml_X4_57 : Cond.methodLink RX4 57 Lib.Math.min.name ∈ TT := (TQ4 179 rfl rfl)
theorem ml_X4_63 : Cond.methodLink RX4 63 yX4_share ∈ TT := (TQ4 180 rfl rfl)
theorem ml_L_111 : Cond.methodLink RL 111 yX11_drowned ∈ TT := (TQ4 184 rfl rfl)
theorem ml_X11_249 : Cond.methodLink RX11 249 yX4_openRow ∈ TT := (TQ4 188 rfl rfl)
theorem ml_X4_77 : Cond.methodLink RX4 77 yX4_isRowTold ∈ TT := (TQ4 192 rfl rfl)
theorem ml_X4_107 : Cond.methodLink RX4 107 yX10_hasCloth ∈ TT := (TQ4 195 rfl rfl)
theorem ml_L_115 : Cond.methodLink RL 115 yX11_remains ∈ TT := (TQ4 196 rfl rfl)
theorem ml_L_119 : Cond.methodLink RL 119 yX11_was ∈ TT := (TQ4 200 rfl rfl)
theorem ml_X11_263 : Cond.methodLink RX11 263 yX9_search ∈ TT := (TQ4 204 rfl rfl)
theorem nl_X9_39 : Cond.methodLinkNest RX9 39 yX11_at "ScentCourt" ∈ NW := (NQ4 208 rfl rfl)
theorem nl_X9_57 : Cond.methodLinkNest RX9 57 yX11_put "ScentCourt" ∈ NW := (NQ4 209 rfl rfl)
theorem ml_X9_61 : Cond.methodLink RX9 61 yX9_findMostAir ∈ TT := (TQ4 210 rfl rfl)
theorem ml_X9_65 : Cond.methodLink RX9 65 yJ7_fill_53178 ∈ TT := (TQ4 214 rfl rfl)
theorem ml_X9_78 : Cond.methodLink RX9 78 Lib.Math.max.name ∈ TT := (TQ4 215 rfl rfl)
theorem ml_X9_71 : Cond.methodLink RX9 71 yX9_tryHour ∈ TT := (TQ4 216 rfl rfl)
theorem ml_X9_84 : Cond.methodLink RX9 84 yX9_addRow ∈ TT := (TQ4 220 rfl rfl)
theorem nl_X9_108 : Cond.methodLinkNest RX9 108 yX11_copy "ScentCourt" ∈ NW := (NQ4 224 rfl rfl)
theorem ml_X9_87 : Cond.methodLink RX9 87 yX9_tryPlace ∈ TT := (TQ4 225 rfl rfl)
theorem ml_X9_91 : Cond.methodLink RX9 91 yX2_passHour ∈ TT := (TQ4 229 rfl rfl)
theorem ml_X9_95 : Cond.methodLink RX9 95 yX9_canEndAsTold ∈ TT := (TQ4 230 rfl rfl)
theorem ml_L_123 : Cond.methodLink RL 123 yX11_rows ∈ TT := (TQ4 234 rfl rfl)
theorem ml_L_127 : Cond.methodLink RL 127 yX11_first ∈ TT := (TQ4 238 rfl rfl)
theorem ml_L_131 : Cond.methodLink RL 131 yX11_changed ∈ TT := (TQ5 2 rfl rfl)
theorem ml_X11_282 : Cond.methodLink RX11 282 yX0_search ∈ TT := (TQ5 6 rfl rfl)
theorem nl_X0_36 : Cond.methodLinkNest RX0 36 yX11_at "ScentCourt" ∈ NW := (NQ5 10 rfl rfl)
theorem ml_X0_46 : Cond.methodLink RX0 46 yX0_readTold ∈ TT := (TQ5 11 rfl rfl)
theorem ml_X0_62 : Cond.methodLink RX0 62 yJ7_fill_53178 ∈ TT := (TQ5 15 rfl rfl)
theorem nl_X0_73 : Cond.methodLinkNest RX0 73 yX11_put "ScentCourt" ∈ NW := (NQ5 16 rfl rfl)
theorem ml_X0_50 : Cond.methodLink RX0 50 yX0_passAllHours ∈ TT := (TQ5 17 rfl rfl)
theorem nl_X0_80 : Cond.methodLinkNest RX0 80 yX11_copy "ScentCourt" ∈ NW := (NQ5 21 rfl rfl)
theorem ml_X0_84 : Cond.methodLink RX0 84 yX2_wentTo ∈ TT := (TQ5 22 rfl rfl)
theorem ml_X0_88 : Cond.methodLink RX0 88 yX0_take ∈ TT := (TQ5 23 rfl rfl)
theorem ml_X0_92 : Cond.methodLink RX0 92 yX2_isRainTold ∈ TT := (TQ5 27 rfl rfl)
theorem ml_X0_96 : Cond.methodLink RX0 96 yX2_passHour ∈ TT := (TQ5 28 rfl rfl)
theorem ml_X0_54 : Cond.methodLink RX0 54 yX0_areOthersAsTold ∈ TT := (TQ5 29 rfl rfl)
theorem nl_X0_100 : Cond.methodLinkNest RX0 100 yX11_difference "ScentCourt" ∈ NW := (NQ5 33 rfl rfl)
theorem ml_X11_384 : Cond.methodLink RX11 384 Lib.Math.abs.name ∈ TT := (TQ5 36 rfl rfl)
theorem ml_X0_58 : Cond.methodLink RX0 58 yX0_searchHours ∈ TT := (TQ5 39 rfl rfl)
theorem ml_X0_104 : Cond.methodLink RX0 104 yX0_isAsTold ∈ TT := (TQ5 43 rfl rfl)
theorem ml_L_135 : Cond.methodLink RL 135 yX11_changeAt ∈ TT := (TQ5 47 rfl rfl)
theorem ml_L_139 : Cond.methodLink RL 139 yX11_dog ∈ TT := (TQ5 51 rfl rfl)
theorem ml_X11_291 : Cond.methodLink RX11 291 yX11_leastUnlike ∈ TT := (TQ5 55 rfl rfl)
theorem ml_X11_295 : Cond.methodLink RX11 295 yX11_difference ∈ TT := (TQ5 58 rfl rfl)
theorem ml_L_143 : Cond.methodLink RL 143 yX11_unlike ∈ TT := (TQ5 59 rfl rfl)
theorem ml_L_147 : Cond.methodLink RL 147 yX11_alike ∈ TT := (TQ5 63 rfl rfl)
theorem ml_L_151 : Cond.methodLink RL 151 yX11_kitchen ∈ TT := (TQ5 67 rfl rfl)
theorem ml_X11_298 : Cond.methodLink RX11 298 yX2_gain ∈ TT := (TQ5 71 rfl rfl)
theorem ml_L_155 : Cond.methodLink RL 155 yX11_thread ∈ TT := (TQ5 75 rfl rfl)
theorem ml_L_159 : Cond.methodLink RL 159 yX11_source ∈ TT := (TQ5 79 rfl rfl)
theorem ml_L_163 : Cond.methodLink RL 163 yX11_strangers ∈ TT := (TQ5 83 rfl rfl)
theorem ml_L_167 : Cond.methodLink RL 167 yX11_wearer ∈ TT := (TQ5 87 rfl rfl)
theorem ml_L_171 : Cond.methodLink RL 171 yX11_clean ∈ TT := (TQ5 91 rfl rfl)
theorem ml_X11_302 : Cond.methodLink RX11 302 yX10_hoursTillClean ∈ TT := (TQ5 95 rfl rfl)
theorem ml_L_175 : Cond.methodLink RL 175 yX11_pleas ∈ TT := (TQ5 99 rfl rfl)
theorem ml_X11_306 : Cond.methodLink RX11 306 yX5_read ∈ TT := (TQ5 103 rfl rfl)
theorem ml_X5_15 : Cond.methodLink RX5 15 yX8_begin ∈ TT := (TQ5 107 rfl rfl)
theorem ml_X5_24 : Cond.methodLink RX5 24 yX5_readLine ∈ TT := (TQ5 108 rfl rfl)
theorem ml_X5_28 : Cond.methodLink RX5 28 yX8_takeTold ∈ TT := (TQ5 112 rfl rfl)
theorem ml_X5_32 : Cond.methodLink RX5 32 yX8_failAtTaken ∈ TT := (TQ5 113 rfl rfl)
theorem ml_X5_39 : Cond.methodLink RX5 39 yX8_fail ∈ TT := (TQ5 114 rfl rfl)
theorem ml_X5_42 : Cond.methodLink RX5 42 yX8_step ∈ TT := (TQ5 115 rfl rfl)
theorem ml_X5_45 : Cond.methodLink RX5 45 yX5_sortOf ∈ TT := (TQ5 116 rfl rfl)
theorem ml_X5_49 : Cond.methodLink RX5 49 yX5_isSo ∈ TT := (TQ5 119 rfl rfl)
theorem nl_X5_62 : Cond.methodLinkNest RX5 62 yX11_at "ScentCourt" ∈ NW := (NQ5 122 rfl rfl)
theorem ml_X5_53 : Cond.methodLink RX5 53 yX8_take ∈ TT := (TQ5 123 rfl rfl)
theorem ml_L_179 : Cond.methodLink RL 179 yX11_drawn ∈ TT := (TQ5 124 rfl rfl)
theorem ml_X11_312 : Cond.methodLink RX11 312 yX11_canDraw ∈ TT := (TQ5 128 rfl rfl)
theorem ml_X11_316 : Cond.methodLink RX11 316 yX1_passHours ∈ TT := (TQ5 132 rfl rfl)
theorem ml_X1_35 : Cond.methodLink RX1 35 yX1_drawWalks ∈ TT := (TQ5 136 rfl rfl)
theorem nl_X1_58 : Cond.methodLinkNest RX1 58 yX11_at "ScentCourt" ∈ NW := (NQ5 140 rfl rfl)
theorem ml_X1_68 : Cond.methodLink RX1 68 yX1_draw ∈ TT := (TQ5 141 rfl rfl)
theorem cl_X1_62 : Cond.constant RX1 62 (1103515245) ∈ TT := (TQ5 145 rfl rfl)
theorem nl_X1_75 : Cond.methodLinkNest RX1 75 yX11_put "ScentCourt" ∈ NW := (NQ5 146 rfl rfl)
theorem ml_X1_39 : Cond.methodLink RX1 39 yX1_drawChange ∈ TT := (TQ5 147 rfl rfl)
theorem ml_X1_79 : Cond.methodLink RX1 79 yX10_swap ∈ TT := (TQ5 151 rfl rfl)
theorem ml_X1_42 : Cond.methodLink RX1 42 yX1_drawRain ∈ TT := (TQ5 152 rfl rfl)
theorem ml_X1_46 : Cond.methodLink RX1 46 yX10_passHour ∈ TT := (TQ5 156 rfl rfl)
theorem ml_L_183 : Cond.methodLink RL 183 yX11_weather ∈ TT := (TQ5 157 rfl rfl)
theorem ml_L_187 : Cond.methodLink RL 187 yX11_odds ∈ TT := (TQ5 161 rfl rfl)
theorem ml_X11_332 : Cond.methodLink RX11 332 yX1_endsInOwnCoat ∈ TT := (TQ5 165 rfl rfl)
theorem ml_X1_50 : Cond.methodLink RX1 50 yX10_copyFrom ∈ TT := (TQ5 169 rfl rfl)
theorem ml_L_192 : Cond.methodLink RL 192 yX11_write ∈ TT := (TQ5 170 rfl rfl)
theorem ml_X11_339 : Cond.methodLink RX11 339 yX2_nameOf ∈ TT := (TQ5 174 rfl rfl)
theorem ml_X11_343 : Cond.methodLink RX11 343 yX11_writeName ∈ TT := (TQ5 178 rfl rfl)
theorem cl_X11_376 : Cond.constantLong RX11 376 (255) ∈ TT := (TQ5 182 rfl rfl)
theorem ml_X11_347 : Cond.methodLink RX11 347 yX11_writeByte ∈ TT := (TQ5 183 rfl rfl)
theorem ml_X11_350 : Cond.methodLink RX11 350 yX11_writeNumber ∈ TT := (TQ5 187 rfl rfl)
theorem ml_L_196 : Cond.methodLink RL 196 yX11_byteAt ∈ TT := (TQ5 191 rfl rfl)
theorem ml_L_200 : Cond.methodLink RL 200 yX11_sentence ∈ TT := (TQ5 195 rfl rfl)
theorem ml_X11_353 : Cond.methodLink RX11 353 yX7_read ∈ TT := (TQ5 199 rfl rfl)
theorem ml_X7_22 : Cond.methodLink RX7 22 yX6_clear ∈ TT := (TQ5 203 rfl rfl)
theorem ml_X7_29 : Cond.methodLink RX7 29 yX8_begin ∈ TT := (TQ5 204 rfl rfl)
theorem ml_X7_35 : Cond.methodLink RX7 35 yX7_readCond ∈ TT := (TQ5 205 rfl rfl)
theorem ml_X7_46 : Cond.methodLink RX7 46 yX7_readAll ∈ TT := (TQ5 209 rfl rfl)
theorem ml_X7_56 : Cond.methodLink RX7 56 yX7_readOne ∈ TT := (TQ5 213 rfl rfl)
theorem ml_X7_59 : Cond.methodLink RX7 59 yX7_beginsOne ∈ TT := (TQ5 217 rfl rfl)
theorem ml_X7_42 : Cond.methodLink RX7 42 yX8_fail ∈ TT := (TQ5 220 rfl rfl)
theorem ml_X7_49 : Cond.methodLink RX7 49 yX8_step ∈ TT := (TQ5 221 rfl rfl)
theorem ml_X7_62 : Cond.methodLink RX7 62 yX7_readInside ∈ TT := (TQ5 222 rfl rfl)
theorem ml_X7_66 : Cond.methodLink RX7 66 yX8_take ∈ TT := (TQ5 226 rfl rfl)
theorem ml_X7_69 : Cond.methodLink RX7 69 yX7_added ∈ TT := (TQ5 227 rfl rfl)
theorem ml_X7_52 : Cond.methodLink RX7 52 yX6_add ∈ TT := (TQ5 231 rfl rfl)
theorem nl_X6_29 : Cond.methodLinkNest RX6 29 yX11_put "ScentCourt" ∈ NW := (NQ5 235 rfl rfl)
theorem ml_X6_33 : Cond.methodLink RX6 33 Lib.Math.min.name ∈ TT := (TQ5 236 rfl rfl)
theorem ml_X7_73 : Cond.methodLink RX7 73 yX8_takeTold ∈ TT := (TQ5 237 rfl rfl)
theorem ml_X7_79 : Cond.methodLink RX7 79 yX7_readMeasure ∈ TT := (TQ5 238 rfl rfl)
theorem ml_X7_82 : Cond.methodLink RX7 82 yX8_takeNumber ∈ TT := (TQ6 2 rfl rfl)
theorem ml_X11_358 : Cond.methodLink RX11 358 yX6_copyFrom ∈ TT := (TQ6 3 rfl rfl)
theorem nl_X6_25 : Cond.methodLinkNest RX6 25 yX11_copy "ScentCourt" ∈ NW := (NQ6 7 rfl rfl)
theorem ml_L_204 : Cond.methodLink RL 204 yX11_said ∈ TT := (TQ6 8 rfl rfl)
theorem ml_X11_361 : Cond.methodLink RX11 361 yX6_isEmpty ∈ TT := (TQ6 12 rfl rfl)
theorem ml_X11_364 : Cond.methodLink RX11 364 yX6_isSaidOf ∈ TT := (TQ6 16 rfl rfl)
theorem nl_X6_39 : Cond.methodLinkNest RX6 39 yX11_at "ScentCourt" ∈ NW := (NQ6 20 rfl rfl)
theorem cl_X6_43 : Cond.constantLong RX6 43 (-2) ∈ TT := (TQ6 21 rfl rfl)
theorem ml_X6_45 : Cond.methodLink RX6 45 yX6_holds ∈ TT := (TQ6 22 rfl rfl)
theorem nl_X6_57 : Cond.methodLinkNest RX6 57 yX11_total "ScentCourt" ∈ NW := (NQ6 26 rfl rfl)
theorem ml_X6_63 : Cond.methodLink RX6 63 yX6_compares ∈ TT := (TQ6 27 rfl rfl)
theorem ml_X6_67 : Cond.methodLink RX6 67 yX6_most ∈ TT := (TQ6 30 rfl rfl)
theorem nl_X6_76 : Cond.methodLinkNest RX6 76 yX11_strongest "ScentCourt" ∈ NW := (NQ6 33 rfl rfl)
theorem ml_L_208 : Cond.methodLink RL 208 yX11_image ∈ TT := (TQ6 34 rfl rfl)
theorem ml_X11_368 : Cond.methodLink RX11 368 yX11_isImage ∈ TT := (TQ6 38 rfl rfl)
theorem ml_L_212 : Cond.methodLink RL 212 yX11_restore ∈ TT := (TQ6 42 rfl rfl)
theorem ml_L_216 : Cond.methodLink RL 216 yX11_count ∈ TT := (TQ6 46 rfl rfl)
theorem ml_L_41 : Cond.methodLink RL 41 yL_air ∈ TT := (TQ6 50 rfl rfl)
theorem ml_L_7 : Cond.methodLink RL 7 yX11_air ∈ TT := (TQ6 54 rfl rfl)
theorem ml_L_55 : Cond.methodLink RL 55 yL_witness ∈ TT := (TQ6 119 rfl rfl)
theorem ml_L_15 : Cond.methodLink RL 15 yX11_witness ∈ TT := (TQ6 122 rfl rfl)
theorem ml_L_21 : Cond.methodLink RL 21 yX12_init ∈ TT := (TQ6 128 rfl rfl)
theorem fl_X12_100 : Cond.fieldLink RX12 100 (TX12 0).1 (TX12 0).2.1 (TX12 0).2.2.1 ∈ TT := (TQ6 132 rfl rfl)
theorem fl_X12_7 : Cond.fieldLink RX12 7 (TX12 1).1 (TX12 1).2.1 (TX12 1).2.2.1 ∈ TT := (TQ6 133 rfl rfl)
theorem fl_X12_103 : Cond.fieldLink RX12 103 (TX12 2).1 (TX12 2).2.1 (TX12 2).2.2.1 ∈ TT := (TQ6 134 rfl rfl)
theorem fl_X12_110 : Cond.fieldLink RX12 110 (TX12 3).1 (TX12 3).2.1 (TX12 3).2.2.1 ∈ TT := (TQ6 135 rfl rfl)
theorem fl_X12_119 : Cond.fieldLink RX12 119 (TX12 4).1 (TX12 4).2.1 (TX12 4).2.2.1 ∈ TT := (TQ6 136 rfl rfl)
theorem fl_X12_113 : Cond.fieldLink RX12 113 (TX12 5).1 (TX12 5).2.1 (TX12 5).2.2.1 ∈ TT := (TQ6 137 rfl rfl)
theorem fl_X12_116 : Cond.fieldLink RX12 116 (TX12 6).1 (TX12 6).2.1 (TX12 6).2.2.1 ∈ TT := (TQ6 138 rfl rfl)
theorem fl_X12_122 : Cond.fieldLink RX12 122 (TX12 7).1 (TX12 7).2.1 (TX12 7).2.2.1 ∈ TT := (TQ6 139 rfl rfl)
theorem fl_X12_139 : Cond.fieldLink RX12 139 (TX12 8).1 (TX12 8).2.1 (TX12 8).2.2.1 ∈ TT := (TQ6 140 rfl rfl)
theorem fl_X12_132 : Cond.fieldLink RX12 132 (TX12 9).1 (TX12 9).2.1 (TX12 9).2.2.1 ∈ TT := (TQ6 141 rfl rfl)
theorem fl_X12_160 : Cond.fieldLink RX12 160 (TX12 10).1 (TX12 10).2.1 (TX12 10).2.2.1 ∈ TT := (TQ6 142 rfl rfl)
theorem fl_X12_163 : Cond.fieldLink RX12 163 (TX12 11).1 (TX12 11).2.1 (TX12 11).2.2.1 ∈ TT := (TQ6 143 rfl rfl)
theorem fl_X12_135 : Cond.fieldLink RX12 135 (TX12 12).1 (TX12 12).2.1 (TX12 12).2.2.1 ∈ TT := (TQ6 144 rfl rfl)
theorem fl_X12_173 : Cond.fieldLink RX12 173 (TX12 13).1 (TX12 13).2.1 (TX12 13).2.2.1 ∈ TT := (TQ6 145 rfl rfl)
theorem fl_X12_13 : Cond.fieldLink RX12 13 (TX12 14).1 (TX12 14).2.1 (TX12 14).2.2.1 ∈ TT := (TQ6 146 rfl rfl)
theorem fl_X12_16 : Cond.fieldLink RX12 16 (TX12 15).1 (TX12 15).2.1 (TX12 15).2.2.1 ∈ TT := (TQ6 147 rfl rfl)
theorem fl_X12_19 : Cond.fieldLink RX12 19 (TX12 16).1 (TX12 16).2.1 (TX12 16).2.2.1 ∈ TT := (TQ6 148 rfl rfl)
theorem fl_X12_22 : Cond.fieldLink RX12 22 (TX12 17).1 (TX12 17).2.1 (TX12 17).2.2.1 ∈ TT := (TQ6 149 rfl rfl)
theorem fl_X12_25 : Cond.fieldLink RX12 25 (TX12 18).1 (TX12 18).2.1 (TX12 18).2.2.1 ∈ TT := (TQ6 150 rfl rfl)
theorem fl_X12_28 : Cond.fieldLink RX12 28 (TX12 19).1 (TX12 19).2.1 (TX12 19).2.2.1 ∈ TT := (TQ6 151 rfl rfl)
theorem fl_X12_32 : Cond.fieldLink RX12 32 (TX12 20).1 (TX12 20).2.1 (TX12 20).2.2.1 ∈ TT := (TQ6 152 rfl rfl)
theorem fl_X12_35 : Cond.fieldLink RX12 35 (TX12 21).1 (TX12 21).2.1 (TX12 21).2.2.1 ∈ TT := (TQ6 153 rfl rfl)
theorem fl_X12_38 : Cond.fieldLink RX12 38 (TX12 22).1 (TX12 22).2.1 (TX12 22).2.2.1 ∈ TT := (TQ6 154 rfl rfl)
theorem fl_X12_247 : Cond.fieldLink RX12 247 (TX12 23).1 (TX12 23).2.1 (TX12 23).2.2.1 ∈ TT := (TQ6 155 rfl rfl)
theorem fl_X12_42 : Cond.fieldLink RX12 42 (TX12 24).1 (TX12 24).2.1 (TX12 24).2.2.1 ∈ TT := (TQ6 156 rfl rfl)
theorem fl_X12_45 : Cond.fieldLink RX12 45 (TX12 25).1 (TX12 25).2.1 (TX12 25).2.2.1 ∈ TT := (TQ6 157 rfl rfl)
theorem fl_X12_48 : Cond.fieldLink RX12 48 (TX12 26).1 (TX12 26).2.1 (TX12 26).2.2.1 ∈ TT := (TQ6 158 rfl rfl)
theorem fl_X12_51 : Cond.fieldLink RX12 51 (TX12 27).1 (TX12 27).2.1 (TX12 27).2.2.1 ∈ TT := (TQ6 159 rfl rfl)
theorem fl_X12_54 : Cond.fieldLink RX12 54 (TX12 28).1 (TX12 28).2.1 (TX12 28).2.2.1 ∈ TT := (TQ6 160 rfl rfl)
theorem fl_X12_336 : Cond.fieldLink RX12 336 (TX12 29).1 (TX12 29).2.1 (TX12 29).2.2.1 ∈ TT := (TQ6 161 rfl rfl)
theorem fl_X12_317 : Cond.fieldLink RX12 317 (TX12 30).1 (TX12 30).2.1 (TX12 30).2.2.1 ∈ TT := (TQ6 162 rfl rfl)
theorem fl_X12_57 : Cond.fieldLink RX12 57 (TX12 31).1 (TX12 31).2.1 (TX12 31).2.2.1 ∈ TT := (TQ6 163 rfl rfl)
theorem fl_X12_60 : Cond.fieldLink RX12 60 (TX12 32).1 (TX12 32).2.1 (TX12 32).2.2.1 ∈ TT := (TQ6 164 rfl rfl)
theorem fl_X12_339 : Cond.fieldLink RX12 339 (TX12 33).1 (TX12 33).2.1 (TX12 33).2.2.1 ∈ TT := (TQ6 165 rfl rfl)
theorem fl_X12_63 : Cond.fieldLink RX12 63 (TX12 34).1 (TX12 34).2.1 (TX12 34).2.2.1 ∈ TT := (TQ6 166 rfl rfl)
theorem fl_X12_66 : Cond.fieldLink RX12 66 (TX12 35).1 (TX12 35).2.1 (TX12 35).2.2.1 ∈ TT := (TQ6 167 rfl rfl)
theorem fl_X12_69 : Cond.fieldLink RX12 69 (TX12 36).1 (TX12 36).2.1 (TX12 36).2.2.1 ∈ TT := (TQ6 168 rfl rfl)
theorem fl_X12_72 : Cond.fieldLink RX12 72 (TX12 37).1 (TX12 37).2.1 (TX12 37).2.2.1 ∈ TT := (TQ6 169 rfl rfl)
theorem fl_X12_75 : Cond.fieldLink RX12 75 (TX12 38).1 (TX12 38).2.1 (TX12 38).2.2.1 ∈ TT := (TQ6 170 rfl rfl)
theorem fl_X12_78 : Cond.fieldLink RX12 78 (TX12 39).1 (TX12 39).2.1 (TX12 39).2.2.1 ∈ TT := (TQ6 171 rfl rfl)
theorem fl_X12_342 : Cond.fieldLink RX12 342 (TX12 40).1 (TX12 40).2.1 (TX12 40).2.2.1 ∈ TT := (TQ6 172 rfl rfl)
theorem fl_X12_348 : Cond.fieldLink RX12 348 (TX12 41).1 (TX12 41).2.1 (TX12 41).2.2.1 ∈ TT := (TQ6 173 rfl rfl)
theorem fl_X12_82 : Cond.fieldLink RX12 82 (TX12 42).1 (TX12 42).2.1 (TX12 42).2.2.1 ∈ TT := (TQ6 174 rfl rfl)
theorem fl_X12_85 : Cond.fieldLink RX12 85 (TX12 43).1 (TX12 43).2.1 (TX12 43).2.2.1 ∈ TT := (TQ6 175 rfl rfl)
theorem fl_X12_351 : Cond.fieldLink RX12 351 (TX12 44).1 (TX12 44).2.1 (TX12 44).2.2.1 ∈ TT := (TQ6 176 rfl rfl)
theorem fl_X12_371 : Cond.fieldLink RX12 371 (TX12 45).1 (TX12 45).2.1 (TX12 45).2.2.1 ∈ TT := (TQ6 177 rfl rfl)
theorem fl_X12_374 : Cond.fieldLink RX12 374 (TX12 46).1 (TX12 46).2.1 (TX12 46).2.2.1 ∈ TT := (TQ6 178 rfl rfl)
theorem fl_X12_380 : Cond.fieldLink RX12 380 (TX12 47).1 (TX12 47).2.1 (TX12 47).2.2.1 ∈ TT := (TQ6 179 rfl rfl)
theorem fl_X12_384 : Cond.fieldLink RX12 384 (TX12 48).1 (TX12 48).2.1 (TX12 48).2.2.1 ∈ TT := (TQ6 180 rfl rfl)
theorem fl_X12_387 : Cond.fieldLink RX12 387 (TX12 49).1 (TX12 49).2.1 (TX12 49).2.2.1 ∈ TT := (TQ6 181 rfl rfl)
theorem fl_X12_390 : Cond.fieldLink RX12 390 (TX12 50).1 (TX12 50).2.1 (TX12 50).2.2.1 ∈ TT := (TQ6 182 rfl rfl)
theorem fl_X12_88 : Cond.fieldLink RX12 88 (TX12 51).1 (TX12 51).2.1 (TX12 51).2.2.1 ∈ TT := (TQ6 183 rfl rfl)
theorem fl_X12_91 : Cond.fieldLink RX12 91 (TX12 52).1 (TX12 52).2.1 (TX12 52).2.2.1 ∈ TT := (TQ6 184 rfl rfl)
theorem fl_X12_94 : Cond.fieldLink RX12 94 (TX12 53).1 (TX12 53).2.1 (TX12 53).2.2.1 ∈ TT := (TQ6 185 rfl rfl)
theorem fl_X12_402 : Cond.fieldLink RX12 402 (TX12 54).1 (TX12 54).2.1 (TX12 54).2.2.1 ∈ TT := (TQ6 186 rfl rfl)
theorem fl_X12_97 : Cond.fieldLink RX12 97 (TX12 55).1 (TX12 55).2.1 (TX12 55).2.2.1 ∈ TT := (TQ6 187 rfl rfl)
theorem fl_X12_408 : Cond.fieldLink RX12 408 (TX12 56).1 (TX12 56).2.1 (TX12 56).2.2.1 ∈ TT := (TQ6 188 rfl rfl)
theorem fl_X12_424 : Cond.fieldLink RX12 424 (TX12 57).1 (TX12 57).2.1 (TX12 57).2.2.1 ∈ TT := (TQ6 189 rfl rfl)
theorem fl_X12_427 : Cond.fieldLink RX12 427 (TX12 58).1 (TX12 58).2.1 (TX12 58).2.2.1 ∈ TT := (TQ6 190 rfl rfl)
theorem fl_X12_414 : Cond.fieldLink RX12 414 (TX12 59).1 (TX12 59).2.1 (TX12 59).2.2.1 ∈ TT := (TQ6 191 rfl rfl)
theorem ml_L_47 : Cond.methodLink RL 47 yX12_thrown ∈ TT := (TQ7 74 rfl rfl)
theorem ml_L_26 : Cond.methodLink RL 26 yX12_feed ∈ TT := (TQ7 78 rfl rfl)
theorem ml_X12_106 : Cond.methodLink RX12 106 yX12_come ∈ TT := (TQ7 82 rfl rfl)
theorem ml_L_31 : Cond.methodLink RL 31 yX12_end ∈ TT := (TQ7 86 rfl rfl)
theorem ml_L_36 : Cond.methodLink RL 36 yX12_hill ∈ TT := (TQ7 90 rfl rfl)
theorem ml_X12_238 : Cond.methodLink RX12 238 yX12_begin ∈ TT := (TQ7 94 rfl rfl)
theorem ml_X12_186 : Cond.methodLink RX12 186 yX12_take ∈ TT := (TQ7 98 rfl rfl)
theorem ml_X12_180 : Cond.methodLink RX12 180 yX12_go ∈ TT := (TQ7 102 rfl rfl)
theorem ml_X12_125 : Cond.methodLink RX12 125 yX12_isLetter ∈ TT := (TQ7 106 rfl rfl)
theorem ml_X12_129 : Cond.methodLink RX12 129 yX12_isDigit ∈ TT := (TQ7 109 rfl rfl)
theorem ml_X12_142 : Cond.methodLink RX12 142 yX12_tapeAt ∈ TT := (TQ7 112 rfl rfl)
theorem cl_X12_146 : Cond.constantLong RX12 146 (27) ∈ TT := (TQ7 116 rfl rfl)
theorem cl_X12_148 : Cond.constantLong RX12 148 (96) ∈ TT := (TQ7 117 rfl rfl)
theorem ml_X12_241 : Cond.methodLink RX12 241 yX12_readLine ∈ TT := (TQ7 118 rfl rfl)
theorem ml_X12_214 : Cond.methodLink RX12 214 yX12_isWord ∈ TT := (TQ7 122 rfl rfl)
theorem ml_X12_156 : Cond.methodLink RX12 156 yX12_wordOf ∈ TT := (TQ7 126 rfl rfl)
theorem ml_X12_150 : Cond.methodLink RX12 150 yX12_spelt ∈ TT := (TQ7 129 rfl rfl)
theorem cl_X12_154 : Cond.constantLong RX12 154 (115) ∈ TT := (TQ7 132 rfl rfl)
theorem ml_X12_217 : Cond.methodLink RX12 217 yX12_readScent ∈ TT := (TQ7 133 rfl rfl)
theorem ml_X12_166 : Cond.methodLink RX12 166 yX12_bad ∈ TT := (TQ7 137 rfl rfl)
theorem ml_X12_202 : Cond.methodLink RX12 202 yX12_readNew ∈ TT := (TQ7 141 rfl rfl)
theorem ml_X12_190 : Cond.methodLink RX12 190 yX12_isName ∈ TT := (TQ7 145 rfl rfl)
theorem ml_X12_194 : Cond.methodLink RX12 194 yX12_findIn ∈ TT := (TQ7 149 rfl rfl)
theorem ml_X12_205 : Cond.methodLink RX12 205 yX12_readNumber ∈ TT := (TQ7 152 rfl rfl)
theorem ml_X12_176 : Cond.methodLink RX12 176 yX12_isNumber ∈ TT := (TQ7 156 rfl rfl)
theorem ml_X12_169 : Cond.methodLink RX12 169 yX12_isIn ∈ TT := (TQ7 160 rfl rfl)
theorem ml_X12_220 : Cond.methodLink RX12 220 yX12_readPlace ∈ TT := (TQ7 163 rfl rfl)
theorem ml_X12_198 : Cond.methodLink RX12 198 yX12_isOne ∈ TT := (TQ7 167 rfl rfl)
theorem ml_X12_208 : Cond.methodLink RX12 208 yX12_has ∈ TT := (TQ7 171 rfl rfl)
theorem ml_X12_223 : Cond.methodLink RX12 223 yX12_readSmoke ∈ TT := (TQ7 174 rfl rfl)
theorem ml_X12_211 : Cond.methodLink RX12 211 yX12_readOne ∈ TT := (TQ7 178 rfl rfl)
theorem ml_X12_226 : Cond.methodLink RX12 226 yX12_readWitness ∈ TT := (TQ7 182 rfl rfl)
theorem ml_X12_229 : Cond.methodLink RX12 229 yX12_readWent ∈ TT := (TQ7 186 rfl rfl)
theorem ml_X12_232 : Cond.methodLink RX12 232 yX12_readRain ∈ TT := (TQ7 190 rfl rfl)
theorem ml_X12_235 : Cond.methodLink RX12 235 yX12_readEnd ∈ TT := (TQ7 194 rfl rfl)
theorem ml_X12_183 : Cond.methodLink RX12 183 yX12_isSign ∈ TT := (TQ7 198 rfl rfl)
theorem ml_X12_244 : Cond.methodLink RX12 244 yX12_startAnew ∈ TT := (TQ7 202 rfl rfl)
theorem ml_L_40 : Cond.methodLink RL 40 yX12_fault ∈ TT := (TQ7 206 rfl rfl)
theorem ml_L_46 : Cond.methodLink RL 46 yX12_air ∈ TT := (TQ7 210 rfl rfl)
theorem ml_X12_250 : Cond.methodLink RX12 250 yX12_isPlace ∈ TT := (TQ7 214 rfl rfl)
theorem ml_X12_253 : Cond.methodLink RX12 253 yX12_isScent ∈ TT := (TQ7 218 rfl rfl)
theorem ml_X12_256 : Cond.methodLink RX12 256 yX12_refuse ∈ TT := (TQ7 222 rfl rfl)
theorem ml_X12_259 : Cond.methodLink RX12 259 yX12_airOf ∈ TT := (TQ7 226 rfl rfl)
theorem ml_L_54 : Cond.methodLink RL 54 yX12_fade ∈ TT := (TQ7 230 rfl rfl)
theorem ml_L_57 : Cond.methodLink RL 57 yX12_witness ∈ TT := (TQ7 234 rfl rfl)
theorem ml_X12_263 : Cond.methodLink RX12 263 yX12_isWitness ∈ TT := (TQ7 238 rfl rfl)
theorem ml_X12_266 : Cond.methodLink RX12 266 yX12_worn ∈ TT := (TQ8 2 rfl rfl)
theorem ml_X12_269 : Cond.methodLink RX12 269 yX12_sumAt ∈ TT := (TQ8 6 rfl rfl)
theorem ml_X12_272 : Cond.methodLink RX12 272 yX12_strongestAt ∈ TT := (TQ8 10 rfl rfl)
theorem ml_L_61 : Cond.methodLink RL 61 yX12_coat ∈ TT := (TQ8 14 rfl rfl)
theorem ml_X12_275 : Cond.methodLink RX12 275 yX12_onCoat ∈ TT := (TQ8 18 rfl rfl)
theorem ml_L_65 : Cond.methodLink RL 65 yX12_cloth ∈ TT := (TQ8 22 rfl rfl)
theorem ml_X12_278 : Cond.methodLink RX12 278 yX12_isCloth ∈ TT := (TQ8 26 rfl rfl)
theorem ml_X12_281 : Cond.methodLink RX12 281 yX12_onCloth ∈ TT := (TQ8 30 rfl rfl)
theorem ml_L_69 : Cond.methodLink RL 69 yX12_box ∈ TT := (TQ8 34 rfl rfl)
theorem ml_X12_284 : Cond.methodLink RX12 284 yX12_ofCloth ∈ TT := (TQ8 38 rfl rfl)
theorem ml_L_170 : Cond.methodLink RL 170 yX12_wearer ∈ TT := (TQ8 42 rfl rfl)
theorem ml_X12_287 : Cond.methodLink RX12 287 yX12_wearerOf ∈ TT := (TQ8 46 rfl rfl)
theorem ml_L_98 : Cond.methodLink RL 98 yX12_undo ∈ TT := (TQ8 50 rfl rfl)
theorem ml_L_74 : Cond.methodLink RL 74 yX12_goes ∈ TT := (TQ8 54 rfl rfl)
theorem ml_X12_307 : Cond.methodLink RX12 307 yX12_snap ∈ TT := (TQ8 58 rfl rfl)
theorem ml_L_78 : Cond.methodLink RL 78 yX12_change ∈ TT := (TQ8 62 rfl rfl)
theorem ml_X12_310 : Cond.methodLink RX12 310 yX12_changeBoth ∈ TT := (TQ8 66 rfl rfl)
theorem ml_L_82 : Cond.methodLink RL 82 yX12_soap ∈ TT := (TQ8 70 rfl rfl)
theorem ml_L_86 : Cond.methodLink RL 86 yX12_send ∈ TT := (TQ8 74 rfl rfl)
theorem ml_L_90 : Cond.methodLink RL 90 yX12_move ∈ TT := (TQ8 78 rfl rfl)
theorem ml_L_94 : Cond.methodLink RL 94 yX12_on ∈ TT := (TQ8 82 rfl rfl)
theorem ml_X12_313 : Cond.methodLink RX12 313 yX12_pass ∈ TT := (TQ8 86 rfl rfl)
theorem ml_X12_293 : Cond.methodLink RX12 293 yX12_isRain ∈ TT := (TQ8 90 rfl rfl)
theorem ml_X12_296 : Cond.methodLink RX12 296 yX12_fadeAt ∈ TT := (TQ8 94 rfl rfl)
theorem ml_X12_290 : Cond.methodLink RX12 290 yX12_less ∈ TT := (TQ8 98 rfl rfl)
theorem ml_X12_300 : Cond.methodLink RX12 300 yX12_least ∈ TT := (TQ8 101 rfl rfl)
theorem ml_X12_303 : Cond.methodLink RX12 303 yX12_mixBox ∈ TT := (TQ8 104 rfl rfl)
theorem ml_L_102 : Cond.methodLink RL 102 yX12_order ∈ TT := (TQ8 108 rfl rfl)
theorem ml_X12_333 : Cond.methodLink RX12 333 yX12_openAll ∈ TT := (TQ8 112 rfl rfl)
theorem ml_X12_330 : Cond.methodLink RX12 330 yX12_startOpening ∈ TT := (TQ8 116 rfl rfl)
theorem ml_X12_327 : Cond.methodLink RX12 327 yX12_openOn ∈ TT := (TQ8 120 rfl rfl)
theorem ml_X12_321 : Cond.methodLink RX12 321 yX12_isDrowned ∈ TT := (TQ8 124 rfl rfl)
theorem ml_X12_324 : Cond.methodLink RX12 324 yX12_open ∈ TT := (TQ8 128 rfl rfl)
theorem ml_L_106 : Cond.methodLink RL 106 yX12_opened ∈ TT := (TQ8 132 rfl rfl)
theorem ml_L_110 : Cond.methodLink RL 110 yX12_noses ∈ TT := (TQ8 136 rfl rfl)
theorem ml_L_114 : Cond.methodLink RL 114 yX12_drowned ∈ TT := (TQ8 140 rfl rfl)
theorem ml_L_118 : Cond.methodLink RL 118 yX12_remains ∈ TT := (TQ8 144 rfl rfl)
theorem ml_L_122 : Cond.methodLink RL 122 yX12_was ∈ TT := (TQ8 148 rfl rfl)
theorem ml_X12_345 : Cond.methodLink RX12 345 yX12_wearThrough ∈ TT := (TQ8 152 rfl rfl)
theorem ml_L_126 : Cond.methodLink RL 126 yX12_rows ∈ TT := (TQ8 156 rfl rfl)
theorem ml_L_130 : Cond.methodLink RL 130 yX12_first ∈ TT := (TQ8 160 rfl rfl)
theorem ml_L_134 : Cond.methodLink RL 134 yX12_changed ∈ TT := (TQ8 164 rfl rfl)
theorem ml_X12_354 : Cond.methodLink RX12 354 yX12_layAside ∈ TT := (TQ8 168 rfl rfl)
theorem ml_X12_357 : Cond.methodLink RX12 357 yX12_areSo ∈ TT := (TQ8 172 rfl rfl)
theorem ml_X12_360 : Cond.methodLink RX12 360 yX12_layBack ∈ TT := (TQ8 176 rfl rfl)
theorem ml_L_138 : Cond.methodLink RL 138 yX12_changeAt ∈ TT := (TQ8 180 rfl rfl)
theorem ml_L_146 : Cond.methodLink RL 146 yX12_unlike ∈ TT := (TQ8 184 rfl rfl)
theorem ml_X12_365 : Cond.methodLink RX12 365 yX12_clothAt ∈ TT := (TQ8 188 rfl rfl)
theorem ml_X12_368 : Cond.methodLink RX12 368 yX12_apart ∈ TT := (TQ8 192 rfl rfl)
theorem ml_X12_363 : Cond.methodLink RX12 363 yX12_size ∈ TT := (TQ8 196 rfl rfl)
theorem ml_L_142 : Cond.methodLink RL 142 yX12_dog ∈ TT := (TQ8 199 rfl rfl)
theorem ml_L_150 : Cond.methodLink RL 150 yX12_alike ∈ TT := (TQ8 203 rfl rfl)
theorem ml_L_154 : Cond.methodLink RL 154 yX12_kitchen ∈ TT := (TQ8 207 rfl rfl)
theorem ml_L_158 : Cond.methodLink RL 158 yX12_thread ∈ TT := (TQ8 211 rfl rfl)
theorem ml_L_162 : Cond.methodLink RL 162 yX12_source ∈ TT := (TQ8 215 rfl rfl)
theorem ml_L_166 : Cond.methodLink RL 166 yX12_strangers ∈ TT := (TQ8 219 rfl rfl)
theorem ml_L_174 : Cond.methodLink RL 174 yX12_clean ∈ TT := (TQ8 223 rfl rfl)
theorem ml_L_178 : Cond.methodLink RL 178 yX12_pleas ∈ TT := (TQ8 227 rfl rfl)
theorem ml_X12_377 : Cond.methodLink RX12 377 yX12_readPlea ∈ TT := (TQ8 231 rfl rfl)
theorem ml_L_182 : Cond.methodLink RL 182 yX12_drawn ∈ TT := (TQ8 235 rfl rfl)
theorem ml_X12_396 : Cond.methodLink RX12 396 yX12_canDraw ∈ TT := (TQ8 239 rfl rfl)
theorem ml_X12_399 : Cond.methodLink RX12 399 yX12_drawHours ∈ TT := (TQ9 3 rfl rfl)
theorem ml_X12_393 : Cond.methodLink RX12 393 yX12_draw ∈ TT := (TQ9 7 rfl rfl)
theorem cl_X12_383 : Cond.constant RX12 383 (1103515245) ∈ TT := (TQ9 11 rfl rfl)
theorem ml_L_186 : Cond.methodLink RL 186 yX12_weather ∈ TT := (TQ9 12 rfl rfl)
theorem ml_L_191 : Cond.methodLink RL 191 yX12_odds ∈ TT := (TQ9 16 rfl rfl)
theorem ml_L_195 : Cond.methodLink RL 195 yX12_write ∈ TT := (TQ9 20 rfl rfl)
theorem ml_X12_405 : Cond.methodLink RX12 405 yX12_put ∈ TT := (TQ9 24 rfl rfl)
theorem ml_L_199 : Cond.methodLink RL 199 yX12_byteAt ∈ TT := (TQ9 28 rfl rfl)
theorem ml_L_203 : Cond.methodLink RL 203 yX12_sentence ∈ TT := (TQ9 32 rfl rfl)
theorem ml_X12_442 : Cond.methodLink RX12 442 yX12_readOr ∈ TT := (TQ9 36 rfl rfl)
theorem ml_X12_411 : Cond.methodLink RX12 411 yX12_readAnd ∈ TT := (TQ9 40 rfl rfl)
theorem ml_X12_421 : Cond.methodLink RX12 421 yX12_readTerm ∈ TT := (TQ9 44 rfl rfl)
theorem ml_X12_430 : Cond.methodLink RX12 430 yX12_readBracket ∈ TT := (TQ9 48 rfl rfl)
theorem ml_X12_433 : Cond.methodLink RX12 433 yX12_readNot ∈ TT := (TQ9 52 rfl rfl)
theorem ml_X12_417 : Cond.methodLink RX12 417 yX12_saysOne ∈ TT := (TQ9 56 rfl rfl)
theorem ml_X12_436 : Cond.methodLink RX12 436 yX12_readNamed ∈ TT := (TQ9 60 rfl rfl)
theorem ml_X12_439 : Cond.methodLink RX12 439 yX12_readCompare ∈ TT := (TQ9 64 rfl rfl)
theorem ml_L_207 : Cond.methodLink RL 207 yX12_said ∈ TT := (TQ9 68 rfl rfl)
theorem ml_X12_445 : Cond.methodLink RX12 445 yX12_holds ∈ TT := (TQ9 72 rfl rfl)
theorem ml_X12_448 : Cond.methodLink RX12 448 yX12_valueOf ∈ TT := (TQ9 76 rfl rfl)
theorem ml_L_211 : Cond.methodLink RL 211 yX12_image ∈ TT := (TQ9 80 rfl rfl)
theorem ml_L_215 : Cond.methodLink RL 215 yX12_restore ∈ TT := (TQ9 84 rfl rfl)
theorem ml_L_219 : Cond.methodLink RL 219 yX12_count ∈ TT := (TQ9 88 rfl rfl)
theorem mc_i : Cond.initialized "java/lang/System" ∈ TT := (TQ1 20 rfl rfl)
theorem ml_X11_378 : Cond.methodLink RX11 378 arraycopyName ∈ TT := (TQ3 221 rfl rfl)
theorem mc_s : Cond.static arraycopyName ∈ TT := (TQ3 222 rfl rfl)
theorem mc_n : Cond.native arraycopyName ∈ TT := (TQ3 223 rfl rfl)
theorem ml_X2_59 : Cond.methodLink RX2 59 arraycopyName ∈ TT := (TQ3 225 rfl rfl)
theorem ms1_max : Cond.static Lib.Math.max.name ∈ TT := (TQ4 112 rfl rfl)
theorem ms3_max : Cond.code Lib.Math.max.name Lib.Math.max.code 2 (some .int) ∈ TT := (TQ4 113 rfl rfl)
theorem ms1_min : Cond.static Lib.Math.min.name ∈ TT := (TQ3 63 rfl rfl)
theorem ms3_min : Cond.code Lib.Math.min.name Lib.Math.min.code 2 (some .int) ∈ TT := (TQ3 64 rfl rfl)
theorem ms1_abs : Cond.static Lib.Math.abs.name ∈ TT := (TQ5 37 rfl rfl)
theorem ms3_abs : Cond.code Lib.Math.abs.name Lib.Math.abs.code 1 (some .int) ∈ TT := (TQ5 38 rfl rfl)
theorem ms2 : Cond.initialized "java/lang/Math" ∈ TT := (TQ1 18 rfl rfl)
theorem mf_X11_at : MFs mX11_at 2 := ⟨(TQ3 97 rfl rfl), (TQ1 1 rfl rfl), (TQ3 98 rfl rfl), ⟨by decide +kernel, by decide +kernel⟩, by decide +kernel, by decide⟩
theorem mf_J7_fill_53178 : MFs mJ7_fill_53178 2 := ⟨(TQ3 82 rfl rfl), (TQ1 19 rfl rfl), (TQ3 83 rfl rfl), ⟨by decide +kernel, by decide +kernel⟩, by decide +kernel, by decide⟩
theorem mf_X11_put : MFs mX11_put 3 := ⟨(TQ3 60 rfl rfl), (TQ1 1 rfl rfl), (TQ3 61 rfl rfl), ⟨by decide +kernel, by decide +kernel⟩, by decide +kernel, by decide⟩
theorem mf_X0_readTold : MFv mX0_readTold 2 := ⟨(TQ5 13 rfl rfl), TT_s 28 rfl rfl, (TQ1 15 rfl rfl), (TQ5 14 rfl rfl), ⟨by decide +kernel, by decide +kernel⟩, by decide +kernel, by decide⟩
theorem mf_X11_copy : MFs mX11_copy 2 := ⟨(TQ3 218 rfl rfl), (TQ1 1 rfl rfl), (TQ3 219 rfl rfl), ⟨by decide +kernel, by decide +kernel⟩, by decide +kernel, by decide⟩
theorem mf_X2_wentTo : MFv mX2_wentTo 2 := ⟨(TQ4 100 rfl rfl), (TQ4 101 rfl rfl), (TQ1 7 rfl rfl), (TQ4 102 rfl rfl), ⟨by decide +kernel, by decide +kernel⟩, by decide +kernel, by decide⟩
theorem mf_X0_take : MFv mX0_take 3 := ⟨(TQ5 25 rfl rfl), TT_s 30 rfl rfl, (TQ1 15 rfl rfl), (TQ5 26 rfl rfl), ⟨by decide +kernel, by decide +kernel⟩, by decide +kernel, by decide⟩
theorem mf_X2_isRainTold : MFv mX2_isRainTold 1 := ⟨(TQ4 96 rfl rfl), (TQ4 97 rfl rfl), (TQ1 7 rfl rfl), (TQ4 98 rfl rfl), ⟨by decide +kernel, by decide +kernel⟩, by decide +kernel, by decide⟩
theorem mf_X2_fades : MFv mX2_fades 2 := ⟨(TQ4 108 rfl rfl), (TQ4 109 rfl rfl), (TQ1 7 rfl rfl), (TQ4 110 rfl rfl), ⟨by decide +kernel, by decide +kernel⟩, by decide +kernel, by decide⟩
theorem mf_X2_passHour : MFv mX2_passHour 6 := ⟨(TQ4 104 rfl rfl), (TQ4 105 rfl rfl), (TQ1 7 rfl rfl), (TQ4 106 rfl rfl), ⟨by decide +kernel, by decide +kernel⟩, by decide +kernel, by decide⟩
theorem mf_X0_passAllHours : MFv mX0_passAllHours 1 := ⟨(TQ5 19 rfl rfl), TT_s 29 rfl rfl, (TQ1 15 rfl rfl), (TQ5 20 rfl rfl), ⟨by decide +kernel, by decide +kernel⟩, by decide +kernel, by decide⟩
theorem mf_X11_difference : MFs mX11_difference 4 := ⟨(TQ5 34 rfl rfl), (TQ1 1 rfl rfl), (TQ5 35 rfl rfl), ⟨by decide +kernel, by decide +kernel⟩, by decide +kernel, by decide⟩
theorem mf_X0_areOthersAsTold : MFv mX0_areOthersAsTold 2 := ⟨(TQ5 31 rfl rfl), TT_s 31 rfl rfl, (TQ1 15 rfl rfl), (TQ5 32 rfl rfl), ⟨by decide +kernel, by decide +kernel⟩, by decide +kernel, by decide⟩
theorem mf_X0_isAsTold : MFv mX0_isAsTold 4 := ⟨(TQ5 45 rfl rfl), TT_s 33 rfl rfl, (TQ1 15 rfl rfl), (TQ5 46 rfl rfl), ⟨by decide +kernel, by decide +kernel⟩, by decide +kernel, by decide⟩
theorem mf_X0_searchHours : MFv mX0_searchHours 3 := ⟨(TQ5 41 rfl rfl), TT_s 32 rfl rfl, (TQ1 15 rfl rfl), (TQ5 42 rfl rfl), ⟨by decide +kernel, by decide +kernel⟩, by decide +kernel, by decide⟩
theorem mf_X0_search : MFv mX0_search 3 := ⟨(TQ5 7 rfl rfl), (TQ5 8 rfl rfl), (TQ1 15 rfl rfl), (TQ5 9 rfl rfl), ⟨by decide +kernel, by decide +kernel⟩, by decide +kernel, by decide⟩
theorem mf_X1_draw : MFv mX1_draw 1 := ⟨(TQ5 143 rfl rfl), TT_s 37 rfl rfl, (TQ1 16 rfl rfl), (TQ5 144 rfl rfl), ⟨by decide +kernel, by decide +kernel⟩, by decide +kernel, by decide⟩
theorem mf_X1_drawWalks : MFv mX1_drawWalks 2 := ⟨(TQ5 138 rfl rfl), TT_s 36 rfl rfl, (TQ1 16 rfl rfl), (TQ5 139 rfl rfl), ⟨by decide +kernel, by decide +kernel⟩, by decide +kernel, by decide⟩
theorem mf_X10_swap : MFv mX10_swap 2 := ⟨(TQ4 53 rfl rfl), (TQ4 54 rfl rfl), (TQ1 9 rfl rfl), (TQ4 55 rfl rfl), ⟨by decide +kernel, by decide +kernel⟩, by decide +kernel, by decide⟩
theorem mf_X1_drawChange : MFv mX1_drawChange 2 := ⟨(TQ5 149 rfl rfl), TT_s 38 rfl rfl, (TQ1 16 rfl rfl), (TQ5 150 rfl rfl), ⟨by decide +kernel, by decide +kernel⟩, by decide +kernel, by decide⟩
theorem mf_X1_drawRain : MFv mX1_drawRain 0 := ⟨(TQ5 154 rfl rfl), TT_s 39 rfl rfl, (TQ1 16 rfl rfl), (TQ5 155 rfl rfl), ⟨by decide +kernel, by decide +kernel⟩, by decide +kernel, by decide⟩
theorem mf_X10_fadeCloth : MFv mX10_fadeCloth 2 := ⟨(TQ4 117 rfl rfl), TT_s 17 rfl rfl, (TQ1 9 rfl rfl), (TQ4 118 rfl rfl), ⟨by decide +kernel, by decide +kernel⟩, by decide +kernel, by decide⟩
theorem mf_X10_mingle : MFv mX10_mingle 2 := ⟨(TQ4 122 rfl rfl), TT_s 18 rfl rfl, (TQ1 9 rfl rfl), (TQ4 123 rfl rfl), ⟨by decide +kernel, by decide +kernel⟩, by decide +kernel, by decide⟩
theorem mf_X10_passHour : MFv mX10_passHour 2 := ⟨(TQ4 92 rfl rfl), (TQ4 93 rfl rfl), (TQ1 9 rfl rfl), (TQ4 94 rfl rfl), ⟨by decide +kernel, by decide +kernel⟩, by decide +kernel, by decide⟩
theorem mf_X1_passHours : MFv mX1_passHours 4 := ⟨(TQ5 133 rfl rfl), (TQ5 134 rfl rfl), (TQ1 16 rfl rfl), (TQ5 135 rfl rfl), ⟨by decide +kernel, by decide +kernel⟩, by decide +kernel, by decide⟩
theorem mf_X10_copyFrom : MFv mX10_copyFrom 1 := ⟨(TQ4 44 rfl rfl), (TQ4 45 rfl rfl), (TQ1 9 rfl rfl), (TQ4 46 rfl rfl), ⟨by decide +kernel, by decide +kernel⟩, by decide +kernel, by decide⟩
theorem mf_X1_endsInOwnCoat : MFv mX1_endsInOwnCoat 4 := ⟨(TQ5 166 rfl rfl), (TQ5 167 rfl rfl), (TQ1 16 rfl rfl), (TQ5 168 rfl rfl), ⟨by decide +kernel, by decide +kernel⟩, by decide +kernel, by decide⟩
theorem mf_J7_fill_d0a16 : MFs mJ7_fill_d0a16 2 := ⟨(TQ3 85 rfl rfl), (TQ1 19 rfl rfl), (TQ3 86 rfl rfl), ⟨by decide +kernel, by decide +kernel⟩, by decide +kernel, by decide⟩
theorem mf_X2_clear : MFv mX2_clear 0 := ⟨(TQ3 78 rfl rfl), (TQ3 79 rfl rfl), (TQ1 7 rfl rfl), (TQ3 80 rfl rfl), ⟨by decide +kernel, by decide +kernel⟩, by decide +kernel, by decide⟩
theorem mf_X2_copyFrom : MFv mX2_copyFrom 1 := ⟨(TQ3 214 rfl rfl), (TQ3 215 rfl rfl), (TQ1 7 rfl rfl), (TQ3 216 rfl rfl), ⟨by decide +kernel, by decide +kernel⟩, by decide +kernel, by decide⟩
theorem mf_X2_has : MFv mX2_has 2 := ⟨(TQ4 9 rfl rfl), (TQ4 10 rfl rfl), (TQ1 7 rfl rfl), (TQ4 11 rfl rfl), ⟨by decide +kernel, by decide +kernel⟩, by decide +kernel, by decide⟩
theorem mf_X2_nameOf : MFv mX2_nameOf 2 := ⟨(TQ5 175 rfl rfl), (TQ5 176 rfl rfl), (TQ1 7 rfl rfl), (TQ5 177 rfl rfl), ⟨by decide +kernel, by decide +kernel⟩, by decide +kernel, by decide⟩
theorem mf_X2_numberOf : MFv mX2_numberOf 2 := ⟨(TQ3 157 rfl rfl), (TQ3 158 rfl rfl), (TQ1 7 rfl rfl), (TQ3 159 rfl rfl), ⟨by decide +kernel, by decide +kernel⟩, by decide +kernel, by decide⟩
theorem mf_X2_isTold : MFv mX2_isTold 1 := ⟨(TQ3 153 rfl rfl), (TQ3 154 rfl rfl), (TQ1 7 rfl rfl), (TQ3 155 rfl rfl), ⟨by decide +kernel, by decide +kernel⟩, by decide +kernel, by decide⟩
theorem mf_X2_tell : MFv mX2_tell 2 := ⟨(TQ3 161 rfl rfl), (TQ3 162 rfl rfl), (TQ1 7 rfl rfl), (TQ3 163 rfl rfl), ⟨by decide +kernel, by decide +kernel⟩, by decide +kernel, by decide⟩
theorem mf_X2_gain : MFv mX2_gain 3 := ⟨(TQ5 72 rfl rfl), (TQ5 73 rfl rfl), (TQ1 7 rfl rfl), (TQ5 74 rfl rfl), ⟨by decide +kernel, by decide +kernel⟩, by decide +kernel, by decide⟩
theorem mf_X8_isBlank : MFs mX8_isBlank 1 := ⟨(TQ3 100 rfl rfl), (TQ1 2 rfl rfl), (TQ3 101 rfl rfl), ⟨by decide +kernel, by decide +kernel⟩, by decide +kernel, by decide⟩
theorem mf_X8_addToken : MFv mX8_addToken 3 := ⟨(TQ3 104 rfl rfl), TT_s 1 rfl rfl, (TQ1 2 rfl rfl), (TQ3 105 rfl rfl), ⟨by decide +kernel, by decide +kernel⟩, by decide +kernel, by decide⟩
theorem mf_X8_isLetter : MFs mX8_isLetter 1 := ⟨(TQ3 107 rfl rfl), (TQ1 2 rfl rfl), (TQ3 108 rfl rfl), ⟨by decide +kernel, by decide +kernel⟩, by decide +kernel, by decide⟩
theorem mf_X8_isDigit : MFs mX8_isDigit 1 := ⟨(TQ3 110 rfl rfl), (TQ1 2 rfl rfl), (TQ3 111 rfl rfl), ⟨by decide +kernel, by decide +kernel⟩, by decide +kernel, by decide⟩
theorem mf_X8_kindOfWord : MFv mX8_kindOfWord 1 := ⟨(TQ3 120 rfl rfl), TT_s 3 rfl rfl, (TQ1 2 rfl rfl), (TQ3 121 rfl rfl), ⟨by decide +kernel, by decide +kernel⟩, by decide +kernel, by decide⟩
theorem mf_X8_readRun : MFv mX8_readRun 1 := ⟨(TQ3 114 rfl rfl), TT_s 2 rfl rfl, (TQ1 2 rfl rfl), (TQ3 115 rfl rfl), ⟨by decide +kernel, by decide +kernel⟩, by decide +kernel, by decide⟩
theorem mf_X8_isSign : MFs mX8_isSign 1 := ⟨(TQ3 123 rfl rfl), (TQ1 2 rfl rfl), (TQ3 124 rfl rfl), ⟨by decide +kernel, by decide +kernel⟩, by decide +kernel, by decide⟩
theorem mf_X8_readToken : MFv mX8_readToken 2 := ⟨(TQ3 94 rfl rfl), TT_s 0 rfl rfl, (TQ1 2 rfl rfl), (TQ3 95 rfl rfl), ⟨by decide +kernel, by decide +kernel⟩, by decide +kernel, by decide⟩
theorem mf_X8_begin : MFv mX8_begin 1 := ⟨(TQ3 89 rfl rfl), (TQ3 90 rfl rfl), (TQ1 2 rfl rfl), (TQ3 91 rfl rfl), ⟨by decide +kernel, by decide +kernel⟩, by decide +kernel, by decide⟩
theorem mf_X8_fail : MFv mX8_fail 1 := ⟨(TQ3 130 rfl rfl), (TQ3 131 rfl rfl), (TQ1 2 rfl rfl), (TQ3 132 rfl rfl), ⟨by decide +kernel, by decide +kernel⟩, by decide +kernel, by decide⟩
theorem mf_X8_step : MFv mX8_step 0 := ⟨(TQ3 136 rfl rfl), (TQ3 137 rfl rfl), (TQ1 2 rfl rfl), (TQ3 138 rfl rfl), ⟨by decide +kernel, by decide +kernel⟩, by decide +kernel, by decide⟩
theorem mf_X8_content : MFv mX8_content 0 := ⟨(TQ3 150 rfl rfl), TT_s 6 rfl rfl, (TQ1 2 rfl rfl), (TQ3 151 rfl rfl), ⟨by decide +kernel, by decide +kernel⟩, by decide +kernel, by decide⟩
theorem mf_X8_takeNew : MFv mX8_takeNew 2 := ⟨(TQ3 144 rfl rfl), (TQ3 145 rfl rfl), (TQ1 2 rfl rfl), (TQ3 146 rfl rfl), ⟨by decide +kernel, by decide +kernel⟩, by decide +kernel, by decide⟩
theorem mf_X8_takeNumber : MFv mX8_takeNumber 2 := ⟨(TQ3 168 rfl rfl), (TQ3 169 rfl rfl), (TQ1 2 rfl rfl), (TQ3 170 rfl rfl), ⟨by decide +kernel, by decide +kernel⟩, by decide +kernel, by decide⟩
theorem mf_X3_readScent : MFv mX3_readScent 0 := ⟨(TQ3 141 rfl rfl), TT_s 5 rfl rfl, (TQ1 8 rfl rfl), (TQ3 142 rfl rfl), ⟨by decide +kernel, by decide +kernel⟩, by decide +kernel, by decide⟩
theorem mf_X8_takeTold : MFv mX8_takeTold 2 := ⟨(TQ3 181 rfl rfl), (TQ3 182 rfl rfl), (TQ1 2 rfl rfl), (TQ3 183 rfl rfl), ⟨by decide +kernel, by decide +kernel⟩, by decide +kernel, by decide⟩
theorem mf_X8_failAtTaken : MFv mX8_failAtTaken 1 := ⟨(TQ3 186 rfl rfl), (TQ3 187 rfl rfl), (TQ1 2 rfl rfl), (TQ3 188 rfl rfl), ⟨by decide +kernel, by decide +kernel⟩, by decide +kernel, by decide⟩
theorem mf_X3_readSmell : MFv mX3_readSmell 1 := ⟨(TQ3 178 rfl rfl), TT_s 8 rfl rfl, (TQ1 8 rfl rfl), (TQ3 179 rfl rfl), ⟨by decide +kernel, by decide +kernel⟩, by decide +kernel, by decide⟩
theorem mf_X3_readPlace : MFv mX3_readPlace 0 := ⟨(TQ3 174 rfl rfl), TT_s 7 rfl rfl, (TQ1 8 rfl rfl), (TQ3 175 rfl rfl), ⟨by decide +kernel, by decide +kernel⟩, by decide +kernel, by decide⟩
theorem mf_X3_readWitness : MFv mX3_readWitness 0 := ⟨(TQ3 191 rfl rfl), TT_s 9 rfl rfl, (TQ1 8 rfl rfl), (TQ3 192 rfl rfl), ⟨by decide +kernel, by decide +kernel⟩, by decide +kernel, by decide⟩
theorem mf_X3_addLine : MFv mX3_addLine 1 := ⟨(TQ3 199 rfl rfl), TT_s 11 rfl rfl, (TQ1 8 rfl rfl), (TQ3 200 rfl rfl), ⟨by decide +kernel, by decide +kernel⟩, by decide +kernel, by decide⟩
theorem mf_X3_readSmoke : MFv mX3_readSmoke 0 := ⟨(TQ3 195 rfl rfl), TT_s 10 rfl rfl, (TQ1 8 rfl rfl), (TQ3 196 rfl rfl), ⟨by decide +kernel, by decide +kernel⟩, by decide +kernel, by decide⟩
theorem mf_X3_readWent : MFv mX3_readWent 0 := ⟨(TQ3 203 rfl rfl), TT_s 12 rfl rfl, (TQ1 8 rfl rfl), (TQ3 204 rfl rfl), ⟨by decide +kernel, by decide +kernel⟩, by decide +kernel, by decide⟩
theorem mf_X3_readRain : MFv mX3_readRain 0 := ⟨(TQ3 207 rfl rfl), TT_s 13 rfl rfl, (TQ1 8 rfl rfl), (TQ3 208 rfl rfl), ⟨by decide +kernel, by decide +kernel⟩, by decide +kernel, by decide⟩
theorem mf_X3_readLine : MFv mX3_readLine 0 := ⟨(TQ3 127 rfl rfl), TT_s 4 rfl rfl, (TQ1 8 rfl rfl), (TQ3 128 rfl rfl), ⟨by decide +kernel, by decide +kernel⟩, by decide +kernel, by decide⟩
theorem mf_X8_take : MFv mX8_take 1 := ⟨(TQ3 210 rfl rfl), (TQ3 211 rfl rfl), (TQ1 2 rfl rfl), (TQ3 212 rfl rfl), ⟨by decide +kernel, by decide +kernel⟩, by decide +kernel, by decide⟩
theorem mf_X3_read : MFv mX3_read 0 := ⟨(TQ3 74 rfl rfl), (TQ3 75 rfl rfl), (TQ1 8 rfl rfl), (TQ3 76 rfl rfl), ⟨by decide +kernel, by decide +kernel⟩, by decide +kernel, by decide⟩
theorem mf_X11_strongest : MFs mX11_strongest 2 := ⟨(TQ4 30 rfl rfl), (TQ1 1 rfl rfl), (TQ4 31 rfl rfl), ⟨by decide +kernel, by decide +kernel⟩, by decide +kernel, by decide⟩
theorem mf_X4_isAnyClean : MFs mX4_isAnyClean 1 := ⟨(TQ4 137 rfl rfl), (TQ1 13 rfl rfl), (TQ4 138 rfl rfl), ⟨by decide +kernel, by decide +kernel⟩, by decide +kernel, by decide⟩
theorem mf_X4_isDrowned : MFs mX4_isDrowned 5 := ⟨(TQ4 156 rfl rfl), (TQ1 13 rfl rfl), (TQ4 157 rfl rfl), ⟨by decide +kernel, by decide +kernel⟩, by decide +kernel, by decide⟩
theorem mf_X4_open : MFs mX4_open 5 := ⟨(TQ4 159 rfl rfl), (TQ1 13 rfl rfl), (TQ4 160 rfl rfl), ⟨by decide +kernel, by decide +kernel⟩, by decide +kernel, by decide⟩
theorem mf_X4_tryCloth : MFv mX4_tryCloth 4 := ⟨(TQ4 152 rfl rfl), TT_s 21 rfl rfl, (TQ1 13 rfl rfl), (TQ4 153 rfl rfl), ⟨by decide +kernel, by decide +kernel⟩, by decide +kernel, by decide⟩
theorem mf_X4_tryNext : MFv mX4_tryNext 3 := ⟨(TQ4 148 rfl rfl), TT_s 20 rfl rfl, (TQ1 13 rfl rfl), (TQ4 149 rfl rfl), ⟨by decide +kernel, by decide +kernel⟩, by decide +kernel, by decide⟩
theorem mf_X4_canOneNose : MFv mX4_canOneNose 1 := ⟨(TQ4 142 rfl rfl), TT_s 19 rfl rfl, (TQ1 13 rfl rfl), (TQ4 143 rfl rfl), ⟨by decide +kernel, by decide +kernel⟩, by decide +kernel, by decide⟩
theorem mf_X4_findOrder : MFv mX4_findOrder 1 := ⟨(TQ4 133 rfl rfl), (TQ4 134 rfl rfl), (TQ1 13 rfl rfl), (TQ4 135 rfl rfl), ⟨by decide +kernel, by decide +kernel⟩, by decide +kernel, by decide⟩
theorem mf_X4_foundAt : MFv mX4_foundAt 1 := ⟨(TQ4 168 rfl rfl), (TQ4 169 rfl rfl), (TQ1 13 rfl rfl), (TQ4 170 rfl rfl), ⟨by decide +kernel, by decide +kernel⟩, by decide +kernel, by decide⟩
theorem mf_X4_share : MFv mX4_share 1 := ⟨(TQ4 182 rfl rfl), TT_s 22 rfl rfl, (TQ1 13 rfl rfl), (TQ4 183 rfl rfl), ⟨by decide +kernel, by decide +kernel⟩, by decide +kernel, by decide⟩
theorem mf_X4_fewest : MFv mX4_fewest 1 := ⟨(TQ4 176 rfl rfl), (TQ4 177 rfl rfl), (TQ1 13 rfl rfl), (TQ4 178 rfl rfl), ⟨by decide +kernel, by decide +kernel⟩, by decide +kernel, by decide⟩
theorem mf_X10_hasCloth : MFv mX10_hasCloth 1 := ⟨(TQ4 22 rfl rfl), (TQ4 23 rfl rfl), (TQ1 9 rfl rfl), (TQ4 24 rfl rfl), ⟨by decide +kernel, by decide +kernel⟩, by decide +kernel, by decide⟩
theorem mf_X4_isRowTold : MFs mX4_isRowTold 2 := ⟨(TQ4 193 rfl rfl), (TQ1 13 rfl rfl), (TQ4 194 rfl rfl), ⟨by decide +kernel, by decide +kernel⟩, by decide +kernel, by decide⟩
theorem mf_X4_openRow : MFv mX4_openRow 2 := ⟨(TQ4 189 rfl rfl), (TQ4 190 rfl rfl), (TQ1 13 rfl rfl), (TQ4 191 rfl rfl), ⟨by decide +kernel, by decide +kernel⟩, by decide +kernel, by decide⟩
theorem mf_X5_sortOf : MFs mX5_sortOf 1 := ⟨(TQ5 117 rfl rfl), (TQ1 12 rfl rfl), (TQ5 118 rfl rfl), ⟨by decide +kernel, by decide +kernel⟩, by decide +kernel, by decide⟩
theorem mf_X5_isSo : MFs mX5_isSo 4 := ⟨(TQ5 120 rfl rfl), (TQ1 12 rfl rfl), (TQ5 121 rfl rfl), ⟨by decide +kernel, by decide +kernel⟩, by decide +kernel, by decide⟩
theorem mf_X5_readLine : MFv mX5_readLine 4 := ⟨(TQ5 110 rfl rfl), TT_s 34 rfl rfl, (TQ1 12 rfl rfl), (TQ5 111 rfl rfl), ⟨by decide +kernel, by decide +kernel⟩, by decide +kernel, by decide⟩
theorem mf_X5_read : MFv mX5_read 3 := ⟨(TQ5 104 rfl rfl), (TQ5 105 rfl rfl), (TQ1 12 rfl rfl), (TQ5 106 rfl rfl), ⟨by decide +kernel, by decide +kernel⟩, by decide +kernel, by decide⟩
theorem mf_X6_clear : MFv mX6_clear 0 := ⟨(TQ3 233 rfl rfl), (TQ3 234 rfl rfl), (TQ1 10 rfl rfl), (TQ3 235 rfl rfl), ⟨by decide +kernel, by decide +kernel⟩, by decide +kernel, by decide⟩
theorem mf_X6_isEmpty : MFv mX6_isEmpty 0 := ⟨(TQ6 13 rfl rfl), (TQ6 14 rfl rfl), (TQ1 10 rfl rfl), (TQ6 15 rfl rfl), ⟨by decide +kernel, by decide +kernel⟩, by decide +kernel, by decide⟩
theorem mf_X6_copyFrom : MFv mX6_copyFrom 1 := ⟨(TQ6 4 rfl rfl), (TQ6 5 rfl rfl), (TQ1 10 rfl rfl), (TQ6 6 rfl rfl), ⟨by decide +kernel, by decide +kernel⟩, by decide +kernel, by decide⟩
theorem mf_X6_add : MFv mX6_add 3 := ⟨(TQ5 232 rfl rfl), (TQ5 233 rfl rfl), (TQ1 10 rfl rfl), (TQ5 234 rfl rfl), ⟨by decide +kernel, by decide +kernel⟩, by decide +kernel, by decide⟩
theorem mf_X11_total : MFs mX11_total 2 := ⟨(TQ4 33 rfl rfl), (TQ1 1 rfl rfl), (TQ4 34 rfl rfl), ⟨by decide +kernel, by decide +kernel⟩, by decide +kernel, by decide⟩
theorem mf_X6_compares : MFs mX6_compares 3 := ⟨(TQ6 28 rfl rfl), (TQ1 10 rfl rfl), (TQ6 29 rfl rfl), ⟨by decide +kernel, by decide +kernel⟩, by decide +kernel, by decide⟩
theorem mf_X6_most : MFs mX6_most 2 := ⟨(TQ6 31 rfl rfl), (TQ1 10 rfl rfl), (TQ6 32 rfl rfl), ⟨by decide +kernel, by decide +kernel⟩, by decide +kernel, by decide⟩
theorem mf_X6_holds : MFv mX6_holds 4 := ⟨(TQ6 24 rfl rfl), TT_s 49 rfl rfl, (TQ1 10 rfl rfl), (TQ6 25 rfl rfl), ⟨by decide +kernel, by decide +kernel⟩, by decide +kernel, by decide⟩
theorem mf_X6_isSaidOf : MFv mX6_isSaidOf 3 := ⟨(TQ6 17 rfl rfl), (TQ6 18 rfl rfl), (TQ1 10 rfl rfl), (TQ6 19 rfl rfl), ⟨by decide +kernel, by decide +kernel⟩, by decide +kernel, by decide⟩
theorem mf_X7_added : MFv mX7_added 3 := ⟨(TQ5 229 rfl rfl), TT_s 47 rfl rfl, (TQ1 11 rfl rfl), (TQ5 230 rfl rfl), ⟨by decide +kernel, by decide +kernel⟩, by decide +kernel, by decide⟩
theorem mf_X7_readMeasure : MFv mX7_readMeasure 1 := ⟨(TQ6 0 rfl rfl), TT_s 48 rfl rfl, (TQ1 11 rfl rfl), (TQ6 1 rfl rfl), ⟨by decide +kernel, by decide +kernel⟩, by decide +kernel, by decide⟩
theorem mf_X7_beginsOne : MFs mX7_beginsOne 1 := ⟨(TQ5 218 rfl rfl), (TQ1 11 rfl rfl), (TQ5 219 rfl rfl), ⟨by decide +kernel, by decide +kernel⟩, by decide +kernel, by decide⟩
theorem mf_X7_readAll : MFv mX7_readAll 2 := ⟨(TQ5 211 rfl rfl), TT_s 44 rfl rfl, (TQ1 11 rfl rfl), (TQ5 212 rfl rfl), ⟨by decide +kernel, by decide +kernel⟩, by decide +kernel, by decide⟩
theorem mf_X7_readCond : MFv mX7_readCond 2 := ⟨(TQ5 207 rfl rfl), TT_s 43 rfl rfl, (TQ1 11 rfl rfl), (TQ5 208 rfl rfl), ⟨by decide +kernel, by decide +kernel⟩, by decide +kernel, by decide⟩
theorem mf_X7_readInside : MFv mX7_readInside 3 := ⟨(TQ5 224 rfl rfl), TT_s 46 rfl rfl, (TQ1 11 rfl rfl), (TQ5 225 rfl rfl), ⟨by decide +kernel, by decide +kernel⟩, by decide +kernel, by decide⟩
theorem mf_X7_readOne : MFv mX7_readOne 2 := ⟨(TQ5 215 rfl rfl), TT_s 45 rfl rfl, (TQ1 11 rfl rfl), (TQ5 216 rfl rfl), ⟨by decide +kernel, by decide +kernel⟩, by decide +kernel, by decide⟩
theorem mf_X7_read : MFv mX7_read 1 := ⟨(TQ5 200 rfl rfl), (TQ5 201 rfl rfl), (TQ1 11 rfl rfl), (TQ5 202 rfl rfl), ⟨by decide +kernel, by decide +kernel⟩, by decide +kernel, by decide⟩
theorem mf_J3_checkIndex_8e157 : MFs mJ3_checkIndex_8e157 3 := ⟨(TQ1 70 rfl rfl), (TQ1 5 rfl rfl), (TQ1 71 rfl rfl), ⟨by decide +kernel, by decide +kernel⟩, by decide +kernel, by decide⟩
theorem mf_X8_keyWord : MFs mX8_keyWord 1 := ⟨(TQ1 51 rfl rfl), (TQ1 2 rfl rfl), (TQ1 52 rfl rfl), ⟨by decide +kernel, by decide +kernel⟩, by decide +kernel, by decide⟩
theorem mf_X8_addFour : MFv mX8_addFour 1 := ⟨(TQ3 56 rfl rfl), (TQ3 57 rfl rfl), (TQ1 2 rfl rfl), (TQ3 58 rfl rfl), ⟨by decide +kernel, by decide +kernel⟩, by decide +kernel, by decide⟩
theorem mf_X9_findMostAir : MFv mX9_findMostAir 1 := ⟨(TQ4 212 rfl rfl), TT_s 23 rfl rfl, (TQ1 14 rfl rfl), (TQ4 213 rfl rfl), ⟨by decide +kernel, by decide +kernel⟩, by decide +kernel, by decide⟩
theorem mf_X9_addRow : MFv mX9_addRow 0 := ⟨(TQ4 222 rfl rfl), TT_s 25 rfl rfl, (TQ1 14 rfl rfl), (TQ4 223 rfl rfl), ⟨by decide +kernel, by decide +kernel⟩, by decide +kernel, by decide⟩
theorem mf_X9_canEndAsTold : MFv mX9_canEndAsTold 3 := ⟨(TQ4 232 rfl rfl), TT_s 27 rfl rfl, (TQ1 14 rfl rfl), (TQ4 233 rfl rfl), ⟨by decide +kernel, by decide +kernel⟩, by decide +kernel, by decide⟩
theorem mf_X9_tryHour : MFv mX9_tryHour 3 := ⟨(TQ4 218 rfl rfl), TT_s 24 rfl rfl, (TQ1 14 rfl rfl), (TQ4 219 rfl rfl), ⟨by decide +kernel, by decide +kernel⟩, by decide +kernel, by decide⟩
theorem mf_X9_tryPlace : MFv mX9_tryPlace 4 := ⟨(TQ4 227 rfl rfl), TT_s 26 rfl rfl, (TQ1 14 rfl rfl), (TQ4 228 rfl rfl), ⟨by decide +kernel, by decide +kernel⟩, by decide +kernel, by decide⟩
theorem mf_X9_search : MFv mX9_search 4 := ⟨(TQ4 205 rfl rfl), (TQ4 206 rfl rfl), (TQ1 14 rfl rfl), (TQ4 207 rfl rfl), ⟨by decide +kernel, by decide +kernel⟩, by decide +kernel, by decide⟩
theorem mf_X10_begin : MFv mX10_begin 1 := ⟨(TQ3 227 rfl rfl), (TQ3 228 rfl rfl), (TQ1 9 rfl rfl), (TQ3 229 rfl rfl), ⟨by decide +kernel, by decide +kernel⟩, by decide +kernel, by decide⟩
theorem mf_X10_wash : MFv mX10_wash 1 := ⟨(TQ4 63 rfl rfl), (TQ4 64 rfl rfl), (TQ1 9 rfl rfl), (TQ4 65 rfl rfl), ⟨by decide +kernel, by decide +kernel⟩, by decide +kernel, by decide⟩
theorem mf_X10_cut : MFv mX10_cut 2 := ⟨(TQ4 75 rfl rfl), (TQ4 76 rfl rfl), (TQ1 9 rfl rfl), (TQ4 77 rfl rfl), ⟨by decide +kernel, by decide +kernel⟩, by decide +kernel, by decide⟩
theorem mf_X10_hoursTillClean : MFv mX10_hoursTillClean 2 := ⟨(TQ5 96 rfl rfl), (TQ5 97 rfl rfl), (TQ1 9 rfl rfl), (TQ5 98 rfl rfl), ⟨by decide +kernel, by decide +kernel⟩, by decide +kernel, by decide⟩
theorem mf_X11_feed : MFv mX11_feed 5 := ⟨(TQ3 52 rfl rfl), (TQ3 53 rfl rfl), (TQ1 1 rfl rfl), (TQ3 54 rfl rfl), ⟨by decide +kernel, by decide +kernel⟩, by decide +kernel, by decide⟩
theorem mf_X11_end : MFv mX11_end 1 := ⟨(TQ3 66 rfl rfl), (TQ3 67 rfl rfl), (TQ1 1 rfl rfl), (TQ3 68 rfl rfl), ⟨by decide +kernel, by decide +kernel⟩, by decide +kernel, by decide⟩
theorem mf_X11_forgetPast : MFv mX11_forgetPast 0 := ⟨(TQ3 238 rfl rfl), TT_s 14 rfl rfl, (TQ1 1 rfl rfl), (TQ3 239 rfl rfl), ⟨by decide +kernel, by decide +kernel⟩, by decide +kernel, by decide⟩
theorem mf_X11_hill : MFv mX11_hill 0 := ⟨(TQ3 70 rfl rfl), (TQ3 71 rfl rfl), (TQ1 1 rfl rfl), (TQ3 72 rfl rfl), ⟨by decide +kernel, by decide +kernel⟩, by decide +kernel, by decide⟩
theorem mf_X11_fault : MFv mX11_fault 0 := ⟨(TQ4 1 rfl rfl), (TQ4 2 rfl rfl), (TQ1 1 rfl rfl), (TQ4 3 rfl rfl), ⟨by decide +kernel, by decide +kernel⟩, by decide +kernel, by decide⟩
theorem mf_X11_air : MFv mX11_air 2 := ⟨(TQ6 55 rfl rfl), (TQ6 56 rfl rfl), (TQ1 1 rfl rfl), (TQ6 57 rfl rfl), ⟨by decide +kernel, by decide +kernel⟩, by decide +kernel, by decide⟩
theorem mf_X11_fade : MFv mX11_fade 1 := ⟨(TQ4 5 rfl rfl), (TQ4 6 rfl rfl), (TQ1 1 rfl rfl), (TQ4 7 rfl rfl), ⟨by decide +kernel, by decide +kernel⟩, by decide +kernel, by decide⟩
theorem mf_X11_witness : MFv mX11_witness 2 := ⟨(TQ6 123 rfl rfl), (TQ6 124 rfl rfl), (TQ1 1 rfl rfl), (TQ6 125 rfl rfl), ⟨by decide +kernel, by decide +kernel⟩, by decide +kernel, by decide⟩
theorem mf_X11_coat : MFv mX11_coat 2 := ⟨(TQ4 14 rfl rfl), (TQ4 15 rfl rfl), (TQ1 1 rfl rfl), (TQ4 16 rfl rfl), ⟨by decide +kernel, by decide +kernel⟩, by decide +kernel, by decide⟩
theorem mf_X11_cloth : MFv mX11_cloth 2 := ⟨(TQ4 18 rfl rfl), (TQ4 19 rfl rfl), (TQ1 1 rfl rfl), (TQ4 20 rfl rfl), ⟨by decide +kernel, by decide +kernel⟩, by decide +kernel, by decide⟩
theorem mf_X11_box : MFv mX11_box 2 := ⟨(TQ4 26 rfl rfl), (TQ4 27 rfl rfl), (TQ1 1 rfl rfl), (TQ4 28 rfl rfl), ⟨by decide +kernel, by decide +kernel⟩, by decide +kernel, by decide⟩
theorem mf_X11_keepPast : MFv mX11_keepPast 0 := ⟨(TQ4 41 rfl rfl), TT_s 15 rfl rfl, (TQ1 1 rfl rfl), (TQ4 42 rfl rfl), ⟨by decide +kernel, by decide +kernel⟩, by decide +kernel, by decide⟩
theorem mf_X11_goes : MFv mX11_goes 2 := ⟨(TQ4 36 rfl rfl), (TQ4 37 rfl rfl), (TQ1 1 rfl rfl), (TQ4 38 rfl rfl), ⟨by decide +kernel, by decide +kernel⟩, by decide +kernel, by decide⟩
theorem mf_X11_change : MFv mX11_change 2 := ⟨(TQ4 49 rfl rfl), (TQ4 50 rfl rfl), (TQ1 1 rfl rfl), (TQ4 51 rfl rfl), ⟨by decide +kernel, by decide +kernel⟩, by decide +kernel, by decide⟩
theorem mf_X11_soap : MFv mX11_soap 1 := ⟨(TQ4 59 rfl rfl), (TQ4 60 rfl rfl), (TQ1 1 rfl rfl), (TQ4 61 rfl rfl), ⟨by decide +kernel, by decide +kernel⟩, by decide +kernel, by decide⟩
theorem mf_X11_isBox : MFs mX11_isBox 1 := ⟨(TQ4 72 rfl rfl), (TQ1 1 rfl rfl), (TQ4 73 rfl rfl), ⟨by decide +kernel, by decide +kernel⟩, by decide +kernel, by decide⟩
theorem mf_X11_send : MFv mX11_send 2 := ⟨(TQ4 68 rfl rfl), (TQ4 69 rfl rfl), (TQ1 1 rfl rfl), (TQ4 70 rfl rfl), ⟨by decide +kernel, by decide +kernel⟩, by decide +kernel, by decide⟩
theorem mf_X11_move : MFv mX11_move 2 := ⟨(TQ4 80 rfl rfl), (TQ4 81 rfl rfl), (TQ1 1 rfl rfl), (TQ4 82 rfl rfl), ⟨by decide +kernel, by decide +kernel⟩, by decide +kernel, by decide⟩
theorem mf_X11_canPass : MFv mX11_canPass 1 := ⟨(TQ4 89 rfl rfl), TT_s 16 rfl rfl, (TQ1 1 rfl rfl), (TQ4 90 rfl rfl), ⟨by decide +kernel, by decide +kernel⟩, by decide +kernel, by decide⟩
theorem mf_X11_on : MFv mX11_on 1 := ⟨(TQ4 84 rfl rfl), (TQ4 85 rfl rfl), (TQ1 1 rfl rfl), (TQ4 86 rfl rfl), ⟨by decide +kernel, by decide +kernel⟩, by decide +kernel, by decide⟩
theorem mf_X11_undo : MFv mX11_undo 0 := ⟨(TQ4 125 rfl rfl), (TQ4 126 rfl rfl), (TQ1 1 rfl rfl), (TQ4 127 rfl rfl), ⟨by decide +kernel, by decide +kernel⟩, by decide +kernel, by decide⟩
theorem mf_X11_order : MFv mX11_order 0 := ⟨(TQ4 129 rfl rfl), (TQ4 130 rfl rfl), (TQ1 1 rfl rfl), (TQ4 131 rfl rfl), ⟨by decide +kernel, by decide +kernel⟩, by decide +kernel, by decide⟩
theorem mf_X11_opened : MFv mX11_opened 1 := ⟨(TQ4 164 rfl rfl), (TQ4 165 rfl rfl), (TQ1 1 rfl rfl), (TQ4 166 rfl rfl), ⟨by decide +kernel, by decide +kernel⟩, by decide +kernel, by decide⟩
theorem mf_X11_noses : MFv mX11_noses 0 := ⟨(TQ4 172 rfl rfl), (TQ4 173 rfl rfl), (TQ1 1 rfl rfl), (TQ4 174 rfl rfl), ⟨by decide +kernel, by decide +kernel⟩, by decide +kernel, by decide⟩
theorem mf_X11_drowned : MFv mX11_drowned 0 := ⟨(TQ4 185 rfl rfl), (TQ4 186 rfl rfl), (TQ1 1 rfl rfl), (TQ4 187 rfl rfl), ⟨by decide +kernel, by decide +kernel⟩, by decide +kernel, by decide⟩
theorem mf_X11_remains : MFv mX11_remains 1 := ⟨(TQ4 197 rfl rfl), (TQ4 198 rfl rfl), (TQ1 1 rfl rfl), (TQ4 199 rfl rfl), ⟨by decide +kernel, by decide +kernel⟩, by decide +kernel, by decide⟩
theorem mf_X11_was : MFv mX11_was 2 := ⟨(TQ4 201 rfl rfl), (TQ4 202 rfl rfl), (TQ1 1 rfl rfl), (TQ4 203 rfl rfl), ⟨by decide +kernel, by decide +kernel⟩, by decide +kernel, by decide⟩
theorem mf_X11_rows : MFv mX11_rows 2 := ⟨(TQ4 235 rfl rfl), (TQ4 236 rfl rfl), (TQ1 1 rfl rfl), (TQ4 237 rfl rfl), ⟨by decide +kernel, by decide +kernel⟩, by decide +kernel, by decide⟩
theorem mf_X11_first : MFv mX11_first 1 := ⟨(TQ4 239 rfl rfl), (TQ5 0 rfl rfl), (TQ1 1 rfl rfl), (TQ5 1 rfl rfl), ⟨by decide +kernel, by decide +kernel⟩, by decide +kernel, by decide⟩
theorem mf_X11_changed : MFv mX11_changed 0 := ⟨(TQ5 3 rfl rfl), (TQ5 4 rfl rfl), (TQ1 1 rfl rfl), (TQ5 5 rfl rfl), ⟨by decide +kernel, by decide +kernel⟩, by decide +kernel, by decide⟩
theorem mf_X11_changeAt : MFv mX11_changeAt 1 := ⟨(TQ5 48 rfl rfl), (TQ5 49 rfl rfl), (TQ1 1 rfl rfl), (TQ5 50 rfl rfl), ⟨by decide +kernel, by decide +kernel⟩, by decide +kernel, by decide⟩
theorem mf_X11_leastUnlike : MFs mX11_leastUnlike 4 := ⟨(TQ5 56 rfl rfl), (TQ1 1 rfl rfl), (TQ5 57 rfl rfl), ⟨by decide +kernel, by decide +kernel⟩, by decide +kernel, by decide⟩
theorem mf_X11_dog : MFv mX11_dog 1 := ⟨(TQ5 52 rfl rfl), (TQ5 53 rfl rfl), (TQ1 1 rfl rfl), (TQ5 54 rfl rfl), ⟨by decide +kernel, by decide +kernel⟩, by decide +kernel, by decide⟩
theorem mf_X11_unlike : MFv mX11_unlike 2 := ⟨(TQ5 60 rfl rfl), (TQ5 61 rfl rfl), (TQ1 1 rfl rfl), (TQ5 62 rfl rfl), ⟨by decide +kernel, by decide +kernel⟩, by decide +kernel, by decide⟩
theorem mf_X11_alike : MFv mX11_alike 0 := ⟨(TQ5 64 rfl rfl), (TQ5 65 rfl rfl), (TQ1 1 rfl rfl), (TQ5 66 rfl rfl), ⟨by decide +kernel, by decide +kernel⟩, by decide +kernel, by decide⟩
theorem mf_X11_kitchen : MFv mX11_kitchen 1 := ⟨(TQ5 68 rfl rfl), (TQ5 69 rfl rfl), (TQ1 1 rfl rfl), (TQ5 70 rfl rfl), ⟨by decide +kernel, by decide +kernel⟩, by decide +kernel, by decide⟩
theorem mf_X11_thread : MFv mX11_thread 1 := ⟨(TQ5 76 rfl rfl), (TQ5 77 rfl rfl), (TQ1 1 rfl rfl), (TQ5 78 rfl rfl), ⟨by decide +kernel, by decide +kernel⟩, by decide +kernel, by decide⟩
theorem mf_X11_source : MFv mX11_source 1 := ⟨(TQ5 80 rfl rfl), (TQ5 81 rfl rfl), (TQ1 1 rfl rfl), (TQ5 82 rfl rfl), ⟨by decide +kernel, by decide +kernel⟩, by decide +kernel, by decide⟩
theorem mf_X11_strangers : MFv mX11_strangers 0 := ⟨(TQ5 84 rfl rfl), (TQ5 85 rfl rfl), (TQ1 1 rfl rfl), (TQ5 86 rfl rfl), ⟨by decide +kernel, by decide +kernel⟩, by decide +kernel, by decide⟩
theorem mf_X11_wearer : MFv mX11_wearer 1 := ⟨(TQ5 88 rfl rfl), (TQ5 89 rfl rfl), (TQ1 1 rfl rfl), (TQ5 90 rfl rfl), ⟨by decide +kernel, by decide +kernel⟩, by decide +kernel, by decide⟩
theorem mf_X11_clean : MFv mX11_clean 1 := ⟨(TQ5 92 rfl rfl), (TQ5 93 rfl rfl), (TQ1 1 rfl rfl), (TQ5 94 rfl rfl), ⟨by decide +kernel, by decide +kernel⟩, by decide +kernel, by decide⟩
theorem mf_X11_pleas : MFv mX11_pleas 0 := ⟨(TQ5 100 rfl rfl), (TQ5 101 rfl rfl), (TQ1 1 rfl rfl), (TQ5 102 rfl rfl), ⟨by decide +kernel, by decide +kernel⟩, by decide +kernel, by decide⟩
theorem mf_X11_canDraw : MFv mX11_canDraw 0 := ⟨(TQ5 130 rfl rfl), TT_s 35 rfl rfl, (TQ1 1 rfl rfl), (TQ5 131 rfl rfl), ⟨by decide +kernel, by decide +kernel⟩, by decide +kernel, by decide⟩
theorem mf_X11_drawn : MFv mX11_drawn 2 := ⟨(TQ5 125 rfl rfl), (TQ5 126 rfl rfl), (TQ1 1 rfl rfl), (TQ5 127 rfl rfl), ⟨by decide +kernel, by decide +kernel⟩, by decide +kernel, by decide⟩
theorem mf_X11_weather : MFv mX11_weather 1 := ⟨(TQ5 158 rfl rfl), (TQ5 159 rfl rfl), (TQ1 1 rfl rfl), (TQ5 160 rfl rfl), ⟨by decide +kernel, by decide +kernel⟩, by decide +kernel, by decide⟩
theorem mf_X11_odds : MFv mX11_odds 3 := ⟨(TQ5 162 rfl rfl), (TQ5 163 rfl rfl), (TQ1 1 rfl rfl), (TQ5 164 rfl rfl), ⟨by decide +kernel, by decide +kernel⟩, by decide +kernel, by decide⟩
theorem mf_X11_writeByte : MFv mX11_writeByte 1 := ⟨(TQ5 185 rfl rfl), TT_s 41 rfl rfl, (TQ1 1 rfl rfl), (TQ5 186 rfl rfl), ⟨by decide +kernel, by decide +kernel⟩, by decide +kernel, by decide⟩
theorem mf_X11_writeName : MFv mX11_writeName 1 := ⟨(TQ5 180 rfl rfl), TT_s 40 rfl rfl, (TQ1 1 rfl rfl), (TQ5 181 rfl rfl), ⟨by decide +kernel, by decide +kernel⟩, by decide +kernel, by decide⟩
theorem mf_X11_writeNumber : MFv mX11_writeNumber 1 := ⟨(TQ5 189 rfl rfl), TT_s 42 rfl rfl, (TQ1 1 rfl rfl), (TQ5 190 rfl rfl), ⟨by decide +kernel, by decide +kernel⟩, by decide +kernel, by decide⟩
theorem mf_X11_write : MFv mX11_write 1 := ⟨(TQ5 171 rfl rfl), (TQ5 172 rfl rfl), (TQ1 1 rfl rfl), (TQ5 173 rfl rfl), ⟨by decide +kernel, by decide +kernel⟩, by decide +kernel, by decide⟩
theorem mf_X11_byteAt : MFv mX11_byteAt 1 := ⟨(TQ5 192 rfl rfl), (TQ5 193 rfl rfl), (TQ1 1 rfl rfl), (TQ5 194 rfl rfl), ⟨by decide +kernel, by decide +kernel⟩, by decide +kernel, by decide⟩
theorem mf_X11_sentence : MFv mX11_sentence 0 := ⟨(TQ5 196 rfl rfl), (TQ5 197 rfl rfl), (TQ1 1 rfl rfl), (TQ5 198 rfl rfl), ⟨by decide +kernel, by decide +kernel⟩, by decide +kernel, by decide⟩
theorem mf_X11_said : MFv mX11_said 1 := ⟨(TQ6 9 rfl rfl), (TQ6 10 rfl rfl), (TQ1 1 rfl rfl), (TQ6 11 rfl rfl), ⟨by decide +kernel, by decide +kernel⟩, by decide +kernel, by decide⟩
theorem mf_X11_isImage : MFv mX11_isImage 1 := ⟨(TQ6 40 rfl rfl), TT_s 50 rfl rfl, (TQ1 1 rfl rfl), (TQ6 41 rfl rfl), ⟨by decide +kernel, by decide +kernel⟩, by decide +kernel, by decide⟩
theorem mf_X11_image : MFv mX11_image 1 := ⟨(TQ6 35 rfl rfl), (TQ6 36 rfl rfl), (TQ1 1 rfl rfl), (TQ6 37 rfl rfl), ⟨by decide +kernel, by decide +kernel⟩, by decide +kernel, by decide⟩
theorem mf_X11_restore : MFv mX11_restore 1 := ⟨(TQ6 43 rfl rfl), (TQ6 44 rfl rfl), (TQ1 1 rfl rfl), (TQ6 45 rfl rfl), ⟨by decide +kernel, by decide +kernel⟩, by decide +kernel, by decide⟩
theorem mf_X11_count : MFv mX11_count 1 := ⟨(TQ6 47 rfl rfl), (TQ6 48 rfl rfl), (TQ1 1 rfl rfl), (TQ6 49 rfl rfl), ⟨by decide +kernel, by decide +kernel⟩, by decide +kernel, by decide⟩
theorem mf_X12_thrown : MFv mX12_thrown 0 := ⟨(TQ7 75 rfl rfl), (TQ7 76 rfl rfl), (TQ1 17 rfl rfl), (TQ7 77 rfl rfl), ⟨by decide +kernel, by decide +kernel⟩, by decide +kernel, by decide⟩
theorem mf_X12_refuse : MFv mX12_refuse 0 := ⟨(TQ7 224 rfl rfl), TT_s 77 rfl rfl, (TQ1 17 rfl rfl), (TQ7 225 rfl rfl), ⟨by decide +kernel, by decide +kernel⟩, by decide +kernel, by decide⟩
theorem mf_X12_come : MFv mX12_come 1 := ⟨(TQ7 84 rfl rfl), TT_s 52 rfl rfl, (TQ1 17 rfl rfl), (TQ7 85 rfl rfl), ⟨by decide +kernel, by decide +kernel⟩, by decide +kernel, by decide⟩
theorem mf_X12_feed : MFv mX12_feed 5 := ⟨(TQ7 79 rfl rfl), (TQ7 80 rfl rfl), (TQ1 17 rfl rfl), (TQ7 81 rfl rfl), ⟨by decide +kernel, by decide +kernel⟩, by decide +kernel, by decide⟩
theorem mf_X12_end : MFv mX12_end 1 := ⟨(TQ7 87 rfl rfl), (TQ7 88 rfl rfl), (TQ1 17 rfl rfl), (TQ7 89 rfl rfl), ⟨by decide +kernel, by decide +kernel⟩, by decide +kernel, by decide⟩
theorem mf_X12_take : MFv mX12_take 0 := ⟨(TQ7 100 rfl rfl), TT_s 54 rfl rfl, (TQ1 17 rfl rfl), (TQ7 101 rfl rfl), ⟨by decide +kernel, by decide +kernel⟩, by decide +kernel, by decide⟩
theorem mf_X12_isIn : MFs mX12_isIn 3 := ⟨(TQ7 161 rfl rfl), (TQ1 17 rfl rfl), (TQ7 162 rfl rfl), ⟨by decide +kernel, by decide +kernel⟩, by decide +kernel, by decide⟩
theorem mf_X12_has : MFs mX12_has 2 := ⟨(TQ7 172 rfl rfl), (TQ1 17 rfl rfl), (TQ7 173 rfl rfl), ⟨by decide +kernel, by decide +kernel⟩, by decide +kernel, by decide⟩
theorem mf_X12_least : MFs mX12_least 2 := ⟨(TQ8 102 rfl rfl), (TQ1 17 rfl rfl), (TQ8 103 rfl rfl), ⟨by decide +kernel, by decide +kernel⟩, by decide +kernel, by decide⟩
theorem mf_X12_size : MFs mX12_size 1 := ⟨(TQ8 197 rfl rfl), (TQ1 17 rfl rfl), (TQ8 198 rfl rfl), ⟨by decide +kernel, by decide +kernel⟩, by decide +kernel, by decide⟩
theorem mf_X12_tapeAt : MFv mX12_tapeAt 1 := ⟨(TQ7 114 rfl rfl), TT_s 56 rfl rfl, (TQ1 17 rfl rfl), (TQ7 115 rfl rfl), ⟨by decide +kernel, by decide +kernel⟩, by decide +kernel, by decide⟩
theorem mf_X12_isDigit : MFs mX12_isDigit 1 := ⟨(TQ7 110 rfl rfl), (TQ1 17 rfl rfl), (TQ7 111 rfl rfl), ⟨by decide +kernel, by decide +kernel⟩, by decide +kernel, by decide⟩
theorem mf_X12_isLetter : MFs mX12_isLetter 1 := ⟨(TQ7 107 rfl rfl), (TQ1 17 rfl rfl), (TQ7 108 rfl rfl), ⟨by decide +kernel, by decide +kernel⟩, by decide +kernel, by decide⟩
theorem mf_X12_go : MFv mX12_go 0 := ⟨(TQ7 104 rfl rfl), TT_s 55 rfl rfl, (TQ1 17 rfl rfl), (TQ7 105 rfl rfl), ⟨by decide +kernel, by decide +kernel⟩, by decide +kernel, by decide⟩
theorem mf_X12_spelt : MFs mX12_spelt 6 := ⟨(TQ7 130 rfl rfl), (TQ1 17 rfl rfl), (TQ7 131 rfl rfl), ⟨by decide +kernel, by decide +kernel⟩, by decide +kernel, by decide⟩
theorem mf_X12_wordOf : MFs mX12_wordOf 1 := ⟨(TQ7 127 rfl rfl), (TQ1 17 rfl rfl), (TQ7 128 rfl rfl), ⟨by decide +kernel, by decide +kernel⟩, by decide +kernel, by decide⟩
theorem mf_X12_isWord : MFv mX12_isWord 1 := ⟨(TQ7 124 rfl rfl), TT_s 58 rfl rfl, (TQ1 17 rfl rfl), (TQ7 125 rfl rfl), ⟨by decide +kernel, by decide +kernel⟩, by decide +kernel, by decide⟩
theorem mf_X12_isSign : MFv mX12_isSign 1 := ⟨(TQ7 200 rfl rfl), TT_s 73 rfl rfl, (TQ1 17 rfl rfl), (TQ7 201 rfl rfl), ⟨by decide +kernel, by decide +kernel⟩, by decide +kernel, by decide⟩
theorem mf_X12_isName : MFv mX12_isName 0 := ⟨(TQ7 147 rfl rfl), TT_s 62 rfl rfl, (TQ1 17 rfl rfl), (TQ7 148 rfl rfl), ⟨by decide +kernel, by decide +kernel⟩, by decide +kernel, by decide⟩
theorem mf_X12_bad : MFv mX12_bad 1 := ⟨(TQ7 139 rfl rfl), TT_s 60 rfl rfl, (TQ1 17 rfl rfl), (TQ7 140 rfl rfl), ⟨by decide +kernel, by decide +kernel⟩, by decide +kernel, by decide⟩
theorem mf_X12_isNumber : MFv mX12_isNumber 2 := ⟨(TQ7 158 rfl rfl), TT_s 64 rfl rfl, (TQ1 17 rfl rfl), (TQ7 159 rfl rfl), ⟨by decide +kernel, by decide +kernel⟩, by decide +kernel, by decide⟩
theorem mf_X12_readNumber : MFv mX12_readNumber 2 := ⟨(TQ7 154 rfl rfl), TT_s 63 rfl rfl, (TQ1 17 rfl rfl), (TQ7 155 rfl rfl), ⟨by decide +kernel, by decide +kernel⟩, by decide +kernel, by decide⟩
theorem mf_X12_readEnd : MFv mX12_readEnd 0 := ⟨(TQ7 196 rfl rfl), TT_s 72 rfl rfl, (TQ1 17 rfl rfl), (TQ7 197 rfl rfl), ⟨by decide +kernel, by decide +kernel⟩, by decide +kernel, by decide⟩
theorem mf_X12_begin : MFv mX12_begin 1 := ⟨(TQ7 96 rfl rfl), TT_s 53 rfl rfl, (TQ1 17 rfl rfl), (TQ7 97 rfl rfl), ⟨by decide +kernel, by decide +kernel⟩, by decide +kernel, by decide⟩
theorem mf_X12_findIn : MFs mX12_findIn 4 := ⟨(TQ7 150 rfl rfl), (TQ1 17 rfl rfl), (TQ7 151 rfl rfl), ⟨by decide +kernel, by decide +kernel⟩, by decide +kernel, by decide⟩
theorem mf_X12_readNew : MFv mX12_readNew 1 := ⟨(TQ7 143 rfl rfl), TT_s 61 rfl rfl, (TQ1 17 rfl rfl), (TQ7 144 rfl rfl), ⟨by decide +kernel, by decide +kernel⟩, by decide +kernel, by decide⟩
theorem mf_X12_isOne : MFv mX12_isOne 3 := ⟨(TQ7 169 rfl rfl), TT_s 66 rfl rfl, (TQ1 17 rfl rfl), (TQ7 170 rfl rfl), ⟨by decide +kernel, by decide +kernel⟩, by decide +kernel, by decide⟩
theorem mf_X12_readOne : MFv mX12_readOne 2 := ⟨(TQ7 180 rfl rfl), TT_s 68 rfl rfl, (TQ1 17 rfl rfl), (TQ7 181 rfl rfl), ⟨by decide +kernel, by decide +kernel⟩, by decide +kernel, by decide⟩
theorem mf_X12_readScent : MFv mX12_readScent 0 := ⟨(TQ7 135 rfl rfl), TT_s 59 rfl rfl, (TQ1 17 rfl rfl), (TQ7 136 rfl rfl), ⟨by decide +kernel, by decide +kernel⟩, by decide +kernel, by decide⟩
theorem mf_X12_readPlace : MFv mX12_readPlace 0 := ⟨(TQ7 165 rfl rfl), TT_s 65 rfl rfl, (TQ1 17 rfl rfl), (TQ7 166 rfl rfl), ⟨by decide +kernel, by decide +kernel⟩, by decide +kernel, by decide⟩
theorem mf_X12_readSmoke : MFv mX12_readSmoke 0 := ⟨(TQ7 176 rfl rfl), TT_s 67 rfl rfl, (TQ1 17 rfl rfl), (TQ7 177 rfl rfl), ⟨by decide +kernel, by decide +kernel⟩, by decide +kernel, by decide⟩
theorem mf_X12_readWitness : MFv mX12_readWitness 0 := ⟨(TQ7 184 rfl rfl), TT_s 69 rfl rfl, (TQ1 17 rfl rfl), (TQ7 185 rfl rfl), ⟨by decide +kernel, by decide +kernel⟩, by decide +kernel, by decide⟩
theorem mf_X12_readWent : MFv mX12_readWent 0 := ⟨(TQ7 188 rfl rfl), TT_s 70 rfl rfl, (TQ1 17 rfl rfl), (TQ7 189 rfl rfl), ⟨by decide +kernel, by decide +kernel⟩, by decide +kernel, by decide⟩
theorem mf_X12_readRain : MFv mX12_readRain 0 := ⟨(TQ7 192 rfl rfl), TT_s 71 rfl rfl, (TQ1 17 rfl rfl), (TQ7 193 rfl rfl), ⟨by decide +kernel, by decide +kernel⟩, by decide +kernel, by decide⟩
theorem mf_X12_readLine : MFv mX12_readLine 0 := ⟨(TQ7 120 rfl rfl), TT_s 57 rfl rfl, (TQ1 17 rfl rfl), (TQ7 121 rfl rfl), ⟨by decide +kernel, by decide +kernel⟩, by decide +kernel, by decide⟩
theorem mf_X12_startAnew : MFv mX12_startAnew 0 := ⟨(TQ7 204 rfl rfl), TT_s 74 rfl rfl, (TQ1 17 rfl rfl), (TQ7 205 rfl rfl), ⟨by decide +kernel, by decide +kernel⟩, by decide +kernel, by decide⟩
theorem mf_X12_hill : MFv mX12_hill 0 := ⟨(TQ7 91 rfl rfl), (TQ7 92 rfl rfl), (TQ1 17 rfl rfl), (TQ7 93 rfl rfl), ⟨by decide +kernel, by decide +kernel⟩, by decide +kernel, by decide⟩
theorem mf_X12_fault : MFv mX12_fault 0 := ⟨(TQ7 207 rfl rfl), (TQ7 208 rfl rfl), (TQ1 17 rfl rfl), (TQ7 209 rfl rfl), ⟨by decide +kernel, by decide +kernel⟩, by decide +kernel, by decide⟩
theorem mf_X12_isScent : MFv mX12_isScent 1 := ⟨(TQ7 220 rfl rfl), TT_s 76 rfl rfl, (TQ1 17 rfl rfl), (TQ7 221 rfl rfl), ⟨by decide +kernel, by decide +kernel⟩, by decide +kernel, by decide⟩
theorem mf_X12_isPlace : MFv mX12_isPlace 1 := ⟨(TQ7 216 rfl rfl), TT_s 75 rfl rfl, (TQ1 17 rfl rfl), (TQ7 217 rfl rfl), ⟨by decide +kernel, by decide +kernel⟩, by decide +kernel, by decide⟩
theorem mf_X12_isWitness : MFv mX12_isWitness 1 := ⟨(TQ8 0 rfl rfl), TT_s 79 rfl rfl, (TQ1 17 rfl rfl), (TQ8 1 rfl rfl), ⟨by decide +kernel, by decide +kernel⟩, by decide +kernel, by decide⟩
theorem mf_X12_isCloth : MFv mX12_isCloth 1 := ⟨(TQ8 28 rfl rfl), TT_s 84 rfl rfl, (TQ1 17 rfl rfl), (TQ8 29 rfl rfl), ⟨by decide +kernel, by decide +kernel⟩, by decide +kernel, by decide⟩
theorem mf_X12_airOf : MFv mX12_airOf 2 := ⟨(TQ7 228 rfl rfl), TT_s 78 rfl rfl, (TQ1 17 rfl rfl), (TQ7 229 rfl rfl), ⟨by decide +kernel, by decide +kernel⟩, by decide +kernel, by decide⟩
theorem mf_X12_air : MFv mX12_air 2 := ⟨(TQ7 211 rfl rfl), (TQ7 212 rfl rfl), (TQ1 17 rfl rfl), (TQ7 213 rfl rfl), ⟨by decide +kernel, by decide +kernel⟩, by decide +kernel, by decide⟩
theorem mf_X12_fade : MFv mX12_fade 1 := ⟨(TQ7 231 rfl rfl), (TQ7 232 rfl rfl), (TQ1 17 rfl rfl), (TQ7 233 rfl rfl), ⟨by decide +kernel, by decide +kernel⟩, by decide +kernel, by decide⟩
theorem mf_X12_onCoat : MFv mX12_onCoat 2 := ⟨(TQ8 20 rfl rfl), TT_s 83 rfl rfl, (TQ1 17 rfl rfl), (TQ8 21 rfl rfl), ⟨by decide +kernel, by decide +kernel⟩, by decide +kernel, by decide⟩
theorem mf_X12_onCloth : MFv mX12_onCloth 2 := ⟨(TQ8 32 rfl rfl), TT_s 85 rfl rfl, (TQ1 17 rfl rfl), (TQ8 33 rfl rfl), ⟨by decide +kernel, by decide +kernel⟩, by decide +kernel, by decide⟩
theorem mf_X12_ofCloth : MFv mX12_ofCloth 2 := ⟨(TQ8 40 rfl rfl), TT_s 86 rfl rfl, (TQ1 17 rfl rfl), (TQ8 41 rfl rfl), ⟨by decide +kernel, by decide +kernel⟩, by decide +kernel, by decide⟩
theorem mf_X12_sumAt : MFv mX12_sumAt 1 := ⟨(TQ8 8 rfl rfl), TT_s 81 rfl rfl, (TQ1 17 rfl rfl), (TQ8 9 rfl rfl), ⟨by decide +kernel, by decide +kernel⟩, by decide +kernel, by decide⟩
theorem mf_X12_strongestAt : MFv mX12_strongestAt 1 := ⟨(TQ8 12 rfl rfl), TT_s 82 rfl rfl, (TQ1 17 rfl rfl), (TQ8 13 rfl rfl), ⟨by decide +kernel, by decide +kernel⟩, by decide +kernel, by decide⟩
theorem mf_X12_worn : MFv mX12_worn 1 := ⟨(TQ8 4 rfl rfl), TT_s 80 rfl rfl, (TQ1 17 rfl rfl), (TQ8 5 rfl rfl), ⟨by decide +kernel, by decide +kernel⟩, by decide +kernel, by decide⟩
theorem mf_X12_witness : MFv mX12_witness 2 := ⟨(TQ7 235 rfl rfl), (TQ7 236 rfl rfl), (TQ1 17 rfl rfl), (TQ7 237 rfl rfl), ⟨by decide +kernel, by decide +kernel⟩, by decide +kernel, by decide⟩
theorem mf_X12_coat : MFv mX12_coat 2 := ⟨(TQ8 15 rfl rfl), (TQ8 16 rfl rfl), (TQ1 17 rfl rfl), (TQ8 17 rfl rfl), ⟨by decide +kernel, by decide +kernel⟩, by decide +kernel, by decide⟩
theorem mf_X12_cloth : MFv mX12_cloth 2 := ⟨(TQ8 23 rfl rfl), (TQ8 24 rfl rfl), (TQ1 17 rfl rfl), (TQ8 25 rfl rfl), ⟨by decide +kernel, by decide +kernel⟩, by decide +kernel, by decide⟩
theorem mf_X12_box : MFv mX12_box 2 := ⟨(TQ8 35 rfl rfl), (TQ8 36 rfl rfl), (TQ1 17 rfl rfl), (TQ8 37 rfl rfl), ⟨by decide +kernel, by decide +kernel⟩, by decide +kernel, by decide⟩
theorem mf_X12_wearerOf : MFv mX12_wearerOf 1 := ⟨(TQ8 48 rfl rfl), TT_s 87 rfl rfl, (TQ1 17 rfl rfl), (TQ8 49 rfl rfl), ⟨by decide +kernel, by decide +kernel⟩, by decide +kernel, by decide⟩
theorem mf_X12_wearer : MFv mX12_wearer 1 := ⟨(TQ8 43 rfl rfl), (TQ8 44 rfl rfl), (TQ1 17 rfl rfl), (TQ8 45 rfl rfl), ⟨by decide +kernel, by decide +kernel⟩, by decide +kernel, by decide⟩
theorem mf_X12_isRain : MFv mX12_isRain 1 := ⟨(TQ8 92 rfl rfl), TT_s 91 rfl rfl, (TQ1 17 rfl rfl), (TQ8 93 rfl rfl), ⟨by decide +kernel, by decide +kernel⟩, by decide +kernel, by decide⟩
theorem mf_X12_less : MFs mX12_less 2 := ⟨(TQ8 99 rfl rfl), (TQ1 17 rfl rfl), (TQ8 100 rfl rfl), ⟨by decide +kernel, by decide +kernel⟩, by decide +kernel, by decide⟩
theorem mf_X12_fadeAt : MFv mX12_fadeAt 3 := ⟨(TQ8 96 rfl rfl), TT_s 92 rfl rfl, (TQ1 17 rfl rfl), (TQ8 97 rfl rfl), ⟨by decide +kernel, by decide +kernel⟩, by decide +kernel, by decide⟩
theorem mf_X12_mixBox : MFv mX12_mixBox 2 := ⟨(TQ8 106 rfl rfl), TT_s 93 rfl rfl, (TQ1 17 rfl rfl), (TQ8 107 rfl rfl), ⟨by decide +kernel, by decide +kernel⟩, by decide +kernel, by decide⟩
theorem mf_X12_pass : MFv mX12_pass 1 := ⟨(TQ8 88 rfl rfl), TT_s 90 rfl rfl, (TQ1 17 rfl rfl), (TQ8 89 rfl rfl), ⟨by decide +kernel, by decide +kernel⟩, by decide +kernel, by decide⟩
theorem mf_X12_snap : MFv mX12_snap 0 := ⟨(TQ8 60 rfl rfl), TT_s 88 rfl rfl, (TQ1 17 rfl rfl), (TQ8 61 rfl rfl), ⟨by decide +kernel, by decide +kernel⟩, by decide +kernel, by decide⟩
theorem mf_X12_undo : MFv mX12_undo 0 := ⟨(TQ8 51 rfl rfl), (TQ8 52 rfl rfl), (TQ1 17 rfl rfl), (TQ8 53 rfl rfl), ⟨by decide +kernel, by decide +kernel⟩, by decide +kernel, by decide⟩
theorem mf_X12_layAside : MFv mX12_layAside 0 := ⟨(TQ8 170 rfl rfl), TT_s 100 rfl rfl, (TQ1 17 rfl rfl), (TQ8 171 rfl rfl), ⟨by decide +kernel, by decide +kernel⟩, by decide +kernel, by decide⟩
theorem mf_X12_layBack : MFv mX12_layBack 0 := ⟨(TQ8 178 rfl rfl), TT_s 102 rfl rfl, (TQ1 17 rfl rfl), (TQ8 179 rfl rfl), ⟨by decide +kernel, by decide +kernel⟩, by decide +kernel, by decide⟩
theorem mf_X12_goes : MFv mX12_goes 2 := ⟨(TQ8 55 rfl rfl), (TQ8 56 rfl rfl), (TQ1 17 rfl rfl), (TQ8 57 rfl rfl), ⟨by decide +kernel, by decide +kernel⟩, by decide +kernel, by decide⟩
theorem mf_X12_changeBoth : MFv mX12_changeBoth 2 := ⟨(TQ8 68 rfl rfl), TT_s 89 rfl rfl, (TQ1 17 rfl rfl), (TQ8 69 rfl rfl), ⟨by decide +kernel, by decide +kernel⟩, by decide +kernel, by decide⟩
theorem mf_X12_change : MFv mX12_change 2 := ⟨(TQ8 63 rfl rfl), (TQ8 64 rfl rfl), (TQ1 17 rfl rfl), (TQ8 65 rfl rfl), ⟨by decide +kernel, by decide +kernel⟩, by decide +kernel, by decide⟩
theorem mf_X12_soap : MFv mX12_soap 1 := ⟨(TQ8 71 rfl rfl), (TQ8 72 rfl rfl), (TQ1 17 rfl rfl), (TQ8 73 rfl rfl), ⟨by decide +kernel, by decide +kernel⟩, by decide +kernel, by decide⟩
theorem mf_X12_send : MFv mX12_send 2 := ⟨(TQ8 75 rfl rfl), (TQ8 76 rfl rfl), (TQ1 17 rfl rfl), (TQ8 77 rfl rfl), ⟨by decide +kernel, by decide +kernel⟩, by decide +kernel, by decide⟩
theorem mf_X12_move : MFv mX12_move 2 := ⟨(TQ8 79 rfl rfl), (TQ8 80 rfl rfl), (TQ1 17 rfl rfl), (TQ8 81 rfl rfl), ⟨by decide +kernel, by decide +kernel⟩, by decide +kernel, by decide⟩
theorem mf_X12_on : MFv mX12_on 1 := ⟨(TQ8 83 rfl rfl), (TQ8 84 rfl rfl), (TQ1 17 rfl rfl), (TQ8 85 rfl rfl), ⟨by decide +kernel, by decide +kernel⟩, by decide +kernel, by decide⟩
theorem mf_X12_isDrowned : MFv mX12_isDrowned 2 := ⟨(TQ8 126 rfl rfl), TT_s 97 rfl rfl, (TQ1 17 rfl rfl), (TQ8 127 rfl rfl), ⟨by decide +kernel, by decide +kernel⟩, by decide +kernel, by decide⟩
theorem mf_X12_open : MFv mX12_open 2 := ⟨(TQ8 130 rfl rfl), TT_s 98 rfl rfl, (TQ1 17 rfl rfl), (TQ8 131 rfl rfl), ⟨by decide +kernel, by decide +kernel⟩, by decide +kernel, by decide⟩
theorem mf_X12_startOpening : MFv mX12_startOpening 0 := ⟨(TQ8 118 rfl rfl), TT_s 95 rfl rfl, (TQ1 17 rfl rfl), (TQ8 119 rfl rfl), ⟨by decide +kernel, by decide +kernel⟩, by decide +kernel, by decide⟩
theorem mf_X12_openOn : MFv mX12_openOn 2 := ⟨(TQ8 122 rfl rfl), TT_s 96 rfl rfl, (TQ1 17 rfl rfl), (TQ8 123 rfl rfl), ⟨by decide +kernel, by decide +kernel⟩, by decide +kernel, by decide⟩
theorem mf_X12_openAll : MFv mX12_openAll 0 := ⟨(TQ8 114 rfl rfl), TT_s 94 rfl rfl, (TQ1 17 rfl rfl), (TQ8 115 rfl rfl), ⟨by decide +kernel, by decide +kernel⟩, by decide +kernel, by decide⟩
theorem mf_X12_order : MFv mX12_order 0 := ⟨(TQ8 109 rfl rfl), (TQ8 110 rfl rfl), (TQ1 17 rfl rfl), (TQ8 111 rfl rfl), ⟨by decide +kernel, by decide +kernel⟩, by decide +kernel, by decide⟩
theorem mf_X12_opened : MFv mX12_opened 1 := ⟨(TQ8 133 rfl rfl), (TQ8 134 rfl rfl), (TQ1 17 rfl rfl), (TQ8 135 rfl rfl), ⟨by decide +kernel, by decide +kernel⟩, by decide +kernel, by decide⟩
theorem mf_X12_noses : MFv mX12_noses 0 := ⟨(TQ8 137 rfl rfl), (TQ8 138 rfl rfl), (TQ1 17 rfl rfl), (TQ8 139 rfl rfl), ⟨by decide +kernel, by decide +kernel⟩, by decide +kernel, by decide⟩
theorem mf_X12_drowned : MFv mX12_drowned 0 := ⟨(TQ8 141 rfl rfl), (TQ8 142 rfl rfl), (TQ1 17 rfl rfl), (TQ8 143 rfl rfl), ⟨by decide +kernel, by decide +kernel⟩, by decide +kernel, by decide⟩
theorem mf_X12_remains : MFv mX12_remains 1 := ⟨(TQ8 145 rfl rfl), (TQ8 146 rfl rfl), (TQ1 17 rfl rfl), (TQ8 147 rfl rfl), ⟨by decide +kernel, by decide +kernel⟩, by decide +kernel, by decide⟩
theorem mf_X12_wearThrough : MFv mX12_wearThrough 2 := ⟨(TQ8 154 rfl rfl), TT_s 99 rfl rfl, (TQ1 17 rfl rfl), (TQ8 155 rfl rfl), ⟨by decide +kernel, by decide +kernel⟩, by decide +kernel, by decide⟩
theorem mf_X12_was : MFv mX12_was 2 := ⟨(TQ8 149 rfl rfl), (TQ8 150 rfl rfl), (TQ1 17 rfl rfl), (TQ8 151 rfl rfl), ⟨by decide +kernel, by decide +kernel⟩, by decide +kernel, by decide⟩
theorem mf_X12_rows : MFv mX12_rows 2 := ⟨(TQ8 157 rfl rfl), (TQ8 158 rfl rfl), (TQ1 17 rfl rfl), (TQ8 159 rfl rfl), ⟨by decide +kernel, by decide +kernel⟩, by decide +kernel, by decide⟩
theorem mf_X12_first : MFv mX12_first 1 := ⟨(TQ8 161 rfl rfl), (TQ8 162 rfl rfl), (TQ1 17 rfl rfl), (TQ8 163 rfl rfl), ⟨by decide +kernel, by decide +kernel⟩, by decide +kernel, by decide⟩
theorem mf_X12_areSo : MFv mX12_areSo 0 := ⟨(TQ8 174 rfl rfl), TT_s 101 rfl rfl, (TQ1 17 rfl rfl), (TQ8 175 rfl rfl), ⟨by decide +kernel, by decide +kernel⟩, by decide +kernel, by decide⟩
theorem mf_X12_changed : MFv mX12_changed 0 := ⟨(TQ8 165 rfl rfl), (TQ8 166 rfl rfl), (TQ1 17 rfl rfl), (TQ8 167 rfl rfl), ⟨by decide +kernel, by decide +kernel⟩, by decide +kernel, by decide⟩
theorem mf_X12_changeAt : MFv mX12_changeAt 1 := ⟨(TQ8 181 rfl rfl), (TQ8 182 rfl rfl), (TQ1 17 rfl rfl), (TQ8 183 rfl rfl), ⟨by decide +kernel, by decide +kernel⟩, by decide +kernel, by decide⟩
theorem mf_X12_apart : MFv mX12_apart 2 := ⟨(TQ8 194 rfl rfl), TT_s 104 rfl rfl, (TQ1 17 rfl rfl), (TQ8 195 rfl rfl), ⟨by decide +kernel, by decide +kernel⟩, by decide +kernel, by decide⟩
theorem mf_X12_clothAt : MFv mX12_clothAt 1 := ⟨(TQ8 190 rfl rfl), TT_s 103 rfl rfl, (TQ1 17 rfl rfl), (TQ8 191 rfl rfl), ⟨by decide +kernel, by decide +kernel⟩, by decide +kernel, by decide⟩
theorem mf_X12_unlike : MFv mX12_unlike 2 := ⟨(TQ8 185 rfl rfl), (TQ8 186 rfl rfl), (TQ1 17 rfl rfl), (TQ8 187 rfl rfl), ⟨by decide +kernel, by decide +kernel⟩, by decide +kernel, by decide⟩
theorem mf_X12_dog : MFv mX12_dog 1 := ⟨(TQ8 200 rfl rfl), (TQ8 201 rfl rfl), (TQ1 17 rfl rfl), (TQ8 202 rfl rfl), ⟨by decide +kernel, by decide +kernel⟩, by decide +kernel, by decide⟩
theorem mf_X12_alike : MFv mX12_alike 0 := ⟨(TQ8 204 rfl rfl), (TQ8 205 rfl rfl), (TQ1 17 rfl rfl), (TQ8 206 rfl rfl), ⟨by decide +kernel, by decide +kernel⟩, by decide +kernel, by decide⟩
theorem mf_X12_kitchen : MFv mX12_kitchen 1 := ⟨(TQ8 208 rfl rfl), (TQ8 209 rfl rfl), (TQ1 17 rfl rfl), (TQ8 210 rfl rfl), ⟨by decide +kernel, by decide +kernel⟩, by decide +kernel, by decide⟩
theorem mf_X12_thread : MFv mX12_thread 1 := ⟨(TQ8 212 rfl rfl), (TQ8 213 rfl rfl), (TQ1 17 rfl rfl), (TQ8 214 rfl rfl), ⟨by decide +kernel, by decide +kernel⟩, by decide +kernel, by decide⟩
theorem mf_X12_source : MFv mX12_source 1 := ⟨(TQ8 216 rfl rfl), (TQ8 217 rfl rfl), (TQ1 17 rfl rfl), (TQ8 218 rfl rfl), ⟨by decide +kernel, by decide +kernel⟩, by decide +kernel, by decide⟩
theorem mf_X12_strangers : MFv mX12_strangers 0 := ⟨(TQ8 220 rfl rfl), (TQ8 221 rfl rfl), (TQ1 17 rfl rfl), (TQ8 222 rfl rfl), ⟨by decide +kernel, by decide +kernel⟩, by decide +kernel, by decide⟩
theorem mf_X12_clean : MFv mX12_clean 1 := ⟨(TQ8 224 rfl rfl), (TQ8 225 rfl rfl), (TQ1 17 rfl rfl), (TQ8 226 rfl rfl), ⟨by decide +kernel, by decide +kernel⟩, by decide +kernel, by decide⟩
theorem mf_X12_readPlea : MFv mX12_readPlea 0 := ⟨(TQ8 233 rfl rfl), TT_s 105 rfl rfl, (TQ1 17 rfl rfl), (TQ8 234 rfl rfl), ⟨by decide +kernel, by decide +kernel⟩, by decide +kernel, by decide⟩
theorem mf_X12_pleas : MFv mX12_pleas 0 := ⟨(TQ8 228 rfl rfl), (TQ8 229 rfl rfl), (TQ1 17 rfl rfl), (TQ8 230 rfl rfl), ⟨by decide +kernel, by decide +kernel⟩, by decide +kernel, by decide⟩
theorem mf_X12_draw : MFv mX12_draw 1 := ⟨(TQ9 9 rfl rfl), TT_s 108 rfl rfl, (TQ1 17 rfl rfl), (TQ9 10 rfl rfl), ⟨by decide +kernel, by decide +kernel⟩, by decide +kernel, by decide⟩
theorem mf_X12_drawHours : MFv mX12_drawHours 2 := ⟨(TQ9 5 rfl rfl), TT_s 107 rfl rfl, (TQ1 17 rfl rfl), (TQ9 6 rfl rfl), ⟨by decide +kernel, by decide +kernel⟩, by decide +kernel, by decide⟩
theorem mf_X12_canDraw : MFv mX12_canDraw 1 := ⟨(TQ9 1 rfl rfl), TT_s 106 rfl rfl, (TQ1 17 rfl rfl), (TQ9 2 rfl rfl), ⟨by decide +kernel, by decide +kernel⟩, by decide +kernel, by decide⟩
theorem mf_X12_drawn : MFv mX12_drawn 2 := ⟨(TQ8 236 rfl rfl), (TQ8 237 rfl rfl), (TQ1 17 rfl rfl), (TQ8 238 rfl rfl), ⟨by decide +kernel, by decide +kernel⟩, by decide +kernel, by decide⟩
theorem mf_X12_weather : MFv mX12_weather 1 := ⟨(TQ9 13 rfl rfl), (TQ9 14 rfl rfl), (TQ1 17 rfl rfl), (TQ9 15 rfl rfl), ⟨by decide +kernel, by decide +kernel⟩, by decide +kernel, by decide⟩
theorem mf_X12_odds : MFv mX12_odds 3 := ⟨(TQ9 17 rfl rfl), (TQ9 18 rfl rfl), (TQ1 17 rfl rfl), (TQ9 19 rfl rfl), ⟨by decide +kernel, by decide +kernel⟩, by decide +kernel, by decide⟩
theorem mf_X12_put : MFv mX12_put 1 := ⟨(TQ9 26 rfl rfl), TT_s 109 rfl rfl, (TQ1 17 rfl rfl), (TQ9 27 rfl rfl), ⟨by decide +kernel, by decide +kernel⟩, by decide +kernel, by decide⟩
theorem mf_X12_write : MFv mX12_write 1 := ⟨(TQ9 21 rfl rfl), (TQ9 22 rfl rfl), (TQ1 17 rfl rfl), (TQ9 23 rfl rfl), ⟨by decide +kernel, by decide +kernel⟩, by decide +kernel, by decide⟩
theorem mf_X12_byteAt : MFv mX12_byteAt 1 := ⟨(TQ9 29 rfl rfl), (TQ9 30 rfl rfl), (TQ1 17 rfl rfl), (TQ9 31 rfl rfl), ⟨by decide +kernel, by decide +kernel⟩, by decide +kernel, by decide⟩
theorem mf_X12_saysOne : MFv mX12_saysOne 4 := ⟨(TQ9 58 rfl rfl), TT_s 115 rfl rfl, (TQ1 17 rfl rfl), (TQ9 59 rfl rfl), ⟨by decide +kernel, by decide +kernel⟩, by decide +kernel, by decide⟩
theorem mf_X12_readNamed : MFv mX12_readNamed 3 := ⟨(TQ9 62 rfl rfl), TT_s 116 rfl rfl, (TQ1 17 rfl rfl), (TQ9 63 rfl rfl), ⟨by decide +kernel, by decide +kernel⟩, by decide +kernel, by decide⟩
theorem mf_X12_readCompare : MFv mX12_readCompare 1 := ⟨(TQ9 66 rfl rfl), TT_s 117 rfl rfl, (TQ1 17 rfl rfl), (TQ9 67 rfl rfl), ⟨by decide +kernel, by decide +kernel⟩, by decide +kernel, by decide⟩
theorem mf_X12_readAnd : MFv mX12_readAnd 0 := ⟨(TQ9 42 rfl rfl), TT_s 111 rfl rfl, (TQ1 17 rfl rfl), (TQ9 43 rfl rfl), ⟨by decide +kernel, by decide +kernel⟩, by decide +kernel, by decide⟩
theorem mf_X12_readBracket : MFv mX12_readBracket 0 := ⟨(TQ9 50 rfl rfl), TT_s 113 rfl rfl, (TQ1 17 rfl rfl), (TQ9 51 rfl rfl), ⟨by decide +kernel, by decide +kernel⟩, by decide +kernel, by decide⟩
theorem mf_X12_readNot : MFv mX12_readNot 0 := ⟨(TQ9 54 rfl rfl), TT_s 114 rfl rfl, (TQ1 17 rfl rfl), (TQ9 55 rfl rfl), ⟨by decide +kernel, by decide +kernel⟩, by decide +kernel, by decide⟩
theorem mf_X12_readOr : MFv mX12_readOr 0 := ⟨(TQ9 38 rfl rfl), TT_s 110 rfl rfl, (TQ1 17 rfl rfl), (TQ9 39 rfl rfl), ⟨by decide +kernel, by decide +kernel⟩, by decide +kernel, by decide⟩
theorem mf_X12_readTerm : MFv mX12_readTerm 0 := ⟨(TQ9 46 rfl rfl), TT_s 112 rfl rfl, (TQ1 17 rfl rfl), (TQ9 47 rfl rfl), ⟨by decide +kernel, by decide +kernel⟩, by decide +kernel, by decide⟩
theorem mf_X12_sentence : MFv mX12_sentence 0 := ⟨(TQ9 33 rfl rfl), (TQ9 34 rfl rfl), (TQ1 17 rfl rfl), (TQ9 35 rfl rfl), ⟨by decide +kernel, by decide +kernel⟩, by decide +kernel, by decide⟩
theorem mf_X12_valueOf : MFv mX12_valueOf 2 := ⟨(TQ9 78 rfl rfl), TT_s 119 rfl rfl, (TQ1 17 rfl rfl), (TQ9 79 rfl rfl), ⟨by decide +kernel, by decide +kernel⟩, by decide +kernel, by decide⟩
theorem mf_X12_holds : MFv mX12_holds 2 := ⟨(TQ9 74 rfl rfl), TT_s 118 rfl rfl, (TQ1 17 rfl rfl), (TQ9 75 rfl rfl), ⟨by decide +kernel, by decide +kernel⟩, by decide +kernel, by decide⟩
theorem mf_X12_said : MFv mX12_said 1 := ⟨(TQ9 69 rfl rfl), (TQ9 70 rfl rfl), (TQ1 17 rfl rfl), (TQ9 71 rfl rfl), ⟨by decide +kernel, by decide +kernel⟩, by decide +kernel, by decide⟩
theorem mf_X12_image : MFv mX12_image 1 := ⟨(TQ9 81 rfl rfl), (TQ9 82 rfl rfl), (TQ1 17 rfl rfl), (TQ9 83 rfl rfl), ⟨by decide +kernel, by decide +kernel⟩, by decide +kernel, by decide⟩
theorem mf_X12_restore : MFv mX12_restore 1 := ⟨(TQ9 85 rfl rfl), (TQ9 86 rfl rfl), (TQ1 17 rfl rfl), (TQ9 87 rfl rfl), ⟨by decide +kernel, by decide +kernel⟩, by decide +kernel, by decide⟩
theorem mf_X12_count : MFv mX12_count 1 := ⟨(TQ9 89 rfl rfl), (TQ9 90 rfl rfl), (TQ1 17 rfl rfl), (TQ9 91 rfl rfl), ⟨by decide +kernel, by decide +kernel⟩, by decide +kernel, by decide⟩
theorem kt_0_1 {a : Nat} (h : kd a = 0) : kd (rf a 1) = 20 := kt_of h (by decide) (by decide +kernel)
theorem lt_0_1 {a : Nat} (h : kd a = 0) : ln (rf a 1) = 40 := lt_of h (by decide) (by decide +kernel)
theorem kt_0_4 {a : Nat} (h : kd a = 0) : kd (rf a 4) = 20 := kt_of h (by decide) (by decide +kernel)
theorem lt_0_4 {a : Nat} (h : kd a = 0) : ln (rf a 4) = 36 := lt_of h (by decide) (by decide +kernel)
theorem kt_0_5 {a : Nat} (h : kd a = 0) : kd (rf a 5) = 20 := kt_of h (by decide) (by decide +kernel)
theorem lt_0_5 {a : Nat} (h : kd a = 0) : ln (rf a 5) = 366 := lt_of h (by decide) (by decide +kernel)
theorem kt_0_6 {a : Nat} (h : kd a = 0) : kd (rf a 6) = 20 := kt_of h (by decide) (by decide +kernel)
theorem lt_0_6 {a : Nat} (h : kd a = 0) : ln (rf a 6) = 2196 := lt_of h (by decide) (by decide +kernel)
theorem kt_0_7 {a : Nat} (h : kd a = 0) : kd (rf a 7) = 20 := kt_of h (by decide) (by decide +kernel)
theorem lt_0_7 {a : Nat} (h : kd a = 0) : ln (rf a 7) = 6 := lt_of h (by decide) (by decide +kernel)
theorem kt_1_5 {a : Nat} (h : kd a = 1) : kd (rf a 5) = 10 := kt_of h (by decide) (by decide +kernel)
theorem kt_2_0 {a : Nat} (h : kd a = 2) : kd (rf a 0) = 20 := kt_of h (by decide) (by decide +kernel)
theorem lt_2_0 {a : Nat} (h : kd a = 2) : ln (rf a 0) = 6 := lt_of h (by decide) (by decide +kernel)
theorem kt_2_1 {a : Nat} (h : kd a = 2) : kd (rf a 1) = 21 := kt_of h (by decide) (by decide +kernel)
theorem lt_2_1 {a : Nat} (h : kd a = 2) : ln (rf a 1) = 18 := lt_of h (by decide) (by decide +kernel)
theorem kt_2_2 {a : Nat} (h : kd a = 2) : kd (rf a 2) = 20 := kt_of h (by decide) (by decide +kernel)
theorem lt_2_2 {a : Nat} (h : kd a = 2) : ln (rf a 2) = 6 := lt_of h (by decide) (by decide +kernel)
theorem kt_2_3 {a : Nat} (h : kd a = 2) : kd (rf a 3) = 20 := kt_of h (by decide) (by decide +kernel)
theorem lt_2_3 {a : Nat} (h : kd a = 2) : ln (rf a 3) = 36 := lt_of h (by decide) (by decide +kernel)
theorem kt_2_4 {a : Nat} (h : kd a = 2) : kd (rf a 4) = 20 := kt_of h (by decide) (by decide +kernel)
theorem lt_2_4 {a : Nat} (h : kd a = 2) : ln (rf a 4) = 6 := lt_of h (by decide) (by decide +kernel)
theorem kt_2_5 {a : Nat} (h : kd a = 2) : kd (rf a 5) = 20 := kt_of h (by decide) (by decide +kernel)
theorem lt_2_5 {a : Nat} (h : kd a = 2) : ln (rf a 5) = 6 := lt_of h (by decide) (by decide +kernel)
theorem kt_2_6 {a : Nat} (h : kd a = 2) : kd (rf a 6) = 20 := kt_of h (by decide) (by decide +kernel)
theorem lt_2_6 {a : Nat} (h : kd a = 2) : ln (rf a 6) = 366 := lt_of h (by decide) (by decide +kernel)
theorem kt_2_7 {a : Nat} (h : kd a = 2) : kd (rf a 7) = 20 := kt_of h (by decide) (by decide +kernel)
theorem lt_2_7 {a : Nat} (h : kd a = 2) : ln (rf a 7) = 61 := lt_of h (by decide) (by decide +kernel)
theorem kt_3_0 {a : Nat} (h : kd a = 3) : kd (rf a 0) = 8 := kt_of h (by decide) (by decide +kernel)
theorem kt_3_1 {a : Nat} (h : kd a = 3) : kd (rf a 1) = 2 := kt_of h (by decide) (by decide +kernel)
theorem kt_3_2 {a : Nat} (h : kd a = 3) : kd (rf a 2) = 20 := kt_of h (by decide) (by decide +kernel)
theorem lt_3_2 {a : Nat} (h : kd a = 3) : ln (rf a 2) = 36 := lt_of h (by decide) (by decide +kernel)
theorem kt_3_3 {a : Nat} (h : kd a = 3) : kd (rf a 3) = 20 := kt_of h (by decide) (by decide +kernel)
theorem lt_3_3 {a : Nat} (h : kd a = 3) : ln (rf a 3) = 216 := lt_of h (by decide) (by decide +kernel)
theorem kt_4_0 {a : Nat} (h : kd a = 4) : kd (rf a 0) = 20 := kt_of h (by decide) (by decide +kernel)
theorem lt_4_0 {a : Nat} (h : kd a = 4) : ln (rf a 0) = 6 := lt_of h (by decide) (by decide +kernel)
theorem kt_4_3 {a : Nat} (h : kd a = 4) : kd (rf a 3) = 20 := kt_of h (by decide) (by decide +kernel)
theorem lt_4_3 {a : Nat} (h : kd a = 4) : ln (rf a 3) = 8 := lt_of h (by decide) (by decide +kernel)
theorem kt_4_4 {a : Nat} (h : kd a = 4) : kd (rf a 4) = 20 := kt_of h (by decide) (by decide +kernel)
theorem lt_4_4 {a : Nat} (h : kd a = 4) : ln (rf a 4) = 8 := lt_of h (by decide) (by decide +kernel)
theorem kt_4_5 {a : Nat} (h : kd a = 4) : kd (rf a 5) = 20 := kt_of h (by decide) (by decide +kernel)
theorem lt_4_5 {a : Nat} (h : kd a = 4) : ln (rf a 5) = 8 := lt_of h (by decide) (by decide +kernel)
theorem kt_4_6 {a : Nat} (h : kd a = 4) : kd (rf a 6) = 20 := kt_of h (by decide) (by decide +kernel)
theorem lt_4_6 {a : Nat} (h : kd a = 4) : ln (rf a 6) = 54 := lt_of h (by decide) (by decide +kernel)
theorem kt_4_7 {a : Nat} (h : kd a = 4) : kd (rf a 7) = 20 := kt_of h (by decide) (by decide +kernel)
theorem lt_4_7 {a : Nat} (h : kd a = 4) : ln (rf a 7) = 256 := lt_of h (by decide) (by decide +kernel)
theorem kt_4_8 {a : Nat} (h : kd a = 4) : kd (rf a 8) = 20 := kt_of h (by decide) (by decide +kernel)
theorem lt_4_8 {a : Nat} (h : kd a = 4) : ln (rf a 8) = 256 := lt_of h (by decide) (by decide +kernel)
theorem kt_6_0 {a : Nat} (h : kd a = 6) : kd (rf a 0) = 20 := kt_of h (by decide) (by decide +kernel)
theorem lt_6_0 {a : Nat} (h : kd a = 6) : ln (rf a 0) = 40 := lt_of h (by decide) (by decide +kernel)
theorem kt_6_1 {a : Nat} (h : kd a = 6) : kd (rf a 1) = 20 := kt_of h (by decide) (by decide +kernel)
theorem lt_6_1 {a : Nat} (h : kd a = 6) : ln (rf a 1) = 40 := lt_of h (by decide) (by decide +kernel)
theorem kt_6_2 {a : Nat} (h : kd a = 6) : kd (rf a 2) = 20 := kt_of h (by decide) (by decide +kernel)
theorem lt_6_2 {a : Nat} (h : kd a = 6) : ln (rf a 2) = 40 := lt_of h (by decide) (by decide +kernel)
theorem kt_7_0 {a : Nat} (h : kd a = 7) : kd (rf a 0) = 8 := kt_of h (by decide) (by decide +kernel)
theorem kt_7_1 {a : Nat} (h : kd a = 7) : kd (rf a 1) = 6 := kt_of h (by decide) (by decide +kernel)
theorem kt_8_0 {a : Nat} (h : kd a = 8) : kd (rf a 0) = 20 := kt_of h (by decide) (by decide +kernel)
theorem lt_8_0 {a : Nat} (h : kd a = 8) : ln (rf a 0) = 940 := lt_of h (by decide) (by decide +kernel)
theorem kt_8_4 {a : Nat} (h : kd a = 8) : kd (rf a 4) = 21 := kt_of h (by decide) (by decide +kernel)
theorem lt_8_4 {a : Nat} (h : kd a = 8) : ln (rf a 4) = 17 := lt_of h (by decide) (by decide +kernel)
theorem kt_8_5 {a : Nat} (h : kd a = 8) : kd (rf a 5) = 20 := kt_of h (by decide) (by decide +kernel)
theorem lt_8_5 {a : Nat} (h : kd a = 8) : ln (rf a 5) = 941 := lt_of h (by decide) (by decide +kernel)
theorem kt_8_6 {a : Nat} (h : kd a = 8) : kd (rf a 6) = 20 := kt_of h (by decide) (by decide +kernel)
theorem lt_8_6 {a : Nat} (h : kd a = 8) : ln (rf a 6) = 941 := lt_of h (by decide) (by decide +kernel)
theorem kt_8_7 {a : Nat} (h : kd a = 8) : kd (rf a 7) = 21 := kt_of h (by decide) (by decide +kernel)
theorem lt_8_7 {a : Nat} (h : kd a = 8) : ln (rf a 7) = 941 := lt_of h (by decide) (by decide +kernel)
theorem kt_9_2 {a : Nat} (h : kd a = 9) : kd (rf a 2) = 20 := kt_of h (by decide) (by decide +kernel)
theorem lt_9_2 {a : Nat} (h : kd a = 9) : ln (rf a 2) = 42 := lt_of h (by decide) (by decide +kernel)
theorem kt_9_4 {a : Nat} (h : kd a = 9) : kd (rf a 4) = 20 := kt_of h (by decide) (by decide +kernel)
theorem lt_9_4 {a : Nat} (h : kd a = 9) : ln (rf a 4) = 7 := lt_of h (by decide) (by decide +kernel)
theorem kt_9_6 {a : Nat} (h : kd a = 9) : kd (rf a 6) = 20 := kt_of h (by decide) (by decide +kernel)
theorem lt_9_6 {a : Nat} (h : kd a = 9) : ln (rf a 6) = 6 := lt_of h (by decide) (by decide +kernel)
theorem kt_9_7 {a : Nat} (h : kd a = 9) : kd (rf a 7) = 20 := kt_of h (by decide) (by decide +kernel)
theorem lt_9_7 {a : Nat} (h : kd a = 9) : ln (rf a 7) = 6 := lt_of h (by decide) (by decide +kernel)
theorem kt_9_8 {a : Nat} (h : kd a = 9) : kd (rf a 8) = 20 := kt_of h (by decide) (by decide +kernel)
theorem lt_9_8 {a : Nat} (h : kd a = 9) : ln (rf a 8) = 7 := lt_of h (by decide) (by decide +kernel)
theorem kt_9_9 {a : Nat} (h : kd a = 9) : kd (rf a 9) = 20 := kt_of h (by decide) (by decide +kernel)
theorem lt_9_9 {a : Nat} (h : kd a = 9) : ln (rf a 9) = 42 := lt_of h (by decide) (by decide +kernel)
theorem kt_10_1 {a : Nat} (h : kd a = 10) : kd (rf a 1) = 20 := kt_of h (by decide) (by decide +kernel)
theorem lt_10_1 {a : Nat} (h : kd a = 10) : ln (rf a 1) = 6 := lt_of h (by decide) (by decide +kernel)
theorem kt_10_2 {a : Nat} (h : kd a = 10) : kd (rf a 2) = 20 := kt_of h (by decide) (by decide +kernel)
theorem lt_10_2 {a : Nat} (h : kd a = 10) : ln (rf a 2) = 6 := lt_of h (by decide) (by decide +kernel)
theorem kt_10_3 {a : Nat} (h : kd a = 10) : kd (rf a 3) = 20 := kt_of h (by decide) (by decide +kernel)
theorem lt_10_3 {a : Nat} (h : kd a = 10) : ln (rf a 3) = 36 := lt_of h (by decide) (by decide +kernel)
theorem kt_10_5 {a : Nat} (h : kd a = 10) : kd (rf a 5) = 20 := kt_of h (by decide) (by decide +kernel)
theorem lt_10_5 {a : Nat} (h : kd a = 10) : ln (rf a 5) = 48 := lt_of h (by decide) (by decide +kernel)
theorem kt_10_6 {a : Nat} (h : kd a = 10) : kd (rf a 6) = 20 := kt_of h (by decide) (by decide +kernel)
theorem lt_10_6 {a : Nat} (h : kd a = 10) : ln (rf a 6) = 8 := lt_of h (by decide) (by decide +kernel)
theorem kt_10_7 {a : Nat} (h : kd a = 10) : kd (rf a 7) = 20 := kt_of h (by decide) (by decide +kernel)
theorem lt_10_7 {a : Nat} (h : kd a = 10) : ln (rf a 7) = 8 := lt_of h (by decide) (by decide +kernel)
theorem kt_10_8 {a : Nat} (h : kd a = 10) : kd (rf a 8) = 20 := kt_of h (by decide) (by decide +kernel)
theorem lt_10_8 {a : Nat} (h : kd a = 10) : ln (rf a 8) = 8 := lt_of h (by decide) (by decide +kernel)
theorem kt_11_0 {a : Nat} (h : kd a = 11) : kd (rf a 0) = 8 := kt_of h (by decide) (by decide +kernel)
theorem kt_11_1 {a : Nat} (h : kd a = 11) : kd (rf a 1) = 2 := kt_of h (by decide) (by decide +kernel)
theorem kt_11_2 {a : Nat} (h : kd a = 11) : kd (rf a 2) = 3 := kt_of h (by decide) (by decide +kernel)
theorem kt_11_3 {a : Nat} (h : kd a = 11) : kd (rf a 3) = 10 := kt_of h (by decide) (by decide +kernel)
theorem kt_11_4 {a : Nat} (h : kd a = 11) : kd (rf a 4) = 6 := kt_of h (by decide) (by decide +kernel)
theorem kt_11_5 {a : Nat} (h : kd a = 11) : kd (rf a 5) = 7 := kt_of h (by decide) (by decide +kernel)
theorem kt_11_6 {a : Nat} (h : kd a = 11) : kd (rf a 6) = 5 := kt_of h (by decide) (by decide +kernel)
theorem kt_11_7 {a : Nat} (h : kd a = 11) : kd (rf a 7) = 23 := kt_of h (by decide) (by decide +kernel)
theorem lt_11_7 {a : Nat} (h : kd a = 11) : ln (rf a 7) = 8 := lt_of h (by decide) (by decide +kernel)
theorem kt_11_10 {a : Nat} (h : kd a = 11) : kd (rf a 10) = 24 := kt_of h (by decide) (by decide +kernel)
theorem lt_11_10 {a : Nat} (h : kd a = 11) : ln (rf a 10) = 2 := lt_of h (by decide) (by decide +kernel)
theorem kt_11_11 {a : Nat} (h : kd a = 11) : kd (rf a 11) = 23 := kt_of h (by decide) (by decide +kernel)
theorem lt_11_11 {a : Nat} (h : kd a = 11) : ln (rf a 11) = 2 := lt_of h (by decide) (by decide +kernel)
theorem kt_11_12 {a : Nat} (h : kd a = 11) : kd (rf a 12) = 25 := kt_of h (by decide) (by decide +kernel)
theorem lt_11_12 {a : Nat} (h : kd a = 11) : ln (rf a 12) = 2 := lt_of h (by decide) (by decide +kernel)
theorem kt_11_13 {a : Nat} (h : kd a = 11) : kd (rf a 13) = 20 := kt_of h (by decide) (by decide +kernel)
theorem lt_11_13 {a : Nat} (h : kd a = 11) : ln (rf a 13) = 2 := lt_of h (by decide) (by decide +kernel)
theorem kt_11_14 {a : Nat} (h : kd a = 11) : kd (rf a 14) = 4 := kt_of h (by decide) (by decide +kernel)
theorem kt_11_15 {a : Nat} (h : kd a = 11) : kd (rf a 15) = 9 := kt_of h (by decide) (by decide +kernel)
theorem kt_11_16 {a : Nat} (h : kd a = 11) : kd (rf a 16) = 0 := kt_of h (by decide) (by decide +kernel)
theorem kt_11_17 {a : Nat} (h : kd a = 11) : kd (rf a 17) = 1 := kt_of h (by decide) (by decide +kernel)
theorem kt_11_18 {a : Nat} (h : kd a = 11) : kd (rf a 18) = 20 := kt_of h (by decide) (by decide +kernel)
theorem lt_11_18 {a : Nat} (h : kd a = 11) : ln (rf a 18) = 66 := lt_of h (by decide) (by decide +kernel)
theorem kt_12_1 {a : Nat} (h : kd a = 12) : kd (rf a 1) = 20 := kt_of h (by decide) (by decide +kernel)
theorem lt_12_1 {a : Nat} (h : kd a = 12) : ln (rf a 1) = 940 := lt_of h (by decide) (by decide +kernel)
theorem kt_12_14 {a : Nat} (h : kd a = 12) : kd (rf a 14) = 20 := kt_of h (by decide) (by decide +kernel)
theorem lt_12_14 {a : Nat} (h : kd a = 12) : ln (rf a 14) = 516 := lt_of h (by decide) (by decide +kernel)
theorem kt_12_15 {a : Nat} (h : kd a = 12) : kd (rf a 15) = 20 := kt_of h (by decide) (by decide +kernel)
theorem lt_12_15 {a : Nat} (h : kd a = 12) : ln (rf a 15) = 144 := lt_of h (by decide) (by decide +kernel)
theorem kt_12_16 {a : Nat} (h : kd a = 12) : kd (rf a 16) = 20 := kt_of h (by decide) (by decide +kernel)
theorem lt_12_16 {a : Nat} (h : kd a = 12) : ln (rf a 16) = 1032 := lt_of h (by decide) (by decide +kernel)
theorem kt_12_17 {a : Nat} (h : kd a = 12) : kd (rf a 17) = 20 := kt_of h (by decide) (by decide +kernel)
theorem lt_12_17 {a : Nat} (h : kd a = 12) : ln (rf a 17) = 1040 := lt_of h (by decide) (by decide +kernel)
theorem kt_12_18 {a : Nat} (h : kd a = 12) : kd (rf a 18) = 20 := kt_of h (by decide) (by decide +kernel)
theorem lt_12_18 {a : Nat} (h : kd a = 12) : ln (rf a 18) = 130 := lt_of h (by decide) (by decide +kernel)
theorem kt_12_19 {a : Nat} (h : kd a = 12) : kd (rf a 19) = 21 := kt_of h (by decide) (by decide +kernel)
theorem lt_12_19 {a : Nat} (h : kd a = 12) : ln (rf a 19) = 18 := lt_of h (by decide) (by decide +kernel)
theorem kt_12_20 {a : Nat} (h : kd a = 12) : kd (rf a 20) = 21 := kt_of h (by decide) (by decide +kernel)
theorem lt_12_20 {a : Nat} (h : kd a = 12) : ln (rf a 20) = 18 := lt_of h (by decide) (by decide +kernel)
theorem kt_12_21 {a : Nat} (h : kd a = 12) : kd (rf a 21) = 21 := kt_of h (by decide) (by decide +kernel)
theorem lt_12_21 {a : Nat} (h : kd a = 12) : ln (rf a 21) = 36 := lt_of h (by decide) (by decide +kernel)
theorem kt_12_22 {a : Nat} (h : kd a = 12) : kd (rf a 22) = 22 := kt_of h (by decide) (by decide +kernel)
theorem lt_12_22 {a : Nat} (h : kd a = 12) : ln (rf a 22) = 2 := lt_of h (by decide) (by decide +kernel)
theorem kt_12_24 {a : Nat} (h : kd a = 12) : kd (rf a 24) = 20 := kt_of h (by decide) (by decide +kernel)
theorem lt_12_24 {a : Nat} (h : kd a = 12) : ln (rf a 24) = 54 := lt_of h (by decide) (by decide +kernel)
theorem kt_12_25 {a : Nat} (h : kd a = 12) : kd (rf a 25) = 20 := kt_of h (by decide) (by decide +kernel)
theorem lt_12_25 {a : Nat} (h : kd a = 12) : ln (rf a 25) = 8 := lt_of h (by decide) (by decide +kernel)
theorem kt_12_26 {a : Nat} (h : kd a = 12) : kd (rf a 26) = 20 := kt_of h (by decide) (by decide +kernel)
theorem lt_12_26 {a : Nat} (h : kd a = 12) : ln (rf a 26) = 8 := lt_of h (by decide) (by decide +kernel)
theorem kt_12_27 {a : Nat} (h : kd a = 12) : kd (rf a 27) = 22 := kt_of h (by decide) (by decide +kernel)
theorem lt_12_27 {a : Nat} (h : kd a = 12) : ln (rf a 27) = 256 := lt_of h (by decide) (by decide +kernel)
theorem kt_12_28 {a : Nat} (h : kd a = 12) : kd (rf a 28) = 20 := kt_of h (by decide) (by decide +kernel)
theorem lt_12_28 {a : Nat} (h : kd a = 12) : ln (rf a 28) = 256 := lt_of h (by decide) (by decide +kernel)
theorem kt_12_31 {a : Nat} (h : kd a = 12) : kd (rf a 31) = 20 := kt_of h (by decide) (by decide +kernel)
theorem lt_12_31 {a : Nat} (h : kd a = 12) : ln (rf a 31) = 8 := lt_of h (by decide) (by decide +kernel)
theorem kt_12_32 {a : Nat} (h : kd a = 12) : kd (rf a 32) = 20 := kt_of h (by decide) (by decide +kernel)
theorem lt_12_32 {a : Nat} (h : kd a = 12) : ln (rf a 32) = 6 := lt_of h (by decide) (by decide +kernel)
theorem kt_12_34 {a : Nat} (h : kd a = 12) : kd (rf a 34) = 20 := kt_of h (by decide) (by decide +kernel)
theorem lt_12_34 {a : Nat} (h : kd a = 12) : ln (rf a 34) = 6 := lt_of h (by decide) (by decide +kernel)
theorem kt_12_35 {a : Nat} (h : kd a = 12) : kd (rf a 35) = 20 := kt_of h (by decide) (by decide +kernel)
theorem lt_12_35 {a : Nat} (h : kd a = 12) : ln (rf a 35) = 36 := lt_of h (by decide) (by decide +kernel)
theorem kt_12_36 {a : Nat} (h : kd a = 12) : kd (rf a 36) = 20 := kt_of h (by decide) (by decide +kernel)
theorem lt_12_36 {a : Nat} (h : kd a = 12) : ln (rf a 36) = 6 := lt_of h (by decide) (by decide +kernel)
theorem kt_12_37 {a : Nat} (h : kd a = 12) : kd (rf a 37) = 20 := kt_of h (by decide) (by decide +kernel)
theorem lt_12_37 {a : Nat} (h : kd a = 12) : ln (rf a 37) = 6 := lt_of h (by decide) (by decide +kernel)
theorem kt_12_38 {a : Nat} (h : kd a = 12) : kd (rf a 38) = 20 := kt_of h (by decide) (by decide +kernel)
theorem lt_12_38 {a : Nat} (h : kd a = 12) : ln (rf a 38) = 6 := lt_of h (by decide) (by decide +kernel)
theorem kt_12_42 {a : Nat} (h : kd a = 12) : kd (rf a 42) = 20 := kt_of h (by decide) (by decide +kernel)
theorem lt_12_42 {a : Nat} (h : kd a = 12) : ln (rf a 42) = 36 := lt_of h (by decide) (by decide +kernel)
theorem kt_12_43 {a : Nat} (h : kd a = 12) : kd (rf a 43) = 20 := kt_of h (by decide) (by decide +kernel)
theorem lt_12_43 {a : Nat} (h : kd a = 12) : ln (rf a 43) = 40 := lt_of h (by decide) (by decide +kernel)
theorem kt_12_51 {a : Nat} (h : kd a = 12) : kd (rf a 51) = 20 := kt_of h (by decide) (by decide +kernel)
theorem lt_12_51 {a : Nat} (h : kd a = 12) : ln (rf a 51) = 3 := lt_of h (by decide) (by decide +kernel)
theorem kt_12_52 {a : Nat} (h : kd a = 12) : kd (rf a 52) = 20 := kt_of h (by decide) (by decide +kernel)
theorem lt_12_52 {a : Nat} (h : kd a = 12) : ln (rf a 52) = 80 := lt_of h (by decide) (by decide +kernel)
theorem kt_12_53 {a : Nat} (h : kd a = 12) : kd (rf a 53) = 20 := kt_of h (by decide) (by decide +kernel)
theorem lt_12_53 {a : Nat} (h : kd a = 12) : ln (rf a 53) = 7 := lt_of h (by decide) (by decide +kernel)
theorem kt_12_55 {a : Nat} (h : kd a = 12) : kd (rf a 55) = 20 := kt_of h (by decide) (by decide +kernel)
theorem lt_12_55 {a : Nat} (h : kd a = 12) : ln (rf a 55) = 240 := lt_of h (by decide) (by decide +kernel)
