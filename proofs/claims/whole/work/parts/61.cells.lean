/-! the tables of the picture, cell by cell -/
theorem rf_0_0 : rf 0 0 = 1 := rfl
theorem rf_0_1 : rf 0 1 = 7 := rfl
theorem rf_0_2 : rf 0 2 = 16 := rfl
theorem rf_0_3 : rf 0 3 = 28 := rfl
theorem rf_0_4 : rf 0 4 = 36 := rfl
theorem rf_0_5 : rf 0 5 = 40 := rfl
theorem rf_0_6 : rf 0 6 = 45 := rfl
theorem rf_0_7 : rf 0 7 = 46 := rfl
theorem rf_0_10 : rf 0 10 = 111 := rfl
theorem rf_0_11 : rf 0 11 = 112 := rfl
theorem rf_0_12 : rf 0 12 = 113 := rfl
theorem rf_0_13 : rf 0 13 = 156 := rfl
theorem rf_0_14 : rf 0 14 = 157 := rfl
theorem rf_0_15 : rf 0 15 = 165 := rfl
theorem rf_0_16 : rf 0 16 = 172 := rfl
theorem rf_0_17 : rf 0 17 = 178 := rfl
theorem rf_0_18 : rf 0 18 = 187 := rfl
theorem rf_1_0 : rf 1 0 = 2 := rfl
theorem rf_1_4 : rf 1 4 = 3 := rfl
theorem rf_1_5 : rf 1 5 = 4 := rfl
theorem rf_1_6 : rf 1 6 = 5 := rfl
theorem rf_1_7 : rf 1 7 = 6 := rfl
theorem rf_7_0 : rf 7 0 = 8 := rfl
theorem rf_7_1 : rf 7 1 = 9 := rfl
theorem rf_7_2 : rf 7 2 = 10 := rfl
theorem rf_7_3 : rf 7 3 = 11 := rfl
theorem rf_7_4 : rf 7 4 = 12 := rfl
theorem rf_7_5 : rf 7 5 = 13 := rfl
theorem rf_7_6 : rf 7 6 = 14 := rfl
theorem rf_7_7 : rf 7 7 = 15 := rfl
theorem rf_16_0 : rf 16 0 = 1 := rfl
theorem rf_16_1 : rf 16 1 = 17 := rfl
theorem rf_16_2 : rf 16 2 = 26 := rfl
theorem rf_16_3 : rf 16 3 = 27 := rfl
theorem rf_17_0 : rf 17 0 = 18 := rfl
theorem rf_17_1 : rf 17 1 = 19 := rfl
theorem rf_17_2 : rf 17 2 = 20 := rfl
theorem rf_17_3 : rf 17 3 = 21 := rfl
theorem rf_17_4 : rf 17 4 = 22 := rfl
theorem rf_17_5 : rf 17 5 = 23 := rfl
theorem rf_17_6 : rf 17 6 = 24 := rfl
theorem rf_17_7 : rf 17 7 = 25 := rfl
theorem rf_28_1 : rf 28 1 = 29 := rfl
theorem rf_28_2 : rf 28 2 = 30 := rfl
theorem rf_28_3 : rf 28 3 = 31 := rfl
theorem rf_28_5 : rf 28 5 = 32 := rfl
theorem rf_28_6 : rf 28 6 = 33 := rfl
theorem rf_28_7 : rf 28 7 = 34 := rfl
theorem rf_28_8 : rf 28 8 = 35 := rfl
theorem rf_36_0 : rf 36 0 = 37 := rfl
theorem rf_36_1 : rf 36 1 = 38 := rfl
theorem rf_36_2 : rf 36 2 = 39 := rfl
theorem rf_40_0 : rf 40 0 = 1 := rfl
theorem rf_40_1 : rf 40 1 = 41 := rfl
theorem rf_41_0 : rf 41 0 = 42 := rfl
theorem rf_41_1 : rf 41 1 = 43 := rfl
theorem rf_41_2 : rf 41 2 = 44 := rfl
theorem rf_46_0 : rf 46 0 = 47 := rfl
theorem rf_46_1 : rf 46 1 = 55 := rfl
theorem rf_46_2 : rf 46 2 = 63 := rfl
theorem rf_46_3 : rf 46 3 = 71 := rfl
theorem rf_46_4 : rf 46 4 = 79 := rfl
theorem rf_46_5 : rf 46 5 = 87 := rfl
theorem rf_46_6 : rf 46 6 = 95 := rfl
theorem rf_46_7 : rf 46 7 = 103 := rfl
theorem rf_47_1 : rf 47 1 = 48 := rfl
theorem rf_47_2 : rf 47 2 = 49 := rfl
theorem rf_47_3 : rf 47 3 = 50 := rfl
theorem rf_47_5 : rf 47 5 = 51 := rfl
theorem rf_47_6 : rf 47 6 = 52 := rfl
theorem rf_47_7 : rf 47 7 = 53 := rfl
theorem rf_47_8 : rf 47 8 = 54 := rfl
theorem rf_55_1 : rf 55 1 = 56 := rfl
theorem rf_55_2 : rf 55 2 = 57 := rfl
theorem rf_55_3 : rf 55 3 = 58 := rfl
theorem rf_55_5 : rf 55 5 = 59 := rfl
theorem rf_55_6 : rf 55 6 = 60 := rfl
theorem rf_55_7 : rf 55 7 = 61 := rfl
theorem rf_55_8 : rf 55 8 = 62 := rfl
theorem rf_63_1 : rf 63 1 = 64 := rfl
theorem rf_63_2 : rf 63 2 = 65 := rfl
theorem rf_63_3 : rf 63 3 = 66 := rfl
theorem rf_63_5 : rf 63 5 = 67 := rfl
theorem rf_63_6 : rf 63 6 = 68 := rfl
theorem rf_63_7 : rf 63 7 = 69 := rfl
theorem rf_63_8 : rf 63 8 = 70 := rfl
theorem rf_71_1 : rf 71 1 = 72 := rfl
theorem rf_71_2 : rf 71 2 = 73 := rfl
theorem rf_71_3 : rf 71 3 = 74 := rfl
theorem rf_71_5 : rf 71 5 = 75 := rfl
theorem rf_71_6 : rf 71 6 = 76 := rfl
theorem rf_71_7 : rf 71 7 = 77 := rfl
theorem rf_71_8 : rf 71 8 = 78 := rfl
theorem rf_79_1 : rf 79 1 = 80 := rfl
theorem rf_79_2 : rf 79 2 = 81 := rfl
theorem rf_79_3 : rf 79 3 = 82 := rfl
theorem rf_79_5 : rf 79 5 = 83 := rfl
theorem rf_79_6 : rf 79 6 = 84 := rfl
theorem rf_79_7 : rf 79 7 = 85 := rfl
theorem rf_79_8 : rf 79 8 = 86 := rfl
theorem rf_87_1 : rf 87 1 = 88 := rfl
theorem rf_87_2 : rf 87 2 = 89 := rfl
theorem rf_87_3 : rf 87 3 = 90 := rfl
theorem rf_87_5 : rf 87 5 = 91 := rfl
theorem rf_87_6 : rf 87 6 = 92 := rfl
theorem rf_87_7 : rf 87 7 = 93 := rfl
theorem rf_87_8 : rf 87 8 = 94 := rfl
theorem rf_95_1 : rf 95 1 = 96 := rfl
theorem rf_95_2 : rf 95 2 = 97 := rfl
theorem rf_95_3 : rf 95 3 = 98 := rfl
theorem rf_95_5 : rf 95 5 = 99 := rfl
theorem rf_95_6 : rf 95 6 = 100 := rfl
theorem rf_95_7 : rf 95 7 = 101 := rfl
theorem rf_95_8 : rf 95 8 = 102 := rfl
theorem rf_103_1 : rf 103 1 = 104 := rfl
theorem rf_103_2 : rf 103 2 = 105 := rfl
theorem rf_103_3 : rf 103 3 = 106 := rfl
theorem rf_103_5 : rf 103 5 = 107 := rfl
theorem rf_103_6 : rf 103 6 = 108 := rfl
theorem rf_103_7 : rf 103 7 = 109 := rfl
theorem rf_103_8 : rf 103 8 = 110 := rfl
theorem rf_111_0 : rf 111 0 = 114 := rfl
theorem rf_111_1 : rf 111 1 = 135 := rfl
theorem rf_112_0 : rf 112 0 = 123 := rfl
theorem rf_112_1 : rf 112 1 = 144 := rfl
theorem rf_113_0 : rf 113 0 = 131 := rfl
theorem rf_113_1 : rf 113 1 = 152 := rfl
theorem rf_114_0 : rf 114 0 = 115 := rfl
theorem rf_114_1 : rf 114 1 = 116 := rfl
theorem rf_114_2 : rf 114 2 = 117 := rfl
theorem rf_114_3 : rf 114 3 = 118 := rfl
theorem rf_114_4 : rf 114 4 = 119 := rfl
theorem rf_114_5 : rf 114 5 = 120 := rfl
theorem rf_114_6 : rf 114 6 = 121 := rfl
theorem rf_114_7 : rf 114 7 = 122 := rfl
theorem rf_123_1 : rf 123 1 = 124 := rfl
theorem rf_123_2 : rf 123 2 = 125 := rfl
theorem rf_123_3 : rf 123 3 = 126 := rfl
theorem rf_123_5 : rf 123 5 = 127 := rfl
theorem rf_123_6 : rf 123 6 = 128 := rfl
theorem rf_123_7 : rf 123 7 = 129 := rfl
theorem rf_123_8 : rf 123 8 = 130 := rfl
theorem rf_131_0 : rf 131 0 = 132 := rfl
theorem rf_131_1 : rf 131 1 = 133 := rfl
theorem rf_131_2 : rf 131 2 = 134 := rfl
theorem rf_135_0 : rf 135 0 = 136 := rfl
theorem rf_135_1 : rf 135 1 = 137 := rfl
theorem rf_135_2 : rf 135 2 = 138 := rfl
theorem rf_135_3 : rf 135 3 = 139 := rfl
theorem rf_135_4 : rf 135 4 = 140 := rfl
theorem rf_135_5 : rf 135 5 = 141 := rfl
theorem rf_135_6 : rf 135 6 = 142 := rfl
theorem rf_135_7 : rf 135 7 = 143 := rfl
theorem rf_144_1 : rf 144 1 = 145 := rfl
theorem rf_144_2 : rf 144 2 = 146 := rfl
theorem rf_144_3 : rf 144 3 = 147 := rfl
theorem rf_144_5 : rf 144 5 = 148 := rfl
theorem rf_144_6 : rf 144 6 = 149 := rfl
theorem rf_144_7 : rf 144 7 = 150 := rfl
theorem rf_144_8 : rf 144 8 = 151 := rfl
theorem rf_152_0 : rf 152 0 = 153 := rfl
theorem rf_152_1 : rf 152 1 = 154 := rfl
theorem rf_152_2 : rf 152 2 = 155 := rfl
theorem rf_157_0 : rf 157 0 = 158 := rfl
theorem rf_157_3 : rf 157 3 = 159 := rfl
theorem rf_157_4 : rf 157 4 = 160 := rfl
theorem rf_157_5 : rf 157 5 = 161 := rfl
theorem rf_157_6 : rf 157 6 = 162 := rfl
theorem rf_157_7 : rf 157 7 = 163 := rfl
theorem rf_157_8 : rf 157 8 = 164 := rfl
theorem rf_165_2 : rf 165 2 = 166 := rfl
theorem rf_165_4 : rf 165 4 = 167 := rfl
theorem rf_165_6 : rf 165 6 = 168 := rfl
theorem rf_165_7 : rf 165 7 = 169 := rfl
theorem rf_165_8 : rf 165 8 = 170 := rfl
theorem rf_165_9 : rf 165 9 = 171 := rfl
theorem rf_172_1 : rf 172 1 = 173 := rfl
theorem rf_172_4 : rf 172 4 = 174 := rfl
theorem rf_172_5 : rf 172 5 = 175 := rfl
theorem rf_172_6 : rf 172 6 = 176 := rfl
theorem rf_172_7 : rf 172 7 = 177 := rfl
theorem rf_178_5 : rf 178 5 = 179 := rfl
theorem rf_179_1 : rf 179 1 = 180 := rfl
theorem rf_179_2 : rf 179 2 = 181 := rfl
theorem rf_179_3 : rf 179 3 = 182 := rfl
theorem rf_179_5 : rf 179 5 = 183 := rfl
theorem rf_179_6 : rf 179 6 = 184 := rfl
theorem rf_179_7 : rf 179 7 = 185 := rfl
theorem rf_179_8 : rf 179 8 = 186 := rfl
theorem rf_188_1 : rf 188 1 = 189 := rfl
theorem rf_188_14 : rf 188 14 = 190 := rfl
theorem rf_188_15 : rf 188 15 = 191 := rfl
theorem rf_188_16 : rf 188 16 = 192 := rfl
theorem rf_188_17 : rf 188 17 = 193 := rfl
theorem rf_188_18 : rf 188 18 = 194 := rfl
theorem rf_188_19 : rf 188 19 = 195 := rfl
theorem rf_188_20 : rf 188 20 = 196 := rfl
theorem rf_188_21 : rf 188 21 = 197 := rfl
theorem rf_188_22 : rf 188 22 = 198 := rfl
theorem rf_188_24 : rf 188 24 = 199 := rfl
theorem rf_188_25 : rf 188 25 = 200 := rfl
theorem rf_188_26 : rf 188 26 = 201 := rfl
theorem rf_188_27 : rf 188 27 = 202 := rfl
theorem rf_188_28 : rf 188 28 = 203 := rfl
theorem rf_188_31 : rf 188 31 = 204 := rfl
theorem rf_188_32 : rf 188 32 = 205 := rfl
theorem rf_188_34 : rf 188 34 = 206 := rfl
theorem rf_188_35 : rf 188 35 = 207 := rfl
theorem rf_188_36 : rf 188 36 = 208 := rfl
theorem rf_188_37 : rf 188 37 = 209 := rfl
theorem rf_188_38 : rf 188 38 = 210 := rfl
theorem rf_188_42 : rf 188 42 = 211 := rfl
theorem rf_188_43 : rf 188 43 = 212 := rfl
theorem rf_188_51 : rf 188 51 = 213 := rfl
theorem rf_188_52 : rf 188 52 = 214 := rfl
theorem rf_188_53 : rf 188 53 = 215 := rfl
theorem rf_188_55 : rf 188 55 = 216 := rfl
theorem ln_2 : ln 2 = 940 := rfl
theorem ln_3 : ln 3 = 17 := rfl
theorem ln_4 : ln 4 = 941 := rfl
theorem ln_5 : ln 5 = 941 := rfl
theorem ln_6 : ln 6 = 941 := rfl
theorem ln_8 : ln 8 = 6 := rfl
theorem ln_9 : ln 9 = 18 := rfl
theorem ln_10 : ln 10 = 6 := rfl
theorem ln_11 : ln 11 = 36 := rfl
theorem ln_12 : ln 12 = 6 := rfl
theorem ln_13 : ln 13 = 6 := rfl
theorem ln_14 : ln 14 = 366 := rfl
theorem ln_15 : ln 15 = 61 := rfl
theorem ln_18 : ln 18 = 6 := rfl
theorem ln_19 : ln 19 = 18 := rfl
theorem ln_20 : ln 20 = 6 := rfl
theorem ln_21 : ln 21 = 36 := rfl
theorem ln_22 : ln 22 = 6 := rfl
theorem ln_23 : ln 23 = 6 := rfl
theorem ln_24 : ln 24 = 366 := rfl
theorem ln_25 : ln 25 = 61 := rfl
theorem ln_26 : ln 26 = 36 := rfl
theorem ln_27 : ln 27 = 216 := rfl
theorem ln_29 : ln 29 = 6 := rfl
theorem ln_30 : ln 30 = 6 := rfl
theorem ln_31 : ln 31 = 36 := rfl
theorem ln_32 : ln 32 = 48 := rfl
theorem ln_33 : ln 33 = 8 := rfl
theorem ln_34 : ln 34 = 8 := rfl
theorem ln_35 : ln 35 = 8 := rfl
theorem ln_37 : ln 37 = 40 := rfl
theorem ln_38 : ln 38 = 40 := rfl
theorem ln_39 : ln 39 = 40 := rfl
theorem ln_42 : ln 42 = 40 := rfl
theorem ln_43 : ln 43 = 40 := rfl
theorem ln_44 : ln 44 = 40 := rfl
theorem ln_46 : ln 46 = 8 := rfl
theorem ln_48 : ln 48 = 6 := rfl
theorem ln_49 : ln 49 = 6 := rfl
theorem ln_50 : ln 50 = 36 := rfl
theorem ln_51 : ln 51 = 48 := rfl
theorem ln_52 : ln 52 = 8 := rfl
theorem ln_53 : ln 53 = 8 := rfl
theorem ln_54 : ln 54 = 8 := rfl
theorem ln_56 : ln 56 = 6 := rfl
theorem ln_57 : ln 57 = 6 := rfl
theorem ln_58 : ln 58 = 36 := rfl
theorem ln_59 : ln 59 = 48 := rfl
theorem ln_60 : ln 60 = 8 := rfl
theorem ln_61 : ln 61 = 8 := rfl
theorem ln_62 : ln 62 = 8 := rfl
theorem ln_64 : ln 64 = 6 := rfl
theorem ln_65 : ln 65 = 6 := rfl
theorem ln_66 : ln 66 = 36 := rfl
theorem ln_67 : ln 67 = 48 := rfl
theorem ln_68 : ln 68 = 8 := rfl
theorem ln_69 : ln 69 = 8 := rfl
theorem ln_70 : ln 70 = 8 := rfl
theorem ln_72 : ln 72 = 6 := rfl
theorem ln_73 : ln 73 = 6 := rfl
theorem ln_74 : ln 74 = 36 := rfl
theorem ln_75 : ln 75 = 48 := rfl
theorem ln_76 : ln 76 = 8 := rfl
theorem ln_77 : ln 77 = 8 := rfl
theorem ln_78 : ln 78 = 8 := rfl
theorem ln_80 : ln 80 = 6 := rfl
theorem ln_81 : ln 81 = 6 := rfl
theorem ln_82 : ln 82 = 36 := rfl
theorem ln_83 : ln 83 = 48 := rfl
theorem ln_84 : ln 84 = 8 := rfl
theorem ln_85 : ln 85 = 8 := rfl
theorem ln_86 : ln 86 = 8 := rfl
theorem ln_88 : ln 88 = 6 := rfl
theorem ln_89 : ln 89 = 6 := rfl
theorem ln_90 : ln 90 = 36 := rfl
theorem ln_91 : ln 91 = 48 := rfl
theorem ln_92 : ln 92 = 8 := rfl
theorem ln_93 : ln 93 = 8 := rfl
theorem ln_94 : ln 94 = 8 := rfl
theorem ln_96 : ln 96 = 6 := rfl
theorem ln_97 : ln 97 = 6 := rfl
theorem ln_98 : ln 98 = 36 := rfl
theorem ln_99 : ln 99 = 48 := rfl
theorem ln_100 : ln 100 = 8 := rfl
theorem ln_101 : ln 101 = 8 := rfl
theorem ln_102 : ln 102 = 8 := rfl
theorem ln_104 : ln 104 = 6 := rfl
theorem ln_105 : ln 105 = 6 := rfl
theorem ln_106 : ln 106 = 36 := rfl
theorem ln_107 : ln 107 = 48 := rfl
theorem ln_108 : ln 108 = 8 := rfl
theorem ln_109 : ln 109 = 8 := rfl
theorem ln_110 : ln 110 = 8 := rfl
theorem ln_111 : ln 111 = 2 := rfl
theorem ln_112 : ln 112 = 2 := rfl
theorem ln_113 : ln 113 = 2 := rfl
theorem ln_115 : ln 115 = 6 := rfl
theorem ln_116 : ln 116 = 18 := rfl
theorem ln_117 : ln 117 = 6 := rfl
theorem ln_118 : ln 118 = 36 := rfl
theorem ln_119 : ln 119 = 6 := rfl
theorem ln_120 : ln 120 = 6 := rfl
theorem ln_121 : ln 121 = 366 := rfl
theorem ln_122 : ln 122 = 61 := rfl
theorem ln_124 : ln 124 = 6 := rfl
theorem ln_125 : ln 125 = 6 := rfl
theorem ln_126 : ln 126 = 36 := rfl
theorem ln_127 : ln 127 = 48 := rfl
theorem ln_128 : ln 128 = 8 := rfl
theorem ln_129 : ln 129 = 8 := rfl
theorem ln_130 : ln 130 = 8 := rfl
theorem ln_132 : ln 132 = 40 := rfl
theorem ln_133 : ln 133 = 40 := rfl
theorem ln_134 : ln 134 = 40 := rfl
theorem ln_136 : ln 136 = 6 := rfl
theorem ln_137 : ln 137 = 18 := rfl
theorem ln_138 : ln 138 = 6 := rfl
theorem ln_139 : ln 139 = 36 := rfl
theorem ln_140 : ln 140 = 6 := rfl
theorem ln_141 : ln 141 = 6 := rfl
theorem ln_142 : ln 142 = 366 := rfl
theorem ln_143 : ln 143 = 61 := rfl
theorem ln_145 : ln 145 = 6 := rfl
theorem ln_146 : ln 146 = 6 := rfl
theorem ln_147 : ln 147 = 36 := rfl
theorem ln_148 : ln 148 = 48 := rfl
theorem ln_149 : ln 149 = 8 := rfl
theorem ln_150 : ln 150 = 8 := rfl
theorem ln_151 : ln 151 = 8 := rfl
theorem ln_153 : ln 153 = 40 := rfl
theorem ln_154 : ln 154 = 40 := rfl
theorem ln_155 : ln 155 = 40 := rfl
theorem ln_156 : ln 156 = 2 := rfl
theorem ln_158 : ln 158 = 6 := rfl
theorem ln_159 : ln 159 = 8 := rfl
theorem ln_160 : ln 160 = 8 := rfl
theorem ln_161 : ln 161 = 8 := rfl
theorem ln_162 : ln 162 = 54 := rfl
theorem ln_163 : ln 163 = 256 := rfl
theorem ln_164 : ln 164 = 256 := rfl
theorem ln_166 : ln 166 = 42 := rfl
theorem ln_167 : ln 167 = 7 := rfl
theorem ln_168 : ln 168 = 6 := rfl
theorem ln_169 : ln 169 = 6 := rfl
theorem ln_170 : ln 170 = 7 := rfl
theorem ln_171 : ln 171 = 42 := rfl
theorem ln_173 : ln 173 = 40 := rfl
theorem ln_174 : ln 174 = 36 := rfl
theorem ln_175 : ln 175 = 366 := rfl
theorem ln_176 : ln 176 = 2196 := rfl
theorem ln_177 : ln 177 = 6 := rfl
theorem ln_180 : ln 180 = 6 := rfl
theorem ln_181 : ln 181 = 6 := rfl
theorem ln_182 : ln 182 = 36 := rfl
theorem ln_183 : ln 183 = 48 := rfl
theorem ln_184 : ln 184 = 8 := rfl
theorem ln_185 : ln 185 = 8 := rfl
theorem ln_186 : ln 186 = 8 := rfl
theorem ln_187 : ln 187 = 66 := rfl
theorem ln_189 : ln 189 = 940 := rfl
theorem ln_190 : ln 190 = 516 := rfl
theorem ln_191 : ln 191 = 144 := rfl
theorem ln_192 : ln 192 = 1032 := rfl
theorem ln_193 : ln 193 = 1040 := rfl
theorem ln_194 : ln 194 = 130 := rfl
theorem ln_195 : ln 195 = 18 := rfl
theorem ln_196 : ln 196 = 18 := rfl
theorem ln_197 : ln 197 = 36 := rfl
theorem ln_198 : ln 198 = 2 := rfl
theorem ln_199 : ln 199 = 54 := rfl
theorem ln_200 : ln 200 = 8 := rfl
theorem ln_201 : ln 201 = 8 := rfl
theorem ln_202 : ln 202 = 256 := rfl
theorem ln_203 : ln 203 = 256 := rfl
theorem ln_204 : ln 204 = 8 := rfl
theorem ln_205 : ln 205 = 6 := rfl
theorem ln_206 : ln 206 = 6 := rfl
theorem ln_207 : ln 207 = 36 := rfl
theorem ln_208 : ln 208 = 6 := rfl
theorem ln_209 : ln 209 = 6 := rfl
theorem ln_210 : ln 210 = 6 := rfl
theorem ln_211 : ln 211 = 36 := rfl
theorem ln_212 : ln 212 = 40 := rfl
theorem ln_213 : ln 213 = 3 := rfl
theorem ln_214 : ln 214 = 80 := rfl
theorem ln_215 : ln 215 = 7 := rfl
theorem ln_216 : ln 216 = 240 := rfl
theorem ln_217 : ln 217 = 1 := rfl
theorem g_2 {S : XS} {k : Nat} (h : k < 940) : gat S 2 (oo k) = S.1 2 k := gat_of rfl (by decide) h
theorem p_2 {S : XS} {k : Nat} {v : Int32} (h : k < 940) : pat S 2 (oo k) v = sI S 2 k v := pat_of rfl (by decide) h
theorem g_4 {S : XS} {k : Nat} (h : k < 941) : gat S 4 (oo k) = S.1 4 k := gat_of rfl (by decide) h
theorem p_4 {S : XS} {k : Nat} {v : Int32} (h : k < 941) : pat S 4 (oo k) v = sI S 4 k v := pat_of rfl (by decide) h
theorem g_5 {S : XS} {k : Nat} (h : k < 941) : gat S 5 (oo k) = S.1 5 k := gat_of rfl (by decide) h
theorem p_5 {S : XS} {k : Nat} {v : Int32} (h : k < 941) : pat S 5 (oo k) v = sI S 5 k v := pat_of rfl (by decide) h
theorem g_8 {S : XS} {k : Nat} (h : k < 6) : gat S 8 (oo k) = S.1 8 k := gat_of rfl (by decide) h
theorem p_8 {S : XS} {k : Nat} {v : Int32} (h : k < 6) : pat S 8 (oo k) v = sI S 8 k v := pat_of rfl (by decide) h
theorem g_10 {S : XS} {k : Nat} (h : k < 6) : gat S 10 (oo k) = S.1 10 k := gat_of rfl (by decide) h
theorem p_10 {S : XS} {k : Nat} {v : Int32} (h : k < 6) : pat S 10 (oo k) v = sI S 10 k v := pat_of rfl (by decide) h
theorem g_11 {S : XS} {k : Nat} (h : k < 36) : gat S 11 (oo k) = S.1 11 k := gat_of rfl (by decide) h
theorem p_11 {S : XS} {k : Nat} {v : Int32} (h : k < 36) : pat S 11 (oo k) v = sI S 11 k v := pat_of rfl (by decide) h
theorem g_12 {S : XS} {k : Nat} (h : k < 6) : gat S 12 (oo k) = S.1 12 k := gat_of rfl (by decide) h
theorem p_12 {S : XS} {k : Nat} {v : Int32} (h : k < 6) : pat S 12 (oo k) v = sI S 12 k v := pat_of rfl (by decide) h
theorem g_13 {S : XS} {k : Nat} (h : k < 6) : gat S 13 (oo k) = S.1 13 k := gat_of rfl (by decide) h
theorem p_13 {S : XS} {k : Nat} {v : Int32} (h : k < 6) : pat S 13 (oo k) v = sI S 13 k v := pat_of rfl (by decide) h
theorem g_14 {S : XS} {k : Nat} (h : k < 366) : gat S 14 (oo k) = S.1 14 k := gat_of rfl (by decide) h
theorem p_14 {S : XS} {k : Nat} {v : Int32} (h : k < 366) : pat S 14 (oo k) v = sI S 14 k v := pat_of rfl (by decide) h
theorem g_15 {S : XS} {k : Nat} (h : k < 61) : gat S 15 (oo k) = S.1 15 k := gat_of rfl (by decide) h
theorem p_15 {S : XS} {k : Nat} {v : Int32} (h : k < 61) : pat S 15 (oo k) v = sI S 15 k v := pat_of rfl (by decide) h
theorem g_18 {S : XS} {k : Nat} (h : k < 6) : gat S 18 (oo k) = S.1 18 k := gat_of rfl (by decide) h
theorem p_18 {S : XS} {k : Nat} {v : Int32} (h : k < 6) : pat S 18 (oo k) v = sI S 18 k v := pat_of rfl (by decide) h
theorem g_20 {S : XS} {k : Nat} (h : k < 6) : gat S 20 (oo k) = S.1 20 k := gat_of rfl (by decide) h
theorem p_20 {S : XS} {k : Nat} {v : Int32} (h : k < 6) : pat S 20 (oo k) v = sI S 20 k v := pat_of rfl (by decide) h
theorem g_21 {S : XS} {k : Nat} (h : k < 36) : gat S 21 (oo k) = S.1 21 k := gat_of rfl (by decide) h
theorem p_21 {S : XS} {k : Nat} {v : Int32} (h : k < 36) : pat S 21 (oo k) v = sI S 21 k v := pat_of rfl (by decide) h
theorem g_22 {S : XS} {k : Nat} (h : k < 6) : gat S 22 (oo k) = S.1 22 k := gat_of rfl (by decide) h
theorem p_22 {S : XS} {k : Nat} {v : Int32} (h : k < 6) : pat S 22 (oo k) v = sI S 22 k v := pat_of rfl (by decide) h
theorem g_23 {S : XS} {k : Nat} (h : k < 6) : gat S 23 (oo k) = S.1 23 k := gat_of rfl (by decide) h
theorem p_23 {S : XS} {k : Nat} {v : Int32} (h : k < 6) : pat S 23 (oo k) v = sI S 23 k v := pat_of rfl (by decide) h
theorem g_24 {S : XS} {k : Nat} (h : k < 366) : gat S 24 (oo k) = S.1 24 k := gat_of rfl (by decide) h
theorem p_24 {S : XS} {k : Nat} {v : Int32} (h : k < 366) : pat S 24 (oo k) v = sI S 24 k v := pat_of rfl (by decide) h
theorem g_25 {S : XS} {k : Nat} (h : k < 61) : gat S 25 (oo k) = S.1 25 k := gat_of rfl (by decide) h
theorem p_25 {S : XS} {k : Nat} {v : Int32} (h : k < 61) : pat S 25 (oo k) v = sI S 25 k v := pat_of rfl (by decide) h
theorem g_26 {S : XS} {k : Nat} (h : k < 36) : gat S 26 (oo k) = S.1 26 k := gat_of rfl (by decide) h
theorem p_26 {S : XS} {k : Nat} {v : Int32} (h : k < 36) : pat S 26 (oo k) v = sI S 26 k v := pat_of rfl (by decide) h
theorem g_27 {S : XS} {k : Nat} (h : k < 216) : gat S 27 (oo k) = S.1 27 k := gat_of rfl (by decide) h
theorem p_27 {S : XS} {k : Nat} {v : Int32} (h : k < 216) : pat S 27 (oo k) v = sI S 27 k v := pat_of rfl (by decide) h
theorem g_29 {S : XS} {k : Nat} (h : k < 6) : gat S 29 (oo k) = S.1 29 k := gat_of rfl (by decide) h
theorem p_29 {S : XS} {k : Nat} {v : Int32} (h : k < 6) : pat S 29 (oo k) v = sI S 29 k v := pat_of rfl (by decide) h
theorem g_30 {S : XS} {k : Nat} (h : k < 6) : gat S 30 (oo k) = S.1 30 k := gat_of rfl (by decide) h
theorem p_30 {S : XS} {k : Nat} {v : Int32} (h : k < 6) : pat S 30 (oo k) v = sI S 30 k v := pat_of rfl (by decide) h
theorem g_31 {S : XS} {k : Nat} (h : k < 36) : gat S 31 (oo k) = S.1 31 k := gat_of rfl (by decide) h
theorem p_31 {S : XS} {k : Nat} {v : Int32} (h : k < 36) : pat S 31 (oo k) v = sI S 31 k v := pat_of rfl (by decide) h
theorem g_32 {S : XS} {k : Nat} (h : k < 48) : gat S 32 (oo k) = S.1 32 k := gat_of rfl (by decide) h
theorem p_32 {S : XS} {k : Nat} {v : Int32} (h : k < 48) : pat S 32 (oo k) v = sI S 32 k v := pat_of rfl (by decide) h
theorem g_33 {S : XS} {k : Nat} (h : k < 8) : gat S 33 (oo k) = S.1 33 k := gat_of rfl (by decide) h
theorem p_33 {S : XS} {k : Nat} {v : Int32} (h : k < 8) : pat S 33 (oo k) v = sI S 33 k v := pat_of rfl (by decide) h
theorem g_34 {S : XS} {k : Nat} (h : k < 8) : gat S 34 (oo k) = S.1 34 k := gat_of rfl (by decide) h
theorem p_34 {S : XS} {k : Nat} {v : Int32} (h : k < 8) : pat S 34 (oo k) v = sI S 34 k v := pat_of rfl (by decide) h
theorem g_35 {S : XS} {k : Nat} (h : k < 8) : gat S 35 (oo k) = S.1 35 k := gat_of rfl (by decide) h
theorem p_35 {S : XS} {k : Nat} {v : Int32} (h : k < 8) : pat S 35 (oo k) v = sI S 35 k v := pat_of rfl (by decide) h
theorem g_37 {S : XS} {k : Nat} (h : k < 40) : gat S 37 (oo k) = S.1 37 k := gat_of rfl (by decide) h
theorem p_37 {S : XS} {k : Nat} {v : Int32} (h : k < 40) : pat S 37 (oo k) v = sI S 37 k v := pat_of rfl (by decide) h
theorem g_38 {S : XS} {k : Nat} (h : k < 40) : gat S 38 (oo k) = S.1 38 k := gat_of rfl (by decide) h
theorem p_38 {S : XS} {k : Nat} {v : Int32} (h : k < 40) : pat S 38 (oo k) v = sI S 38 k v := pat_of rfl (by decide) h
theorem g_39 {S : XS} {k : Nat} (h : k < 40) : gat S 39 (oo k) = S.1 39 k := gat_of rfl (by decide) h
theorem p_39 {S : XS} {k : Nat} {v : Int32} (h : k < 40) : pat S 39 (oo k) v = sI S 39 k v := pat_of rfl (by decide) h
theorem g_42 {S : XS} {k : Nat} (h : k < 40) : gat S 42 (oo k) = S.1 42 k := gat_of rfl (by decide) h
theorem p_42 {S : XS} {k : Nat} {v : Int32} (h : k < 40) : pat S 42 (oo k) v = sI S 42 k v := pat_of rfl (by decide) h
theorem g_43 {S : XS} {k : Nat} (h : k < 40) : gat S 43 (oo k) = S.1 43 k := gat_of rfl (by decide) h
theorem p_43 {S : XS} {k : Nat} {v : Int32} (h : k < 40) : pat S 43 (oo k) v = sI S 43 k v := pat_of rfl (by decide) h
theorem g_44 {S : XS} {k : Nat} (h : k < 40) : gat S 44 (oo k) = S.1 44 k := gat_of rfl (by decide) h
theorem p_44 {S : XS} {k : Nat} {v : Int32} (h : k < 40) : pat S 44 (oo k) v = sI S 44 k v := pat_of rfl (by decide) h
theorem g_48 {S : XS} {k : Nat} (h : k < 6) : gat S 48 (oo k) = S.1 48 k := gat_of rfl (by decide) h
theorem p_48 {S : XS} {k : Nat} {v : Int32} (h : k < 6) : pat S 48 (oo k) v = sI S 48 k v := pat_of rfl (by decide) h
theorem g_49 {S : XS} {k : Nat} (h : k < 6) : gat S 49 (oo k) = S.1 49 k := gat_of rfl (by decide) h
theorem p_49 {S : XS} {k : Nat} {v : Int32} (h : k < 6) : pat S 49 (oo k) v = sI S 49 k v := pat_of rfl (by decide) h
theorem g_50 {S : XS} {k : Nat} (h : k < 36) : gat S 50 (oo k) = S.1 50 k := gat_of rfl (by decide) h
theorem p_50 {S : XS} {k : Nat} {v : Int32} (h : k < 36) : pat S 50 (oo k) v = sI S 50 k v := pat_of rfl (by decide) h
theorem g_51 {S : XS} {k : Nat} (h : k < 48) : gat S 51 (oo k) = S.1 51 k := gat_of rfl (by decide) h
theorem p_51 {S : XS} {k : Nat} {v : Int32} (h : k < 48) : pat S 51 (oo k) v = sI S 51 k v := pat_of rfl (by decide) h
theorem g_52 {S : XS} {k : Nat} (h : k < 8) : gat S 52 (oo k) = S.1 52 k := gat_of rfl (by decide) h
theorem p_52 {S : XS} {k : Nat} {v : Int32} (h : k < 8) : pat S 52 (oo k) v = sI S 52 k v := pat_of rfl (by decide) h
theorem g_53 {S : XS} {k : Nat} (h : k < 8) : gat S 53 (oo k) = S.1 53 k := gat_of rfl (by decide) h
theorem p_53 {S : XS} {k : Nat} {v : Int32} (h : k < 8) : pat S 53 (oo k) v = sI S 53 k v := pat_of rfl (by decide) h
theorem g_54 {S : XS} {k : Nat} (h : k < 8) : gat S 54 (oo k) = S.1 54 k := gat_of rfl (by decide) h
theorem p_54 {S : XS} {k : Nat} {v : Int32} (h : k < 8) : pat S 54 (oo k) v = sI S 54 k v := pat_of rfl (by decide) h
theorem g_56 {S : XS} {k : Nat} (h : k < 6) : gat S 56 (oo k) = S.1 56 k := gat_of rfl (by decide) h
theorem p_56 {S : XS} {k : Nat} {v : Int32} (h : k < 6) : pat S 56 (oo k) v = sI S 56 k v := pat_of rfl (by decide) h
theorem g_57 {S : XS} {k : Nat} (h : k < 6) : gat S 57 (oo k) = S.1 57 k := gat_of rfl (by decide) h
theorem p_57 {S : XS} {k : Nat} {v : Int32} (h : k < 6) : pat S 57 (oo k) v = sI S 57 k v := pat_of rfl (by decide) h
theorem g_58 {S : XS} {k : Nat} (h : k < 36) : gat S 58 (oo k) = S.1 58 k := gat_of rfl (by decide) h
theorem p_58 {S : XS} {k : Nat} {v : Int32} (h : k < 36) : pat S 58 (oo k) v = sI S 58 k v := pat_of rfl (by decide) h
theorem g_59 {S : XS} {k : Nat} (h : k < 48) : gat S 59 (oo k) = S.1 59 k := gat_of rfl (by decide) h
theorem p_59 {S : XS} {k : Nat} {v : Int32} (h : k < 48) : pat S 59 (oo k) v = sI S 59 k v := pat_of rfl (by decide) h
theorem g_60 {S : XS} {k : Nat} (h : k < 8) : gat S 60 (oo k) = S.1 60 k := gat_of rfl (by decide) h
theorem p_60 {S : XS} {k : Nat} {v : Int32} (h : k < 8) : pat S 60 (oo k) v = sI S 60 k v := pat_of rfl (by decide) h
theorem g_61 {S : XS} {k : Nat} (h : k < 8) : gat S 61 (oo k) = S.1 61 k := gat_of rfl (by decide) h
theorem p_61 {S : XS} {k : Nat} {v : Int32} (h : k < 8) : pat S 61 (oo k) v = sI S 61 k v := pat_of rfl (by decide) h
theorem g_62 {S : XS} {k : Nat} (h : k < 8) : gat S 62 (oo k) = S.1 62 k := gat_of rfl (by decide) h
theorem p_62 {S : XS} {k : Nat} {v : Int32} (h : k < 8) : pat S 62 (oo k) v = sI S 62 k v := pat_of rfl (by decide) h
theorem g_64 {S : XS} {k : Nat} (h : k < 6) : gat S 64 (oo k) = S.1 64 k := gat_of rfl (by decide) h
theorem p_64 {S : XS} {k : Nat} {v : Int32} (h : k < 6) : pat S 64 (oo k) v = sI S 64 k v := pat_of rfl (by decide) h
theorem g_65 {S : XS} {k : Nat} (h : k < 6) : gat S 65 (oo k) = S.1 65 k := gat_of rfl (by decide) h
theorem p_65 {S : XS} {k : Nat} {v : Int32} (h : k < 6) : pat S 65 (oo k) v = sI S 65 k v := pat_of rfl (by decide) h
theorem g_66 {S : XS} {k : Nat} (h : k < 36) : gat S 66 (oo k) = S.1 66 k := gat_of rfl (by decide) h
theorem p_66 {S : XS} {k : Nat} {v : Int32} (h : k < 36) : pat S 66 (oo k) v = sI S 66 k v := pat_of rfl (by decide) h
theorem g_67 {S : XS} {k : Nat} (h : k < 48) : gat S 67 (oo k) = S.1 67 k := gat_of rfl (by decide) h
theorem p_67 {S : XS} {k : Nat} {v : Int32} (h : k < 48) : pat S 67 (oo k) v = sI S 67 k v := pat_of rfl (by decide) h
theorem g_68 {S : XS} {k : Nat} (h : k < 8) : gat S 68 (oo k) = S.1 68 k := gat_of rfl (by decide) h
theorem p_68 {S : XS} {k : Nat} {v : Int32} (h : k < 8) : pat S 68 (oo k) v = sI S 68 k v := pat_of rfl (by decide) h
theorem g_69 {S : XS} {k : Nat} (h : k < 8) : gat S 69 (oo k) = S.1 69 k := gat_of rfl (by decide) h
theorem p_69 {S : XS} {k : Nat} {v : Int32} (h : k < 8) : pat S 69 (oo k) v = sI S 69 k v := pat_of rfl (by decide) h
theorem g_70 {S : XS} {k : Nat} (h : k < 8) : gat S 70 (oo k) = S.1 70 k := gat_of rfl (by decide) h
theorem p_70 {S : XS} {k : Nat} {v : Int32} (h : k < 8) : pat S 70 (oo k) v = sI S 70 k v := pat_of rfl (by decide) h
theorem g_72 {S : XS} {k : Nat} (h : k < 6) : gat S 72 (oo k) = S.1 72 k := gat_of rfl (by decide) h
theorem p_72 {S : XS} {k : Nat} {v : Int32} (h : k < 6) : pat S 72 (oo k) v = sI S 72 k v := pat_of rfl (by decide) h
theorem g_73 {S : XS} {k : Nat} (h : k < 6) : gat S 73 (oo k) = S.1 73 k := gat_of rfl (by decide) h
theorem p_73 {S : XS} {k : Nat} {v : Int32} (h : k < 6) : pat S 73 (oo k) v = sI S 73 k v := pat_of rfl (by decide) h
theorem g_74 {S : XS} {k : Nat} (h : k < 36) : gat S 74 (oo k) = S.1 74 k := gat_of rfl (by decide) h
theorem p_74 {S : XS} {k : Nat} {v : Int32} (h : k < 36) : pat S 74 (oo k) v = sI S 74 k v := pat_of rfl (by decide) h
theorem g_75 {S : XS} {k : Nat} (h : k < 48) : gat S 75 (oo k) = S.1 75 k := gat_of rfl (by decide) h
theorem p_75 {S : XS} {k : Nat} {v : Int32} (h : k < 48) : pat S 75 (oo k) v = sI S 75 k v := pat_of rfl (by decide) h
theorem g_76 {S : XS} {k : Nat} (h : k < 8) : gat S 76 (oo k) = S.1 76 k := gat_of rfl (by decide) h
theorem p_76 {S : XS} {k : Nat} {v : Int32} (h : k < 8) : pat S 76 (oo k) v = sI S 76 k v := pat_of rfl (by decide) h
theorem g_77 {S : XS} {k : Nat} (h : k < 8) : gat S 77 (oo k) = S.1 77 k := gat_of rfl (by decide) h
theorem p_77 {S : XS} {k : Nat} {v : Int32} (h : k < 8) : pat S 77 (oo k) v = sI S 77 k v := pat_of rfl (by decide) h
theorem g_78 {S : XS} {k : Nat} (h : k < 8) : gat S 78 (oo k) = S.1 78 k := gat_of rfl (by decide) h
theorem p_78 {S : XS} {k : Nat} {v : Int32} (h : k < 8) : pat S 78 (oo k) v = sI S 78 k v := pat_of rfl (by decide) h
theorem g_80 {S : XS} {k : Nat} (h : k < 6) : gat S 80 (oo k) = S.1 80 k := gat_of rfl (by decide) h
theorem p_80 {S : XS} {k : Nat} {v : Int32} (h : k < 6) : pat S 80 (oo k) v = sI S 80 k v := pat_of rfl (by decide) h
theorem g_81 {S : XS} {k : Nat} (h : k < 6) : gat S 81 (oo k) = S.1 81 k := gat_of rfl (by decide) h
theorem p_81 {S : XS} {k : Nat} {v : Int32} (h : k < 6) : pat S 81 (oo k) v = sI S 81 k v := pat_of rfl (by decide) h
theorem g_82 {S : XS} {k : Nat} (h : k < 36) : gat S 82 (oo k) = S.1 82 k := gat_of rfl (by decide) h
theorem p_82 {S : XS} {k : Nat} {v : Int32} (h : k < 36) : pat S 82 (oo k) v = sI S 82 k v := pat_of rfl (by decide) h
theorem g_83 {S : XS} {k : Nat} (h : k < 48) : gat S 83 (oo k) = S.1 83 k := gat_of rfl (by decide) h
theorem p_83 {S : XS} {k : Nat} {v : Int32} (h : k < 48) : pat S 83 (oo k) v = sI S 83 k v := pat_of rfl (by decide) h
theorem g_84 {S : XS} {k : Nat} (h : k < 8) : gat S 84 (oo k) = S.1 84 k := gat_of rfl (by decide) h
theorem p_84 {S : XS} {k : Nat} {v : Int32} (h : k < 8) : pat S 84 (oo k) v = sI S 84 k v := pat_of rfl (by decide) h
theorem g_85 {S : XS} {k : Nat} (h : k < 8) : gat S 85 (oo k) = S.1 85 k := gat_of rfl (by decide) h
theorem p_85 {S : XS} {k : Nat} {v : Int32} (h : k < 8) : pat S 85 (oo k) v = sI S 85 k v := pat_of rfl (by decide) h
theorem g_86 {S : XS} {k : Nat} (h : k < 8) : gat S 86 (oo k) = S.1 86 k := gat_of rfl (by decide) h
theorem p_86 {S : XS} {k : Nat} {v : Int32} (h : k < 8) : pat S 86 (oo k) v = sI S 86 k v := pat_of rfl (by decide) h
theorem g_88 {S : XS} {k : Nat} (h : k < 6) : gat S 88 (oo k) = S.1 88 k := gat_of rfl (by decide) h
theorem p_88 {S : XS} {k : Nat} {v : Int32} (h : k < 6) : pat S 88 (oo k) v = sI S 88 k v := pat_of rfl (by decide) h
theorem g_89 {S : XS} {k : Nat} (h : k < 6) : gat S 89 (oo k) = S.1 89 k := gat_of rfl (by decide) h
theorem p_89 {S : XS} {k : Nat} {v : Int32} (h : k < 6) : pat S 89 (oo k) v = sI S 89 k v := pat_of rfl (by decide) h
theorem g_90 {S : XS} {k : Nat} (h : k < 36) : gat S 90 (oo k) = S.1 90 k := gat_of rfl (by decide) h
theorem p_90 {S : XS} {k : Nat} {v : Int32} (h : k < 36) : pat S 90 (oo k) v = sI S 90 k v := pat_of rfl (by decide) h
theorem g_91 {S : XS} {k : Nat} (h : k < 48) : gat S 91 (oo k) = S.1 91 k := gat_of rfl (by decide) h
theorem p_91 {S : XS} {k : Nat} {v : Int32} (h : k < 48) : pat S 91 (oo k) v = sI S 91 k v := pat_of rfl (by decide) h
theorem g_92 {S : XS} {k : Nat} (h : k < 8) : gat S 92 (oo k) = S.1 92 k := gat_of rfl (by decide) h
theorem p_92 {S : XS} {k : Nat} {v : Int32} (h : k < 8) : pat S 92 (oo k) v = sI S 92 k v := pat_of rfl (by decide) h
theorem g_93 {S : XS} {k : Nat} (h : k < 8) : gat S 93 (oo k) = S.1 93 k := gat_of rfl (by decide) h
theorem p_93 {S : XS} {k : Nat} {v : Int32} (h : k < 8) : pat S 93 (oo k) v = sI S 93 k v := pat_of rfl (by decide) h
theorem g_94 {S : XS} {k : Nat} (h : k < 8) : gat S 94 (oo k) = S.1 94 k := gat_of rfl (by decide) h
theorem p_94 {S : XS} {k : Nat} {v : Int32} (h : k < 8) : pat S 94 (oo k) v = sI S 94 k v := pat_of rfl (by decide) h
theorem g_96 {S : XS} {k : Nat} (h : k < 6) : gat S 96 (oo k) = S.1 96 k := gat_of rfl (by decide) h
theorem p_96 {S : XS} {k : Nat} {v : Int32} (h : k < 6) : pat S 96 (oo k) v = sI S 96 k v := pat_of rfl (by decide) h
theorem g_97 {S : XS} {k : Nat} (h : k < 6) : gat S 97 (oo k) = S.1 97 k := gat_of rfl (by decide) h
theorem p_97 {S : XS} {k : Nat} {v : Int32} (h : k < 6) : pat S 97 (oo k) v = sI S 97 k v := pat_of rfl (by decide) h
theorem g_98 {S : XS} {k : Nat} (h : k < 36) : gat S 98 (oo k) = S.1 98 k := gat_of rfl (by decide) h
theorem p_98 {S : XS} {k : Nat} {v : Int32} (h : k < 36) : pat S 98 (oo k) v = sI S 98 k v := pat_of rfl (by decide) h
theorem g_99 {S : XS} {k : Nat} (h : k < 48) : gat S 99 (oo k) = S.1 99 k := gat_of rfl (by decide) h
theorem p_99 {S : XS} {k : Nat} {v : Int32} (h : k < 48) : pat S 99 (oo k) v = sI S 99 k v := pat_of rfl (by decide) h
theorem g_100 {S : XS} {k : Nat} (h : k < 8) : gat S 100 (oo k) = S.1 100 k := gat_of rfl (by decide) h
theorem p_100 {S : XS} {k : Nat} {v : Int32} (h : k < 8) : pat S 100 (oo k) v = sI S 100 k v := pat_of rfl (by decide) h
theorem g_101 {S : XS} {k : Nat} (h : k < 8) : gat S 101 (oo k) = S.1 101 k := gat_of rfl (by decide) h
theorem p_101 {S : XS} {k : Nat} {v : Int32} (h : k < 8) : pat S 101 (oo k) v = sI S 101 k v := pat_of rfl (by decide) h
theorem g_102 {S : XS} {k : Nat} (h : k < 8) : gat S 102 (oo k) = S.1 102 k := gat_of rfl (by decide) h
theorem p_102 {S : XS} {k : Nat} {v : Int32} (h : k < 8) : pat S 102 (oo k) v = sI S 102 k v := pat_of rfl (by decide) h
theorem g_104 {S : XS} {k : Nat} (h : k < 6) : gat S 104 (oo k) = S.1 104 k := gat_of rfl (by decide) h
theorem p_104 {S : XS} {k : Nat} {v : Int32} (h : k < 6) : pat S 104 (oo k) v = sI S 104 k v := pat_of rfl (by decide) h
theorem g_105 {S : XS} {k : Nat} (h : k < 6) : gat S 105 (oo k) = S.1 105 k := gat_of rfl (by decide) h
theorem p_105 {S : XS} {k : Nat} {v : Int32} (h : k < 6) : pat S 105 (oo k) v = sI S 105 k v := pat_of rfl (by decide) h
theorem g_106 {S : XS} {k : Nat} (h : k < 36) : gat S 106 (oo k) = S.1 106 k := gat_of rfl (by decide) h
theorem p_106 {S : XS} {k : Nat} {v : Int32} (h : k < 36) : pat S 106 (oo k) v = sI S 106 k v := pat_of rfl (by decide) h
theorem g_107 {S : XS} {k : Nat} (h : k < 48) : gat S 107 (oo k) = S.1 107 k := gat_of rfl (by decide) h
theorem p_107 {S : XS} {k : Nat} {v : Int32} (h : k < 48) : pat S 107 (oo k) v = sI S 107 k v := pat_of rfl (by decide) h
theorem g_108 {S : XS} {k : Nat} (h : k < 8) : gat S 108 (oo k) = S.1 108 k := gat_of rfl (by decide) h
theorem p_108 {S : XS} {k : Nat} {v : Int32} (h : k < 8) : pat S 108 (oo k) v = sI S 108 k v := pat_of rfl (by decide) h
theorem g_109 {S : XS} {k : Nat} (h : k < 8) : gat S 109 (oo k) = S.1 109 k := gat_of rfl (by decide) h
theorem p_109 {S : XS} {k : Nat} {v : Int32} (h : k < 8) : pat S 109 (oo k) v = sI S 109 k v := pat_of rfl (by decide) h
theorem g_110 {S : XS} {k : Nat} (h : k < 8) : gat S 110 (oo k) = S.1 110 k := gat_of rfl (by decide) h
theorem p_110 {S : XS} {k : Nat} {v : Int32} (h : k < 8) : pat S 110 (oo k) v = sI S 110 k v := pat_of rfl (by decide) h
theorem g_115 {S : XS} {k : Nat} (h : k < 6) : gat S 115 (oo k) = S.1 115 k := gat_of rfl (by decide) h
theorem p_115 {S : XS} {k : Nat} {v : Int32} (h : k < 6) : pat S 115 (oo k) v = sI S 115 k v := pat_of rfl (by decide) h
theorem g_117 {S : XS} {k : Nat} (h : k < 6) : gat S 117 (oo k) = S.1 117 k := gat_of rfl (by decide) h
theorem p_117 {S : XS} {k : Nat} {v : Int32} (h : k < 6) : pat S 117 (oo k) v = sI S 117 k v := pat_of rfl (by decide) h
theorem g_118 {S : XS} {k : Nat} (h : k < 36) : gat S 118 (oo k) = S.1 118 k := gat_of rfl (by decide) h
theorem p_118 {S : XS} {k : Nat} {v : Int32} (h : k < 36) : pat S 118 (oo k) v = sI S 118 k v := pat_of rfl (by decide) h
theorem g_119 {S : XS} {k : Nat} (h : k < 6) : gat S 119 (oo k) = S.1 119 k := gat_of rfl (by decide) h
theorem p_119 {S : XS} {k : Nat} {v : Int32} (h : k < 6) : pat S 119 (oo k) v = sI S 119 k v := pat_of rfl (by decide) h
theorem g_120 {S : XS} {k : Nat} (h : k < 6) : gat S 120 (oo k) = S.1 120 k := gat_of rfl (by decide) h
theorem p_120 {S : XS} {k : Nat} {v : Int32} (h : k < 6) : pat S 120 (oo k) v = sI S 120 k v := pat_of rfl (by decide) h
theorem g_121 {S : XS} {k : Nat} (h : k < 366) : gat S 121 (oo k) = S.1 121 k := gat_of rfl (by decide) h
theorem p_121 {S : XS} {k : Nat} {v : Int32} (h : k < 366) : pat S 121 (oo k) v = sI S 121 k v := pat_of rfl (by decide) h
theorem g_122 {S : XS} {k : Nat} (h : k < 61) : gat S 122 (oo k) = S.1 122 k := gat_of rfl (by decide) h
theorem p_122 {S : XS} {k : Nat} {v : Int32} (h : k < 61) : pat S 122 (oo k) v = sI S 122 k v := pat_of rfl (by decide) h
theorem g_124 {S : XS} {k : Nat} (h : k < 6) : gat S 124 (oo k) = S.1 124 k := gat_of rfl (by decide) h
theorem p_124 {S : XS} {k : Nat} {v : Int32} (h : k < 6) : pat S 124 (oo k) v = sI S 124 k v := pat_of rfl (by decide) h
theorem g_125 {S : XS} {k : Nat} (h : k < 6) : gat S 125 (oo k) = S.1 125 k := gat_of rfl (by decide) h
theorem p_125 {S : XS} {k : Nat} {v : Int32} (h : k < 6) : pat S 125 (oo k) v = sI S 125 k v := pat_of rfl (by decide) h
theorem g_126 {S : XS} {k : Nat} (h : k < 36) : gat S 126 (oo k) = S.1 126 k := gat_of rfl (by decide) h
theorem p_126 {S : XS} {k : Nat} {v : Int32} (h : k < 36) : pat S 126 (oo k) v = sI S 126 k v := pat_of rfl (by decide) h
theorem g_127 {S : XS} {k : Nat} (h : k < 48) : gat S 127 (oo k) = S.1 127 k := gat_of rfl (by decide) h
theorem p_127 {S : XS} {k : Nat} {v : Int32} (h : k < 48) : pat S 127 (oo k) v = sI S 127 k v := pat_of rfl (by decide) h
theorem g_128 {S : XS} {k : Nat} (h : k < 8) : gat S 128 (oo k) = S.1 128 k := gat_of rfl (by decide) h
theorem p_128 {S : XS} {k : Nat} {v : Int32} (h : k < 8) : pat S 128 (oo k) v = sI S 128 k v := pat_of rfl (by decide) h
theorem g_129 {S : XS} {k : Nat} (h : k < 8) : gat S 129 (oo k) = S.1 129 k := gat_of rfl (by decide) h
theorem p_129 {S : XS} {k : Nat} {v : Int32} (h : k < 8) : pat S 129 (oo k) v = sI S 129 k v := pat_of rfl (by decide) h
theorem g_130 {S : XS} {k : Nat} (h : k < 8) : gat S 130 (oo k) = S.1 130 k := gat_of rfl (by decide) h
theorem p_130 {S : XS} {k : Nat} {v : Int32} (h : k < 8) : pat S 130 (oo k) v = sI S 130 k v := pat_of rfl (by decide) h
theorem g_132 {S : XS} {k : Nat} (h : k < 40) : gat S 132 (oo k) = S.1 132 k := gat_of rfl (by decide) h
theorem p_132 {S : XS} {k : Nat} {v : Int32} (h : k < 40) : pat S 132 (oo k) v = sI S 132 k v := pat_of rfl (by decide) h
theorem g_133 {S : XS} {k : Nat} (h : k < 40) : gat S 133 (oo k) = S.1 133 k := gat_of rfl (by decide) h
theorem p_133 {S : XS} {k : Nat} {v : Int32} (h : k < 40) : pat S 133 (oo k) v = sI S 133 k v := pat_of rfl (by decide) h
theorem g_134 {S : XS} {k : Nat} (h : k < 40) : gat S 134 (oo k) = S.1 134 k := gat_of rfl (by decide) h
theorem p_134 {S : XS} {k : Nat} {v : Int32} (h : k < 40) : pat S 134 (oo k) v = sI S 134 k v := pat_of rfl (by decide) h
theorem g_136 {S : XS} {k : Nat} (h : k < 6) : gat S 136 (oo k) = S.1 136 k := gat_of rfl (by decide) h
theorem p_136 {S : XS} {k : Nat} {v : Int32} (h : k < 6) : pat S 136 (oo k) v = sI S 136 k v := pat_of rfl (by decide) h
theorem g_138 {S : XS} {k : Nat} (h : k < 6) : gat S 138 (oo k) = S.1 138 k := gat_of rfl (by decide) h
theorem p_138 {S : XS} {k : Nat} {v : Int32} (h : k < 6) : pat S 138 (oo k) v = sI S 138 k v := pat_of rfl (by decide) h
theorem g_139 {S : XS} {k : Nat} (h : k < 36) : gat S 139 (oo k) = S.1 139 k := gat_of rfl (by decide) h
theorem p_139 {S : XS} {k : Nat} {v : Int32} (h : k < 36) : pat S 139 (oo k) v = sI S 139 k v := pat_of rfl (by decide) h
theorem g_140 {S : XS} {k : Nat} (h : k < 6) : gat S 140 (oo k) = S.1 140 k := gat_of rfl (by decide) h
theorem p_140 {S : XS} {k : Nat} {v : Int32} (h : k < 6) : pat S 140 (oo k) v = sI S 140 k v := pat_of rfl (by decide) h
theorem g_141 {S : XS} {k : Nat} (h : k < 6) : gat S 141 (oo k) = S.1 141 k := gat_of rfl (by decide) h
theorem p_141 {S : XS} {k : Nat} {v : Int32} (h : k < 6) : pat S 141 (oo k) v = sI S 141 k v := pat_of rfl (by decide) h
theorem g_142 {S : XS} {k : Nat} (h : k < 366) : gat S 142 (oo k) = S.1 142 k := gat_of rfl (by decide) h
theorem p_142 {S : XS} {k : Nat} {v : Int32} (h : k < 366) : pat S 142 (oo k) v = sI S 142 k v := pat_of rfl (by decide) h
theorem g_143 {S : XS} {k : Nat} (h : k < 61) : gat S 143 (oo k) = S.1 143 k := gat_of rfl (by decide) h
theorem p_143 {S : XS} {k : Nat} {v : Int32} (h : k < 61) : pat S 143 (oo k) v = sI S 143 k v := pat_of rfl (by decide) h
theorem g_145 {S : XS} {k : Nat} (h : k < 6) : gat S 145 (oo k) = S.1 145 k := gat_of rfl (by decide) h
theorem p_145 {S : XS} {k : Nat} {v : Int32} (h : k < 6) : pat S 145 (oo k) v = sI S 145 k v := pat_of rfl (by decide) h
theorem g_146 {S : XS} {k : Nat} (h : k < 6) : gat S 146 (oo k) = S.1 146 k := gat_of rfl (by decide) h
theorem p_146 {S : XS} {k : Nat} {v : Int32} (h : k < 6) : pat S 146 (oo k) v = sI S 146 k v := pat_of rfl (by decide) h
theorem g_147 {S : XS} {k : Nat} (h : k < 36) : gat S 147 (oo k) = S.1 147 k := gat_of rfl (by decide) h
theorem p_147 {S : XS} {k : Nat} {v : Int32} (h : k < 36) : pat S 147 (oo k) v = sI S 147 k v := pat_of rfl (by decide) h
theorem g_148 {S : XS} {k : Nat} (h : k < 48) : gat S 148 (oo k) = S.1 148 k := gat_of rfl (by decide) h
theorem p_148 {S : XS} {k : Nat} {v : Int32} (h : k < 48) : pat S 148 (oo k) v = sI S 148 k v := pat_of rfl (by decide) h
theorem g_149 {S : XS} {k : Nat} (h : k < 8) : gat S 149 (oo k) = S.1 149 k := gat_of rfl (by decide) h
theorem p_149 {S : XS} {k : Nat} {v : Int32} (h : k < 8) : pat S 149 (oo k) v = sI S 149 k v := pat_of rfl (by decide) h
theorem g_150 {S : XS} {k : Nat} (h : k < 8) : gat S 150 (oo k) = S.1 150 k := gat_of rfl (by decide) h
theorem p_150 {S : XS} {k : Nat} {v : Int32} (h : k < 8) : pat S 150 (oo k) v = sI S 150 k v := pat_of rfl (by decide) h
theorem g_151 {S : XS} {k : Nat} (h : k < 8) : gat S 151 (oo k) = S.1 151 k := gat_of rfl (by decide) h
theorem p_151 {S : XS} {k : Nat} {v : Int32} (h : k < 8) : pat S 151 (oo k) v = sI S 151 k v := pat_of rfl (by decide) h
theorem g_153 {S : XS} {k : Nat} (h : k < 40) : gat S 153 (oo k) = S.1 153 k := gat_of rfl (by decide) h
theorem p_153 {S : XS} {k : Nat} {v : Int32} (h : k < 40) : pat S 153 (oo k) v = sI S 153 k v := pat_of rfl (by decide) h
theorem g_154 {S : XS} {k : Nat} (h : k < 40) : gat S 154 (oo k) = S.1 154 k := gat_of rfl (by decide) h
theorem p_154 {S : XS} {k : Nat} {v : Int32} (h : k < 40) : pat S 154 (oo k) v = sI S 154 k v := pat_of rfl (by decide) h
theorem g_155 {S : XS} {k : Nat} (h : k < 40) : gat S 155 (oo k) = S.1 155 k := gat_of rfl (by decide) h
theorem p_155 {S : XS} {k : Nat} {v : Int32} (h : k < 40) : pat S 155 (oo k) v = sI S 155 k v := pat_of rfl (by decide) h
theorem g_156 {S : XS} {k : Nat} (h : k < 2) : gat S 156 (oo k) = S.1 156 k := gat_of rfl (by decide) h
theorem p_156 {S : XS} {k : Nat} {v : Int32} (h : k < 2) : pat S 156 (oo k) v = sI S 156 k v := pat_of rfl (by decide) h
theorem g_158 {S : XS} {k : Nat} (h : k < 6) : gat S 158 (oo k) = S.1 158 k := gat_of rfl (by decide) h
theorem p_158 {S : XS} {k : Nat} {v : Int32} (h : k < 6) : pat S 158 (oo k) v = sI S 158 k v := pat_of rfl (by decide) h
theorem g_159 {S : XS} {k : Nat} (h : k < 8) : gat S 159 (oo k) = S.1 159 k := gat_of rfl (by decide) h
theorem p_159 {S : XS} {k : Nat} {v : Int32} (h : k < 8) : pat S 159 (oo k) v = sI S 159 k v := pat_of rfl (by decide) h
theorem g_160 {S : XS} {k : Nat} (h : k < 8) : gat S 160 (oo k) = S.1 160 k := gat_of rfl (by decide) h
theorem p_160 {S : XS} {k : Nat} {v : Int32} (h : k < 8) : pat S 160 (oo k) v = sI S 160 k v := pat_of rfl (by decide) h
theorem g_161 {S : XS} {k : Nat} (h : k < 8) : gat S 161 (oo k) = S.1 161 k := gat_of rfl (by decide) h
theorem p_161 {S : XS} {k : Nat} {v : Int32} (h : k < 8) : pat S 161 (oo k) v = sI S 161 k v := pat_of rfl (by decide) h
theorem g_162 {S : XS} {k : Nat} (h : k < 54) : gat S 162 (oo k) = S.1 162 k := gat_of rfl (by decide) h
theorem p_162 {S : XS} {k : Nat} {v : Int32} (h : k < 54) : pat S 162 (oo k) v = sI S 162 k v := pat_of rfl (by decide) h
theorem g_163 {S : XS} {k : Nat} (h : k < 256) : gat S 163 (oo k) = S.1 163 k := gat_of rfl (by decide) h
theorem p_163 {S : XS} {k : Nat} {v : Int32} (h : k < 256) : pat S 163 (oo k) v = sI S 163 k v := pat_of rfl (by decide) h
theorem g_164 {S : XS} {k : Nat} (h : k < 256) : gat S 164 (oo k) = S.1 164 k := gat_of rfl (by decide) h
theorem p_164 {S : XS} {k : Nat} {v : Int32} (h : k < 256) : pat S 164 (oo k) v = sI S 164 k v := pat_of rfl (by decide) h
theorem g_166 {S : XS} {k : Nat} (h : k < 42) : gat S 166 (oo k) = S.1 166 k := gat_of rfl (by decide) h
theorem p_166 {S : XS} {k : Nat} {v : Int32} (h : k < 42) : pat S 166 (oo k) v = sI S 166 k v := pat_of rfl (by decide) h
theorem g_167 {S : XS} {k : Nat} (h : k < 7) : gat S 167 (oo k) = S.1 167 k := gat_of rfl (by decide) h
theorem p_167 {S : XS} {k : Nat} {v : Int32} (h : k < 7) : pat S 167 (oo k) v = sI S 167 k v := pat_of rfl (by decide) h
theorem g_168 {S : XS} {k : Nat} (h : k < 6) : gat S 168 (oo k) = S.1 168 k := gat_of rfl (by decide) h
theorem p_168 {S : XS} {k : Nat} {v : Int32} (h : k < 6) : pat S 168 (oo k) v = sI S 168 k v := pat_of rfl (by decide) h
theorem g_169 {S : XS} {k : Nat} (h : k < 6) : gat S 169 (oo k) = S.1 169 k := gat_of rfl (by decide) h
theorem p_169 {S : XS} {k : Nat} {v : Int32} (h : k < 6) : pat S 169 (oo k) v = sI S 169 k v := pat_of rfl (by decide) h
theorem g_170 {S : XS} {k : Nat} (h : k < 7) : gat S 170 (oo k) = S.1 170 k := gat_of rfl (by decide) h
theorem p_170 {S : XS} {k : Nat} {v : Int32} (h : k < 7) : pat S 170 (oo k) v = sI S 170 k v := pat_of rfl (by decide) h
theorem g_171 {S : XS} {k : Nat} (h : k < 42) : gat S 171 (oo k) = S.1 171 k := gat_of rfl (by decide) h
theorem p_171 {S : XS} {k : Nat} {v : Int32} (h : k < 42) : pat S 171 (oo k) v = sI S 171 k v := pat_of rfl (by decide) h
theorem g_173 {S : XS} {k : Nat} (h : k < 40) : gat S 173 (oo k) = S.1 173 k := gat_of rfl (by decide) h
theorem p_173 {S : XS} {k : Nat} {v : Int32} (h : k < 40) : pat S 173 (oo k) v = sI S 173 k v := pat_of rfl (by decide) h
theorem g_174 {S : XS} {k : Nat} (h : k < 36) : gat S 174 (oo k) = S.1 174 k := gat_of rfl (by decide) h
theorem p_174 {S : XS} {k : Nat} {v : Int32} (h : k < 36) : pat S 174 (oo k) v = sI S 174 k v := pat_of rfl (by decide) h
theorem g_175 {S : XS} {k : Nat} (h : k < 366) : gat S 175 (oo k) = S.1 175 k := gat_of rfl (by decide) h
theorem p_175 {S : XS} {k : Nat} {v : Int32} (h : k < 366) : pat S 175 (oo k) v = sI S 175 k v := pat_of rfl (by decide) h
theorem g_176 {S : XS} {k : Nat} (h : k < 2196) : gat S 176 (oo k) = S.1 176 k := gat_of rfl (by decide) h
theorem p_176 {S : XS} {k : Nat} {v : Int32} (h : k < 2196) : pat S 176 (oo k) v = sI S 176 k v := pat_of rfl (by decide) h
theorem g_177 {S : XS} {k : Nat} (h : k < 6) : gat S 177 (oo k) = S.1 177 k := gat_of rfl (by decide) h
theorem p_177 {S : XS} {k : Nat} {v : Int32} (h : k < 6) : pat S 177 (oo k) v = sI S 177 k v := pat_of rfl (by decide) h
theorem g_180 {S : XS} {k : Nat} (h : k < 6) : gat S 180 (oo k) = S.1 180 k := gat_of rfl (by decide) h
theorem p_180 {S : XS} {k : Nat} {v : Int32} (h : k < 6) : pat S 180 (oo k) v = sI S 180 k v := pat_of rfl (by decide) h
theorem g_181 {S : XS} {k : Nat} (h : k < 6) : gat S 181 (oo k) = S.1 181 k := gat_of rfl (by decide) h
theorem p_181 {S : XS} {k : Nat} {v : Int32} (h : k < 6) : pat S 181 (oo k) v = sI S 181 k v := pat_of rfl (by decide) h
theorem g_182 {S : XS} {k : Nat} (h : k < 36) : gat S 182 (oo k) = S.1 182 k := gat_of rfl (by decide) h
theorem p_182 {S : XS} {k : Nat} {v : Int32} (h : k < 36) : pat S 182 (oo k) v = sI S 182 k v := pat_of rfl (by decide) h
theorem g_183 {S : XS} {k : Nat} (h : k < 48) : gat S 183 (oo k) = S.1 183 k := gat_of rfl (by decide) h
theorem p_183 {S : XS} {k : Nat} {v : Int32} (h : k < 48) : pat S 183 (oo k) v = sI S 183 k v := pat_of rfl (by decide) h
theorem g_184 {S : XS} {k : Nat} (h : k < 8) : gat S 184 (oo k) = S.1 184 k := gat_of rfl (by decide) h
theorem p_184 {S : XS} {k : Nat} {v : Int32} (h : k < 8) : pat S 184 (oo k) v = sI S 184 k v := pat_of rfl (by decide) h
theorem g_185 {S : XS} {k : Nat} (h : k < 8) : gat S 185 (oo k) = S.1 185 k := gat_of rfl (by decide) h
theorem p_185 {S : XS} {k : Nat} {v : Int32} (h : k < 8) : pat S 185 (oo k) v = sI S 185 k v := pat_of rfl (by decide) h
theorem g_186 {S : XS} {k : Nat} (h : k < 8) : gat S 186 (oo k) = S.1 186 k := gat_of rfl (by decide) h
theorem p_186 {S : XS} {k : Nat} {v : Int32} (h : k < 8) : pat S 186 (oo k) v = sI S 186 k v := pat_of rfl (by decide) h
theorem g_187 {S : XS} {k : Nat} (h : k < 66) : gat S 187 (oo k) = S.1 187 k := gat_of rfl (by decide) h
theorem p_187 {S : XS} {k : Nat} {v : Int32} (h : k < 66) : pat S 187 (oo k) v = sI S 187 k v := pat_of rfl (by decide) h
theorem g_189 {S : XS} {k : Nat} (h : k < 940) : gat S 189 (oo k) = S.1 189 k := gat_of rfl (by decide) h
theorem p_189 {S : XS} {k : Nat} {v : Int32} (h : k < 940) : pat S 189 (oo k) v = sI S 189 k v := pat_of rfl (by decide) h
theorem g_190 {S : XS} {k : Nat} (h : k < 516) : gat S 190 (oo k) = S.1 190 k := gat_of rfl (by decide) h
theorem p_190 {S : XS} {k : Nat} {v : Int32} (h : k < 516) : pat S 190 (oo k) v = sI S 190 k v := pat_of rfl (by decide) h
theorem g_191 {S : XS} {k : Nat} (h : k < 144) : gat S 191 (oo k) = S.1 191 k := gat_of rfl (by decide) h
theorem p_191 {S : XS} {k : Nat} {v : Int32} (h : k < 144) : pat S 191 (oo k) v = sI S 191 k v := pat_of rfl (by decide) h
theorem g_192 {S : XS} {k : Nat} (h : k < 1032) : gat S 192 (oo k) = S.1 192 k := gat_of rfl (by decide) h
theorem p_192 {S : XS} {k : Nat} {v : Int32} (h : k < 1032) : pat S 192 (oo k) v = sI S 192 k v := pat_of rfl (by decide) h
theorem g_193 {S : XS} {k : Nat} (h : k < 1040) : gat S 193 (oo k) = S.1 193 k := gat_of rfl (by decide) h
theorem p_193 {S : XS} {k : Nat} {v : Int32} (h : k < 1040) : pat S 193 (oo k) v = sI S 193 k v := pat_of rfl (by decide) h
theorem g_194 {S : XS} {k : Nat} (h : k < 130) : gat S 194 (oo k) = S.1 194 k := gat_of rfl (by decide) h
theorem p_194 {S : XS} {k : Nat} {v : Int32} (h : k < 130) : pat S 194 (oo k) v = sI S 194 k v := pat_of rfl (by decide) h
theorem g_198 {S : XS} {k : Nat} (h : k < 2) : gat S 198 (oo k) = S.1 198 k := gat_of rfl (by decide) h
theorem p_198 {S : XS} {k : Nat} {v : Int32} (h : k < 2) : pat S 198 (oo k) v = sI S 198 k v := pat_of rfl (by decide) h
theorem g_199 {S : XS} {k : Nat} (h : k < 54) : gat S 199 (oo k) = S.1 199 k := gat_of rfl (by decide) h
theorem p_199 {S : XS} {k : Nat} {v : Int32} (h : k < 54) : pat S 199 (oo k) v = sI S 199 k v := pat_of rfl (by decide) h
theorem g_200 {S : XS} {k : Nat} (h : k < 8) : gat S 200 (oo k) = S.1 200 k := gat_of rfl (by decide) h
theorem p_200 {S : XS} {k : Nat} {v : Int32} (h : k < 8) : pat S 200 (oo k) v = sI S 200 k v := pat_of rfl (by decide) h
theorem g_201 {S : XS} {k : Nat} (h : k < 8) : gat S 201 (oo k) = S.1 201 k := gat_of rfl (by decide) h
theorem p_201 {S : XS} {k : Nat} {v : Int32} (h : k < 8) : pat S 201 (oo k) v = sI S 201 k v := pat_of rfl (by decide) h
theorem g_202 {S : XS} {k : Nat} (h : k < 256) : gat S 202 (oo k) = S.1 202 k := gat_of rfl (by decide) h
theorem p_202 {S : XS} {k : Nat} {v : Int32} (h : k < 256) : pat S 202 (oo k) v = sI S 202 k v := pat_of rfl (by decide) h
theorem g_203 {S : XS} {k : Nat} (h : k < 256) : gat S 203 (oo k) = S.1 203 k := gat_of rfl (by decide) h
theorem p_203 {S : XS} {k : Nat} {v : Int32} (h : k < 256) : pat S 203 (oo k) v = sI S 203 k v := pat_of rfl (by decide) h
theorem g_204 {S : XS} {k : Nat} (h : k < 8) : gat S 204 (oo k) = S.1 204 k := gat_of rfl (by decide) h
theorem p_204 {S : XS} {k : Nat} {v : Int32} (h : k < 8) : pat S 204 (oo k) v = sI S 204 k v := pat_of rfl (by decide) h
theorem g_205 {S : XS} {k : Nat} (h : k < 6) : gat S 205 (oo k) = S.1 205 k := gat_of rfl (by decide) h
theorem p_205 {S : XS} {k : Nat} {v : Int32} (h : k < 6) : pat S 205 (oo k) v = sI S 205 k v := pat_of rfl (by decide) h
theorem g_206 {S : XS} {k : Nat} (h : k < 6) : gat S 206 (oo k) = S.1 206 k := gat_of rfl (by decide) h
theorem p_206 {S : XS} {k : Nat} {v : Int32} (h : k < 6) : pat S 206 (oo k) v = sI S 206 k v := pat_of rfl (by decide) h
theorem g_207 {S : XS} {k : Nat} (h : k < 36) : gat S 207 (oo k) = S.1 207 k := gat_of rfl (by decide) h
theorem p_207 {S : XS} {k : Nat} {v : Int32} (h : k < 36) : pat S 207 (oo k) v = sI S 207 k v := pat_of rfl (by decide) h
theorem g_208 {S : XS} {k : Nat} (h : k < 6) : gat S 208 (oo k) = S.1 208 k := gat_of rfl (by decide) h
theorem p_208 {S : XS} {k : Nat} {v : Int32} (h : k < 6) : pat S 208 (oo k) v = sI S 208 k v := pat_of rfl (by decide) h
theorem g_209 {S : XS} {k : Nat} (h : k < 6) : gat S 209 (oo k) = S.1 209 k := gat_of rfl (by decide) h
theorem p_209 {S : XS} {k : Nat} {v : Int32} (h : k < 6) : pat S 209 (oo k) v = sI S 209 k v := pat_of rfl (by decide) h
theorem g_210 {S : XS} {k : Nat} (h : k < 6) : gat S 210 (oo k) = S.1 210 k := gat_of rfl (by decide) h
theorem p_210 {S : XS} {k : Nat} {v : Int32} (h : k < 6) : pat S 210 (oo k) v = sI S 210 k v := pat_of rfl (by decide) h
theorem g_211 {S : XS} {k : Nat} (h : k < 36) : gat S 211 (oo k) = S.1 211 k := gat_of rfl (by decide) h
theorem p_211 {S : XS} {k : Nat} {v : Int32} (h : k < 36) : pat S 211 (oo k) v = sI S 211 k v := pat_of rfl (by decide) h
theorem g_212 {S : XS} {k : Nat} (h : k < 40) : gat S 212 (oo k) = S.1 212 k := gat_of rfl (by decide) h
theorem p_212 {S : XS} {k : Nat} {v : Int32} (h : k < 40) : pat S 212 (oo k) v = sI S 212 k v := pat_of rfl (by decide) h
theorem g_213 {S : XS} {k : Nat} (h : k < 3) : gat S 213 (oo k) = S.1 213 k := gat_of rfl (by decide) h
theorem p_213 {S : XS} {k : Nat} {v : Int32} (h : k < 3) : pat S 213 (oo k) v = sI S 213 k v := pat_of rfl (by decide) h
theorem g_214 {S : XS} {k : Nat} (h : k < 80) : gat S 214 (oo k) = S.1 214 k := gat_of rfl (by decide) h
theorem p_214 {S : XS} {k : Nat} {v : Int32} (h : k < 80) : pat S 214 (oo k) v = sI S 214 k v := pat_of rfl (by decide) h
theorem g_215 {S : XS} {k : Nat} (h : k < 7) : gat S 215 (oo k) = S.1 215 k := gat_of rfl (by decide) h
theorem p_215 {S : XS} {k : Nat} {v : Int32} (h : k < 7) : pat S 215 (oo k) v = sI S 215 k v := pat_of rfl (by decide) h
theorem g_216 {S : XS} {k : Nat} (h : k < 240) : gat S 216 (oo k) = S.1 216 k := gat_of rfl (by decide) h
theorem p_216 {S : XS} {k : Nat} {v : Int32} (h : k < 240) : pat S 216 (oo k) v = sI S 216 k v := pat_of rfl (by decide) h
