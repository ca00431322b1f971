section
noncomputable abbrev pq_0_0 : Nat × Nat := (0, 0)
noncomputable abbrev pq_0_1 : Nat × Nat := (0, 1)
noncomputable abbrev pq_0_2 : Nat × Nat := (0, 2)
noncomputable abbrev pq_0_5 : Nat × Nat := (0, 5)
noncomputable abbrev pq_0_11 : Nat × Nat := (0, 11)
noncomputable abbrev pq_0_12 : Nat × Nat := (0, 12)
noncomputable abbrev pq_0_13 : Nat × Nat := (0, 13)
noncomputable abbrev pq_0_14 : Nat × Nat := (0, 14)
noncomputable abbrev pq_0_15 : Nat × Nat := (0, 15)
noncomputable abbrev pq_0_16 : Nat × Nat := (0, 16)
noncomputable abbrev pq_0_17 : Nat × Nat := (0, 17)
noncomputable abbrev pq_0_18 : Nat × Nat := (0, 18)
noncomputable abbrev pq_0_19 : Nat × Nat := (0, 19)
noncomputable abbrev pq_0_20 : Nat × Nat := (0, 20)
noncomputable abbrev pq_0_21 : Nat × Nat := (0, 21)
noncomputable abbrev pq_0_22 : Nat × Nat := (0, 22)
noncomputable abbrev pq_0_23 : Nat × Nat := (0, 23)
noncomputable abbrev pq_1_0 : Nat × Nat := (1, 0)
noncomputable abbrev pq_1_1 : Nat × Nat := (1, 1)
noncomputable abbrev pq_1_2 : Nat × Nat := (1, 2)
noncomputable abbrev pq_1_3 : Nat × Nat := (1, 3)
noncomputable abbrev pq_1_4 : Nat × Nat := (1, 4)
noncomputable abbrev pq_1_5 : Nat × Nat := (1, 5)
noncomputable abbrev pq_1_6 : Nat × Nat := (1, 6)
noncomputable abbrev pq_1_7 : Nat × Nat := (1, 7)
noncomputable abbrev pq_1_8 : Nat × Nat := (1, 8)
noncomputable abbrev pq_1_9 : Nat × Nat := (1, 9)
noncomputable abbrev pq_1_10 : Nat × Nat := (1, 10)
noncomputable abbrev pq_1_11 : Nat × Nat := (1, 11)
noncomputable abbrev pq_1_12 : Nat × Nat := (1, 12)
noncomputable abbrev pq_1_13 : Nat × Nat := (1, 13)
noncomputable abbrev pq_1_14 : Nat × Nat := (1, 14)
noncomputable abbrev pq_1_15 : Nat × Nat := (1, 15)
noncomputable abbrev pq_1_16 : Nat × Nat := (1, 16)
noncomputable abbrev pq_1_17 : Nat × Nat := (1, 17)
noncomputable abbrev pq_1_18 : Nat × Nat := (1, 18)
noncomputable abbrev pq_1_19 : Nat × Nat := (1, 19)
noncomputable abbrev pq_1_20 : Nat × Nat := (1, 20)
noncomputable abbrev pq_1_21 : Nat × Nat := (1, 21)
noncomputable abbrev pq_1_22 : Nat × Nat := (1, 22)
noncomputable abbrev pq_1_23 : Nat × Nat := (1, 23)
noncomputable abbrev pq_1_24 : Nat × Nat := (1, 24)
noncomputable abbrev pq_1_25 : Nat × Nat := (1, 25)
noncomputable abbrev pq_1_26 : Nat × Nat := (1, 26)
noncomputable abbrev pq_1_27 : Nat × Nat := (1, 27)
noncomputable abbrev pq_2_0 : Nat × Nat := (2, 0)
noncomputable abbrev pq_2_1 : Nat × Nat := (2, 1)
noncomputable abbrev pq_2_2 : Nat × Nat := (2, 2)
noncomputable abbrev pq_2_3 : Nat × Nat := (2, 3)
noncomputable abbrev pq_2_4 : Nat × Nat := (2, 4)
noncomputable abbrev pq_2_5 : Nat × Nat := (2, 5)
noncomputable abbrev pq_2_6 : Nat × Nat := (2, 6)
noncomputable abbrev pq_2_7 : Nat × Nat := (2, 7)
noncomputable abbrev pq_2_8 : Nat × Nat := (2, 8)
noncomputable abbrev pq_2_9 : Nat × Nat := (2, 9)
noncomputable abbrev pq_2_10 : Nat × Nat := (2, 10)
noncomputable abbrev pq_2_11 : Nat × Nat := (2, 11)
noncomputable abbrev pq_2_12 : Nat × Nat := (2, 12)
noncomputable abbrev pq_2_13 : Nat × Nat := (2, 13)
noncomputable abbrev pq_2_14 : Nat × Nat := (2, 14)
noncomputable abbrev pq_2_15 : Nat × Nat := (2, 15)
noncomputable abbrev pq_2_16 : Nat × Nat := (2, 16)
noncomputable abbrev pq_2_17 : Nat × Nat := (2, 17)
noncomputable abbrev pq_2_18 : Nat × Nat := (2, 18)
noncomputable abbrev pq_2_19 : Nat × Nat := (2, 19)
noncomputable abbrev pq_2_20 : Nat × Nat := (2, 20)
noncomputable abbrev pq_2_21 : Nat × Nat := (2, 21)
noncomputable abbrev pq_2_22 : Nat × Nat := (2, 22)
noncomputable abbrev pq_2_23 : Nat × Nat := (2, 23)
noncomputable abbrev pq_2_24 : Nat × Nat := (2, 24)
noncomputable abbrev pq_2_25 : Nat × Nat := (2, 25)
noncomputable abbrev pq_2_26 : Nat × Nat := (2, 26)
noncomputable abbrev pq_2_27 : Nat × Nat := (2, 27)
noncomputable abbrev pq_2_28 : Nat × Nat := (2, 28)
noncomputable abbrev pq_2_29 : Nat × Nat := (2, 29)
noncomputable abbrev pq_2_30 : Nat × Nat := (2, 30)
noncomputable abbrev pq_2_31 : Nat × Nat := (2, 31)
noncomputable abbrev pq_2_32 : Nat × Nat := (2, 32)
noncomputable abbrev pq_2_33 : Nat × Nat := (2, 33)
noncomputable abbrev pq_2_34 : Nat × Nat := (2, 34)
noncomputable abbrev pq_2_35 : Nat × Nat := (2, 35)
noncomputable abbrev pq_2_37 : Nat × Nat := (2, 37)
noncomputable abbrev pq_2_38 : Nat × Nat := (2, 38)
noncomputable abbrev pq_2_39 : Nat × Nat := (2, 39)
noncomputable abbrev pq_2_40 : Nat × Nat := (2, 40)
noncomputable abbrev pq_2_41 : Nat × Nat := (2, 41)
noncomputable abbrev pq_2_43 : Nat × Nat := (2, 43)
noncomputable abbrev pq_2_44 : Nat × Nat := (2, 44)
noncomputable abbrev pq_2_45 : Nat × Nat := (2, 45)
noncomputable abbrev pq_2_46 : Nat × Nat := (2, 46)
noncomputable abbrev pq_2_47 : Nat × Nat := (2, 47)
noncomputable abbrev pq_2_48 : Nat × Nat := (2, 48)
noncomputable abbrev pq_2_49 : Nat × Nat := (2, 49)
noncomputable abbrev pq_2_50 : Nat × Nat := (2, 50)
noncomputable abbrev pq_2_51 : Nat × Nat := (2, 51)
noncomputable abbrev pq_2_53 : Nat × Nat := (2, 53)
noncomputable abbrev pq_2_56 : Nat × Nat := (2, 56)
noncomputable abbrev pq_2_57 : Nat × Nat := (2, 57)
noncomputable abbrev pq_2_58 : Nat × Nat := (2, 58)
noncomputable abbrev pq_2_60 : Nat × Nat := (2, 60)
noncomputable abbrev pq_2_61 : Nat × Nat := (2, 61)
noncomputable abbrev pq_2_62 : Nat × Nat := (2, 62)
noncomputable abbrev pq_2_63 : Nat × Nat := (2, 63)
noncomputable abbrev pq_2_64 : Nat × Nat := (2, 64)
noncomputable abbrev pq_2_65 : Nat × Nat := (2, 65)
noncomputable abbrev pq_2_67 : Nat × Nat := (2, 67)
noncomputable abbrev pq_2_69 : Nat × Nat := (2, 69)
noncomputable abbrev pq_2_71 : Nat × Nat := (2, 71)
noncomputable abbrev pq_2_72 : Nat × Nat := (2, 72)
noncomputable abbrev pq_2_74 : Nat × Nat := (2, 74)
noncomputable abbrev pq_2_76 : Nat × Nat := (2, 76)
noncomputable abbrev pq_2_78 : Nat × Nat := (2, 78)
noncomputable abbrev pq_2_81 : Nat × Nat := (2, 81)
noncomputable abbrev pq_2_82 : Nat × Nat := (2, 82)
noncomputable abbrev pq_2_83 : Nat × Nat := (2, 83)
noncomputable abbrev pq_2_84 : Nat × Nat := (2, 84)
noncomputable abbrev pq_2_86 : Nat × Nat := (2, 86)
noncomputable abbrev pq_2_87 : Nat × Nat := (2, 87)
noncomputable abbrev pq_2_88 : Nat × Nat := (2, 88)
noncomputable abbrev pq_2_89 : Nat × Nat := (2, 89)
noncomputable abbrev pq_2_91 : Nat × Nat := (2, 91)
noncomputable abbrev pq_2_93 : Nat × Nat := (2, 93)
noncomputable abbrev pq_2_95 : Nat × Nat := (2, 95)
noncomputable abbrev pq_2_97 : Nat × Nat := (2, 97)
noncomputable abbrev pq_2_99 : Nat × Nat := (2, 99)
noncomputable abbrev pq_2_101 : Nat × Nat := (2, 101)
noncomputable abbrev pq_2_103 : Nat × Nat := (2, 103)
noncomputable abbrev pq_2_105 : Nat × Nat := (2, 105)
noncomputable abbrev pq_2_107 : Nat × Nat := (2, 107)
noncomputable abbrev pq_2_110 : Nat × Nat := (2, 110)
noncomputable abbrev pq_2_111 : Nat × Nat := (2, 111)
noncomputable abbrev pq_2_113 : Nat × Nat := (2, 113)
noncomputable abbrev pq_2_114 : Nat × Nat := (2, 114)
noncomputable abbrev pq_2_115 : Nat × Nat := (2, 115)
noncomputable abbrev pq_2_116 : Nat × Nat := (2, 116)
noncomputable abbrev pq_2_117 : Nat × Nat := (2, 117)
noncomputable abbrev pq_2_119 : Nat × Nat := (2, 119)
noncomputable abbrev pq_2_120 : Nat × Nat := (2, 120)
noncomputable abbrev pq_2_121 : Nat × Nat := (2, 121)
noncomputable abbrev pq_2_122 : Nat × Nat := (2, 122)
noncomputable abbrev pq_2_123 : Nat × Nat := (2, 123)
noncomputable abbrev pq_2_124 : Nat × Nat := (2, 124)
noncomputable abbrev pq_2_126 : Nat × Nat := (2, 126)
noncomputable abbrev pq_2_128 : Nat × Nat := (2, 128)
noncomputable abbrev pq_2_130 : Nat × Nat := (2, 130)
noncomputable abbrev pq_2_133 : Nat × Nat := (2, 133)
noncomputable abbrev pq_2_134 : Nat × Nat := (2, 134)
noncomputable abbrev pq_2_135 : Nat × Nat := (2, 135)
noncomputable abbrev pq_2_136 : Nat × Nat := (2, 136)
noncomputable abbrev pq_2_138 : Nat × Nat := (2, 138)
noncomputable abbrev pq_2_140 : Nat × Nat := (2, 140)
noncomputable abbrev pq_2_142 : Nat × Nat := (2, 142)
noncomputable abbrev pq_2_145 : Nat × Nat := (2, 145)
noncomputable abbrev pq_2_147 : Nat × Nat := (2, 147)
noncomputable abbrev pq_2_148 : Nat × Nat := (2, 148)
noncomputable abbrev pq_2_149 : Nat × Nat := (2, 149)
noncomputable abbrev pq_2_150 : Nat × Nat := (2, 150)
noncomputable abbrev pq_2_151 : Nat × Nat := (2, 151)
noncomputable abbrev pq_2_152 : Nat × Nat := (2, 152)
noncomputable abbrev pq_2_153 : Nat × Nat := (2, 153)
noncomputable abbrev pq_2_154 : Nat × Nat := (2, 154)
noncomputable abbrev pq_2_155 : Nat × Nat := (2, 155)
noncomputable abbrev pq_2_156 : Nat × Nat := (2, 156)
noncomputable abbrev pq_2_157 : Nat × Nat := (2, 157)
noncomputable abbrev pq_2_158 : Nat × Nat := (2, 158)
noncomputable abbrev pq_2_159 : Nat × Nat := (2, 159)
noncomputable abbrev pq_2_160 : Nat × Nat := (2, 160)
noncomputable abbrev pq_2_161 : Nat × Nat := (2, 161)
noncomputable abbrev pq_2_163 : Nat × Nat := (2, 163)
noncomputable abbrev pq_2_165 : Nat × Nat := (2, 165)
noncomputable abbrev pq_2_167 : Nat × Nat := (2, 167)
noncomputable abbrev pq_2_169 : Nat × Nat := (2, 169)
noncomputable abbrev pq_2_171 : Nat × Nat := (2, 171)
noncomputable abbrev pq_2_173 : Nat × Nat := (2, 173)
noncomputable abbrev pq_2_175 : Nat × Nat := (2, 175)
noncomputable abbrev pq_2_177 : Nat × Nat := (2, 177)
noncomputable abbrev pq_2_179 : Nat × Nat := (2, 179)
noncomputable abbrev pq_2_181 : Nat × Nat := (2, 181)
noncomputable abbrev pq_2_183 : Nat × Nat := (2, 183)
noncomputable abbrev pq_2_185 : Nat × Nat := (2, 185)
noncomputable abbrev pq_2_187 : Nat × Nat := (2, 187)
noncomputable abbrev pq_2_190 : Nat × Nat := (2, 190)
noncomputable abbrev pq_2_191 : Nat × Nat := (2, 191)
noncomputable abbrev pq_2_192 : Nat × Nat := (2, 192)
noncomputable abbrev pq_2_193 : Nat × Nat := (2, 193)
noncomputable abbrev pq_2_194 : Nat × Nat := (2, 194)
noncomputable abbrev pq_2_195 : Nat × Nat := (2, 195)
noncomputable abbrev pq_2_196 : Nat × Nat := (2, 196)
noncomputable abbrev pq_2_197 : Nat × Nat := (2, 197)
noncomputable abbrev pq_2_198 : Nat × Nat := (2, 198)
noncomputable abbrev pq_2_199 : Nat × Nat := (2, 199)
noncomputable abbrev pq_2_200 : Nat × Nat := (2, 200)
noncomputable abbrev pq_2_201 : Nat × Nat := (2, 201)
noncomputable abbrev pq_2_202 : Nat × Nat := (2, 202)
noncomputable abbrev pq_2_203 : Nat × Nat := (2, 203)
noncomputable abbrev pq_2_204 : Nat × Nat := (2, 204)
noncomputable abbrev pq_2_205 : Nat × Nat := (2, 205)
noncomputable abbrev pq_2_206 : Nat × Nat := (2, 206)
noncomputable abbrev pq_2_207 : Nat × Nat := (2, 207)
noncomputable abbrev pq_2_208 : Nat × Nat := (2, 208)
noncomputable abbrev pq_2_209 : Nat × Nat := (2, 209)
noncomputable abbrev pq_2_210 : Nat × Nat := (2, 210)
noncomputable abbrev pq_2_212 : Nat × Nat := (2, 212)
noncomputable abbrev pq_2_213 : Nat × Nat := (2, 213)
noncomputable abbrev pq_2_214 : Nat × Nat := (2, 214)
noncomputable abbrev pq_2_215 : Nat × Nat := (2, 215)
noncomputable abbrev pq_2_216 : Nat × Nat := (2, 216)
noncomputable abbrev pq_2_217 : Nat × Nat := (2, 217)
noncomputable abbrev pq_2_218 : Nat × Nat := (2, 218)
noncomputable abbrev pq_2_219 : Nat × Nat := (2, 219)
noncomputable abbrev pq_2_220 : Nat × Nat := (2, 220)
noncomputable abbrev pq_2_221 : Nat × Nat := (2, 221)
noncomputable abbrev pq_2_222 : Nat × Nat := (2, 222)
noncomputable abbrev pq_2_223 : Nat × Nat := (2, 223)
noncomputable abbrev pq_2_224 : Nat × Nat := (2, 224)
noncomputable abbrev pq_2_225 : Nat × Nat := (2, 225)
noncomputable abbrev pq_2_226 : Nat × Nat := (2, 226)
noncomputable abbrev pq_2_227 : Nat × Nat := (2, 227)
noncomputable abbrev pq_2_228 : Nat × Nat := (2, 228)
noncomputable abbrev pq_2_229 : Nat × Nat := (2, 229)
noncomputable abbrev pq_2_230 : Nat × Nat := (2, 230)
noncomputable abbrev pq_2_232 : Nat × Nat := (2, 232)
noncomputable abbrev pq_2_233 : Nat × Nat := (2, 233)
noncomputable abbrev pq_2_234 : Nat × Nat := (2, 234)
noncomputable abbrev pq_2_235 : Nat × Nat := (2, 235)
noncomputable abbrev pq_2_236 : Nat × Nat := (2, 236)
noncomputable abbrev pq_2_237 : Nat × Nat := (2, 237)
noncomputable abbrev pq_2_238 : Nat × Nat := (2, 238)
noncomputable abbrev pq_2_239 : Nat × Nat := (2, 239)
noncomputable abbrev pq_3_0 : Nat × Nat := (3, 0)
noncomputable abbrev pq_3_1 : Nat × Nat := (3, 1)
noncomputable abbrev pq_3_2 : Nat × Nat := (3, 2)
noncomputable abbrev pq_3_3 : Nat × Nat := (3, 3)
noncomputable abbrev pq_3_4 : Nat × Nat := (3, 4)
noncomputable abbrev pq_3_5 : Nat × Nat := (3, 5)
noncomputable abbrev pq_3_6 : Nat × Nat := (3, 6)
noncomputable abbrev pq_3_7 : Nat × Nat := (3, 7)
noncomputable abbrev pq_3_8 : Nat × Nat := (3, 8)
noncomputable abbrev pq_3_9 : Nat × Nat := (3, 9)
noncomputable abbrev pq_3_10 : Nat × Nat := (3, 10)
noncomputable abbrev pq_3_11 : Nat × Nat := (3, 11)
noncomputable abbrev pq_3_12 : Nat × Nat := (3, 12)
noncomputable abbrev pq_3_13 : Nat × Nat := (3, 13)
noncomputable abbrev pq_3_14 : Nat × Nat := (3, 14)
noncomputable abbrev pq_3_15 : Nat × Nat := (3, 15)
noncomputable abbrev pq_3_16 : Nat × Nat := (3, 16)
noncomputable abbrev pq_3_17 : Nat × Nat := (3, 17)
noncomputable abbrev pq_3_18 : Nat × Nat := (3, 18)
noncomputable abbrev pq_3_19 : Nat × Nat := (3, 19)
noncomputable abbrev pq_3_20 : Nat × Nat := (3, 20)
noncomputable abbrev pq_3_21 : Nat × Nat := (3, 21)
noncomputable abbrev pq_3_22 : Nat × Nat := (3, 22)
noncomputable abbrev pq_3_23 : Nat × Nat := (3, 23)
noncomputable abbrev pq_3_24 : Nat × Nat := (3, 24)
noncomputable abbrev pq_3_25 : Nat × Nat := (3, 25)
noncomputable abbrev pq_3_26 : Nat × Nat := (3, 26)
noncomputable abbrev pq_3_27 : Nat × Nat := (3, 27)
noncomputable abbrev pq_3_28 : Nat × Nat := (3, 28)
noncomputable abbrev pq_3_29 : Nat × Nat := (3, 29)
noncomputable abbrev pq_3_30 : Nat × Nat := (3, 30)
noncomputable abbrev pq_3_31 : Nat × Nat := (3, 31)
noncomputable abbrev pq_3_32 : Nat × Nat := (3, 32)
noncomputable abbrev pq_3_33 : Nat × Nat := (3, 33)
noncomputable abbrev pq_3_34 : Nat × Nat := (3, 34)
noncomputable abbrev pq_3_35 : Nat × Nat := (3, 35)
noncomputable abbrev pq_3_36 : Nat × Nat := (3, 36)
noncomputable abbrev pq_3_37 : Nat × Nat := (3, 37)
noncomputable abbrev pq_3_38 : Nat × Nat := (3, 38)
noncomputable abbrev pq_3_40 : Nat × Nat := (3, 40)
noncomputable abbrev pq_3_41 : Nat × Nat := (3, 41)
noncomputable abbrev pq_3_42 : Nat × Nat := (3, 42)
noncomputable abbrev pq_3_44 : Nat × Nat := (3, 44)
noncomputable abbrev pq_3_45 : Nat × Nat := (3, 45)
noncomputable abbrev pq_3_46 : Nat × Nat := (3, 46)
noncomputable abbrev pq_3_47 : Nat × Nat := (3, 47)
noncomputable abbrev pq_3_48 : Nat × Nat := (3, 48)
noncomputable abbrev pq_3_49 : Nat × Nat := (3, 49)
noncomputable abbrev pq_3_50 : Nat × Nat := (3, 50)
noncomputable abbrev pq_3_51 : Nat × Nat := (3, 51)
noncomputable abbrev pq_3_52 : Nat × Nat := (3, 52)
noncomputable abbrev pq_3_53 : Nat × Nat := (3, 53)
noncomputable abbrev pq_3_54 : Nat × Nat := (3, 54)
noncomputable abbrev pq_3_55 : Nat × Nat := (3, 55)
noncomputable abbrev pq_3_56 : Nat × Nat := (3, 56)
noncomputable abbrev pq_3_57 : Nat × Nat := (3, 57)
noncomputable abbrev pq_3_58 : Nat × Nat := (3, 58)
noncomputable abbrev pq_3_59 : Nat × Nat := (3, 59)
noncomputable abbrev pq_3_60 : Nat × Nat := (3, 60)
noncomputable abbrev pq_3_61 : Nat × Nat := (3, 61)
noncomputable abbrev pq_3_62 : Nat × Nat := (3, 62)
noncomputable abbrev pq_3_64 : Nat × Nat := (3, 64)
noncomputable abbrev pq_3_65 : Nat × Nat := (3, 65)
noncomputable abbrev pq_3_66 : Nat × Nat := (3, 66)
noncomputable abbrev pq_3_67 : Nat × Nat := (3, 67)
noncomputable abbrev pq_3_68 : Nat × Nat := (3, 68)
noncomputable abbrev pq_3_69 : Nat × Nat := (3, 69)
noncomputable abbrev pq_3_70 : Nat × Nat := (3, 70)
noncomputable abbrev pq_3_71 : Nat × Nat := (3, 71)
noncomputable abbrev pq_3_72 : Nat × Nat := (3, 72)
noncomputable abbrev pq_3_73 : Nat × Nat := (3, 73)
noncomputable abbrev pq_3_74 : Nat × Nat := (3, 74)
noncomputable abbrev pq_3_75 : Nat × Nat := (3, 75)
noncomputable abbrev pq_3_76 : Nat × Nat := (3, 76)
noncomputable abbrev pq_3_77 : Nat × Nat := (3, 77)
noncomputable abbrev pq_3_78 : Nat × Nat := (3, 78)
noncomputable abbrev pq_3_79 : Nat × Nat := (3, 79)
noncomputable abbrev pq_3_81 : Nat × Nat := (3, 81)
noncomputable abbrev pq_3_82 : Nat × Nat := (3, 82)
noncomputable abbrev pq_3_83 : Nat × Nat := (3, 83)
noncomputable abbrev pq_3_84 : Nat × Nat := (3, 84)
noncomputable abbrev pq_3_85 : Nat × Nat := (3, 85)
noncomputable abbrev pq_3_86 : Nat × Nat := (3, 86)
noncomputable abbrev pq_3_87 : Nat × Nat := (3, 87)
noncomputable abbrev pq_3_88 : Nat × Nat := (3, 88)
noncomputable abbrev pq_3_89 : Nat × Nat := (3, 89)
noncomputable abbrev pq_3_90 : Nat × Nat := (3, 90)
noncomputable abbrev pq_3_91 : Nat × Nat := (3, 91)
noncomputable abbrev pq_3_92 : Nat × Nat := (3, 92)
noncomputable abbrev pq_3_93 : Nat × Nat := (3, 93)
noncomputable abbrev pq_3_94 : Nat × Nat := (3, 94)
noncomputable abbrev pq_3_95 : Nat × Nat := (3, 95)
noncomputable abbrev pq_3_96 : Nat × Nat := (3, 96)
noncomputable abbrev pq_3_97 : Nat × Nat := (3, 97)
noncomputable abbrev pq_3_98 : Nat × Nat := (3, 98)
noncomputable abbrev pq_3_100 : Nat × Nat := (3, 100)
noncomputable abbrev pq_3_101 : Nat × Nat := (3, 101)
noncomputable abbrev pq_3_102 : Nat × Nat := (3, 102)
noncomputable abbrev pq_3_103 : Nat × Nat := (3, 103)
noncomputable abbrev pq_3_104 : Nat × Nat := (3, 104)
noncomputable abbrev pq_3_105 : Nat × Nat := (3, 105)
noncomputable abbrev pq_3_106 : Nat × Nat := (3, 106)
noncomputable abbrev pq_3_108 : Nat × Nat := (3, 108)
noncomputable abbrev pq_3_110 : Nat × Nat := (3, 110)
noncomputable abbrev pq_3_112 : Nat × Nat := (3, 112)
noncomputable abbrev pq_3_113 : Nat × Nat := (3, 113)
noncomputable abbrev pq_3_114 : Nat × Nat := (3, 114)
noncomputable abbrev pq_3_115 : Nat × Nat := (3, 115)
noncomputable abbrev pq_3_116 : Nat × Nat := (3, 116)
noncomputable abbrev pq_3_117 : Nat × Nat := (3, 117)
noncomputable abbrev pq_3_118 : Nat × Nat := (3, 118)
noncomputable abbrev pq_3_119 : Nat × Nat := (3, 119)
noncomputable abbrev pq_3_120 : Nat × Nat := (3, 120)
noncomputable abbrev pq_3_121 : Nat × Nat := (3, 121)
noncomputable abbrev pq_3_122 : Nat × Nat := (3, 122)
noncomputable abbrev pq_3_123 : Nat × Nat := (3, 123)
noncomputable abbrev pq_3_124 : Nat × Nat := (3, 124)
noncomputable abbrev pq_3_125 : Nat × Nat := (3, 125)
noncomputable abbrev pq_3_126 : Nat × Nat := (3, 126)
noncomputable abbrev pq_3_127 : Nat × Nat := (3, 127)
noncomputable abbrev pq_3_128 : Nat × Nat := (3, 128)
noncomputable abbrev pq_3_129 : Nat × Nat := (3, 129)
noncomputable abbrev pq_3_130 : Nat × Nat := (3, 130)
noncomputable abbrev pq_3_131 : Nat × Nat := (3, 131)
noncomputable abbrev pq_3_132 : Nat × Nat := (3, 132)
noncomputable abbrev pq_3_133 : Nat × Nat := (3, 133)
noncomputable abbrev pq_3_134 : Nat × Nat := (3, 134)
noncomputable abbrev pq_3_135 : Nat × Nat := (3, 135)
noncomputable abbrev pq_3_136 : Nat × Nat := (3, 136)
noncomputable abbrev pq_3_137 : Nat × Nat := (3, 137)
noncomputable abbrev pq_3_138 : Nat × Nat := (3, 138)
noncomputable abbrev pq_3_139 : Nat × Nat := (3, 139)
noncomputable abbrev pq_3_140 : Nat × Nat := (3, 140)
noncomputable abbrev pq_3_141 : Nat × Nat := (3, 141)
noncomputable abbrev pq_3_142 : Nat × Nat := (3, 142)
noncomputable abbrev pq_3_143 : Nat × Nat := (3, 143)
noncomputable abbrev pq_3_144 : Nat × Nat := (3, 144)
noncomputable abbrev pq_3_145 : Nat × Nat := (3, 145)
noncomputable abbrev pq_3_146 : Nat × Nat := (3, 146)
noncomputable abbrev pq_3_147 : Nat × Nat := (3, 147)
noncomputable abbrev pq_3_148 : Nat × Nat := (3, 148)
noncomputable abbrev pq_3_149 : Nat × Nat := (3, 149)
noncomputable abbrev pq_3_150 : Nat × Nat := (3, 150)
noncomputable abbrev pq_3_151 : Nat × Nat := (3, 151)
noncomputable abbrev pq_3_152 : Nat × Nat := (3, 152)
noncomputable abbrev pq_3_153 : Nat × Nat := (3, 153)
noncomputable abbrev pq_3_154 : Nat × Nat := (3, 154)
noncomputable abbrev pq_3_155 : Nat × Nat := (3, 155)
noncomputable abbrev pq_3_156 : Nat × Nat := (3, 156)
noncomputable abbrev pq_3_157 : Nat × Nat := (3, 157)
noncomputable abbrev pq_3_158 : Nat × Nat := (3, 158)
noncomputable abbrev pq_3_159 : Nat × Nat := (3, 159)
noncomputable abbrev pq_3_161 : Nat × Nat := (3, 161)
noncomputable abbrev pq_3_169 : Nat × Nat := (3, 169)
noncomputable abbrev pq_3_170 : Nat × Nat := (3, 170)
noncomputable abbrev pq_3_171 : Nat × Nat := (3, 171)
noncomputable abbrev pq_3_172 : Nat × Nat := (3, 172)
noncomputable abbrev pq_3_173 : Nat × Nat := (3, 173)
noncomputable abbrev pq_3_174 : Nat × Nat := (3, 174)
noncomputable abbrev pq_3_175 : Nat × Nat := (3, 175)
noncomputable abbrev pq_3_176 : Nat × Nat := (3, 176)
noncomputable abbrev pq_3_177 : Nat × Nat := (3, 177)
noncomputable abbrev pq_3_178 : Nat × Nat := (3, 178)
noncomputable abbrev pq_3_179 : Nat × Nat := (3, 179)
noncomputable abbrev pq_3_180 : Nat × Nat := (3, 180)
noncomputable abbrev pq_3_181 : Nat × Nat := (3, 181)
noncomputable abbrev pq_3_182 : Nat × Nat := (3, 182)
noncomputable abbrev pq_3_183 : Nat × Nat := (3, 183)
noncomputable abbrev pq_3_184 : Nat × Nat := (3, 184)
noncomputable abbrev pq_3_185 : Nat × Nat := (3, 185)
noncomputable abbrev pq_3_186 : Nat × Nat := (3, 186)
noncomputable abbrev pq_3_188 : Nat × Nat := (3, 188)
noncomputable abbrev pq_3_190 : Nat × Nat := (3, 190)
noncomputable abbrev pq_3_191 : Nat × Nat := (3, 191)
noncomputable abbrev pq_3_193 : Nat × Nat := (3, 193)
noncomputable abbrev pq_3_194 : Nat × Nat := (3, 194)
noncomputable abbrev pq_3_195 : Nat × Nat := (3, 195)
noncomputable abbrev pq_3_196 : Nat × Nat := (3, 196)
noncomputable abbrev pq_3_198 : Nat × Nat := (3, 198)
noncomputable abbrev pq_3_200 : Nat × Nat := (3, 200)
noncomputable abbrev pq_3_201 : Nat × Nat := (3, 201)
noncomputable abbrev pq_3_204 : Nat × Nat := (3, 204)
noncomputable abbrev pq_3_205 : Nat × Nat := (3, 205)
noncomputable abbrev pq_3_206 : Nat × Nat := (3, 206)
noncomputable abbrev pq_3_207 : Nat × Nat := (3, 207)
noncomputable abbrev pq_3_208 : Nat × Nat := (3, 208)
noncomputable abbrev pq_3_209 : Nat × Nat := (3, 209)
noncomputable abbrev pq_3_210 : Nat × Nat := (3, 210)
noncomputable abbrev pq_3_211 : Nat × Nat := (3, 211)
noncomputable abbrev pq_3_212 : Nat × Nat := (3, 212)
noncomputable abbrev pq_3_213 : Nat × Nat := (3, 213)
noncomputable abbrev pq_3_214 : Nat × Nat := (3, 214)
noncomputable abbrev pq_3_215 : Nat × Nat := (3, 215)
noncomputable abbrev pq_3_216 : Nat × Nat := (3, 216)
noncomputable abbrev pq_3_218 : Nat × Nat := (3, 218)
noncomputable abbrev pq_3_220 : Nat × Nat := (3, 220)
noncomputable abbrev pq_3_221 : Nat × Nat := (3, 221)
noncomputable abbrev pq_3_222 : Nat × Nat := (3, 222)
noncomputable abbrev pq_3_223 : Nat × Nat := (3, 223)
noncomputable abbrev pq_3_224 : Nat × Nat := (3, 224)
noncomputable abbrev pq_3_225 : Nat × Nat := (3, 225)
noncomputable abbrev pq_3_226 : Nat × Nat := (3, 226)
noncomputable abbrev pq_3_227 : Nat × Nat := (3, 227)
noncomputable abbrev pq_3_228 : Nat × Nat := (3, 228)
noncomputable abbrev pq_3_229 : Nat × Nat := (3, 229)
noncomputable abbrev pq_3_230 : Nat × Nat := (3, 230)
noncomputable abbrev pq_3_231 : Nat × Nat := (3, 231)
noncomputable abbrev pq_3_232 : Nat × Nat := (3, 232)
noncomputable abbrev pq_3_233 : Nat × Nat := (3, 233)
noncomputable abbrev pq_3_234 : Nat × Nat := (3, 234)
noncomputable abbrev pq_3_235 : Nat × Nat := (3, 235)
noncomputable abbrev pq_3_236 : Nat × Nat := (3, 236)
noncomputable abbrev pq_4_0 : Nat × Nat := (4, 0)
noncomputable abbrev pq_4_1 : Nat × Nat := (4, 1)
noncomputable abbrev pq_4_2 : Nat × Nat := (4, 2)
noncomputable abbrev pq_4_3 : Nat × Nat := (4, 3)
noncomputable abbrev pq_4_4 : Nat × Nat := (4, 4)
noncomputable abbrev pq_4_5 : Nat × Nat := (4, 5)
noncomputable abbrev pq_4_6 : Nat × Nat := (4, 6)
noncomputable abbrev pq_4_7 : Nat × Nat := (4, 7)
noncomputable abbrev pq_4_8 : Nat × Nat := (4, 8)
noncomputable abbrev pq_4_9 : Nat × Nat := (4, 9)
noncomputable abbrev pq_4_10 : Nat × Nat := (4, 10)
noncomputable abbrev pq_4_11 : Nat × Nat := (4, 11)
noncomputable abbrev pq_4_12 : Nat × Nat := (4, 12)
noncomputable abbrev pq_4_13 : Nat × Nat := (4, 13)
noncomputable abbrev pq_4_14 : Nat × Nat := (4, 14)
noncomputable abbrev pq_4_15 : Nat × Nat := (4, 15)
noncomputable abbrev pq_4_16 : Nat × Nat := (4, 16)
noncomputable abbrev pq_4_17 : Nat × Nat := (4, 17)
noncomputable abbrev pq_4_18 : Nat × Nat := (4, 18)
noncomputable abbrev pq_4_19 : Nat × Nat := (4, 19)
noncomputable abbrev pq_4_20 : Nat × Nat := (4, 20)
noncomputable abbrev pq_4_21 : Nat × Nat := (4, 21)
noncomputable abbrev pq_4_22 : Nat × Nat := (4, 22)
noncomputable abbrev pq_4_23 : Nat × Nat := (4, 23)
noncomputable abbrev pq_4_38 : Nat × Nat := (4, 38)
noncomputable abbrev pq_4_39 : Nat × Nat := (4, 39)
noncomputable abbrev pq_4_40 : Nat × Nat := (4, 40)
noncomputable abbrev pq_4_41 : Nat × Nat := (4, 41)
noncomputable abbrev pq_4_42 : Nat × Nat := (4, 42)
noncomputable abbrev pq_4_43 : Nat × Nat := (4, 43)
noncomputable abbrev pq_4_44 : Nat × Nat := (4, 44)
noncomputable abbrev pq_4_45 : Nat × Nat := (4, 45)
noncomputable abbrev pq_4_46 : Nat × Nat := (4, 46)
noncomputable abbrev pq_4_47 : Nat × Nat := (4, 47)
noncomputable abbrev pq_4_48 : Nat × Nat := (4, 48)
noncomputable abbrev pq_4_50 : Nat × Nat := (4, 50)
noncomputable abbrev pq_4_51 : Nat × Nat := (4, 51)
noncomputable abbrev pq_4_52 : Nat × Nat := (4, 52)
noncomputable abbrev pq_4_53 : Nat × Nat := (4, 53)
noncomputable abbrev pq_4_62 : Nat × Nat := (4, 62)
noncomputable abbrev pq_4_63 : Nat × Nat := (4, 63)
noncomputable abbrev pq_4_64 : Nat × Nat := (4, 64)
noncomputable abbrev pq_4_65 : Nat × Nat := (4, 65)
noncomputable abbrev pq_4_66 : Nat × Nat := (4, 66)
noncomputable abbrev pq_4_67 : Nat × Nat := (4, 67)
noncomputable abbrev pq_4_68 : Nat × Nat := (4, 68)
noncomputable abbrev pq_4_69 : Nat × Nat := (4, 69)
noncomputable abbrev pq_4_70 : Nat × Nat := (4, 70)
noncomputable abbrev pq_4_71 : Nat × Nat := (4, 71)
noncomputable abbrev pq_4_72 : Nat × Nat := (4, 72)
noncomputable abbrev pq_4_73 : Nat × Nat := (4, 73)
noncomputable abbrev pq_4_74 : Nat × Nat := (4, 74)
noncomputable abbrev pq_4_75 : Nat × Nat := (4, 75)
noncomputable abbrev pq_4_76 : Nat × Nat := (4, 76)
noncomputable abbrev pq_4_77 : Nat × Nat := (4, 77)
noncomputable abbrev pq_4_79 : Nat × Nat := (4, 79)
noncomputable abbrev pq_4_81 : Nat × Nat := (4, 81)
noncomputable abbrev pq_4_83 : Nat × Nat := (4, 83)
noncomputable abbrev pq_4_86 : Nat × Nat := (4, 86)
noncomputable abbrev pq_4_87 : Nat × Nat := (4, 87)
noncomputable abbrev pq_4_88 : Nat × Nat := (4, 88)
noncomputable abbrev pq_4_89 : Nat × Nat := (4, 89)
noncomputable abbrev pq_4_90 : Nat × Nat := (4, 90)
noncomputable abbrev pq_4_91 : Nat × Nat := (4, 91)
noncomputable abbrev pq_4_92 : Nat × Nat := (4, 92)
noncomputable abbrev pq_4_93 : Nat × Nat := (4, 93)
noncomputable abbrev pq_4_94 : Nat × Nat := (4, 94)
noncomputable abbrev pq_4_95 : Nat × Nat := (4, 95)
noncomputable abbrev pq_4_96 : Nat × Nat := (4, 96)
noncomputable abbrev pq_4_97 : Nat × Nat := (4, 97)
noncomputable abbrev pq_4_98 : Nat × Nat := (4, 98)
noncomputable abbrev pq_4_100 : Nat × Nat := (4, 100)
noncomputable abbrev pq_4_101 : Nat × Nat := (4, 101)
noncomputable abbrev pq_4_102 : Nat × Nat := (4, 102)
noncomputable abbrev pq_4_104 : Nat × Nat := (4, 104)
noncomputable abbrev pq_4_105 : Nat × Nat := (4, 105)
noncomputable abbrev pq_4_106 : Nat × Nat := (4, 106)
noncomputable abbrev pq_4_107 : Nat × Nat := (4, 107)
noncomputable abbrev pq_4_108 : Nat × Nat := (4, 108)
noncomputable abbrev pq_4_109 : Nat × Nat := (4, 109)
noncomputable abbrev pq_4_110 : Nat × Nat := (4, 110)
noncomputable abbrev pq_4_111 : Nat × Nat := (4, 111)
noncomputable abbrev pq_4_112 : Nat × Nat := (4, 112)
noncomputable abbrev pq_4_113 : Nat × Nat := (4, 113)
noncomputable abbrev pq_4_114 : Nat × Nat := (4, 114)
noncomputable abbrev pq_4_115 : Nat × Nat := (4, 115)
noncomputable abbrev pq_4_116 : Nat × Nat := (4, 116)
noncomputable abbrev pq_4_117 : Nat × Nat := (4, 117)
noncomputable abbrev pq_4_118 : Nat × Nat := (4, 118)
noncomputable abbrev pq_4_119 : Nat × Nat := (4, 119)
noncomputable abbrev pq_4_120 : Nat × Nat := (4, 120)
noncomputable abbrev pq_4_121 : Nat × Nat := (4, 121)
noncomputable abbrev pq_4_122 : Nat × Nat := (4, 122)
noncomputable abbrev pq_4_123 : Nat × Nat := (4, 123)
noncomputable abbrev pq_4_124 : Nat × Nat := (4, 124)
noncomputable abbrev pq_4_125 : Nat × Nat := (4, 125)
noncomputable abbrev pq_4_126 : Nat × Nat := (4, 126)
noncomputable abbrev pq_4_127 : Nat × Nat := (4, 127)
noncomputable abbrev pq_4_128 : Nat × Nat := (4, 128)
noncomputable abbrev pq_4_129 : Nat × Nat := (4, 129)
noncomputable abbrev pq_4_130 : Nat × Nat := (4, 130)
noncomputable abbrev pq_4_131 : Nat × Nat := (4, 131)
noncomputable abbrev pq_4_132 : Nat × Nat := (4, 132)
noncomputable abbrev pq_4_133 : Nat × Nat := (4, 133)
noncomputable abbrev pq_4_134 : Nat × Nat := (4, 134)
noncomputable abbrev pq_4_135 : Nat × Nat := (4, 135)
noncomputable abbrev pq_4_136 : Nat × Nat := (4, 136)
noncomputable abbrev pq_4_137 : Nat × Nat := (4, 137)
noncomputable abbrev pq_4_138 : Nat × Nat := (4, 138)
noncomputable abbrev pq_4_139 : Nat × Nat := (4, 139)
noncomputable abbrev pq_4_140 : Nat × Nat := (4, 140)
noncomputable abbrev pq_4_141 : Nat × Nat := (4, 141)
noncomputable abbrev pq_4_143 : Nat × Nat := (4, 143)
noncomputable abbrev pq_4_144 : Nat × Nat := (4, 144)
noncomputable abbrev pq_4_145 : Nat × Nat := (4, 145)
noncomputable abbrev pq_4_146 : Nat × Nat := (4, 146)
noncomputable abbrev pq_4_147 : Nat × Nat := (4, 147)
noncomputable abbrev pq_4_148 : Nat × Nat := (4, 148)
noncomputable abbrev pq_4_149 : Nat × Nat := (4, 149)
noncomputable abbrev pq_4_150 : Nat × Nat := (4, 150)
noncomputable abbrev pq_4_151 : Nat × Nat := (4, 151)
noncomputable abbrev pq_4_152 : Nat × Nat := (4, 152)
noncomputable abbrev pq_4_153 : Nat × Nat := (4, 153)
noncomputable abbrev pq_4_154 : Nat × Nat := (4, 154)
noncomputable abbrev pq_4_155 : Nat × Nat := (4, 155)
noncomputable abbrev pq_4_156 : Nat × Nat := (4, 156)
noncomputable abbrev pq_4_157 : Nat × Nat := (4, 157)
noncomputable abbrev pq_4_158 : Nat × Nat := (4, 158)
noncomputable abbrev pq_4_159 : Nat × Nat := (4, 159)
noncomputable abbrev pq_4_160 : Nat × Nat := (4, 160)
noncomputable abbrev pq_4_161 : Nat × Nat := (4, 161)
noncomputable abbrev pq_4_162 : Nat × Nat := (4, 162)
noncomputable abbrev pq_4_163 : Nat × Nat := (4, 163)
noncomputable abbrev pq_4_164 : Nat × Nat := (4, 164)
noncomputable abbrev pq_4_165 : Nat × Nat := (4, 165)
noncomputable abbrev pq_4_166 : Nat × Nat := (4, 166)
noncomputable abbrev pq_4_167 : Nat × Nat := (4, 167)
noncomputable abbrev pq_4_168 : Nat × Nat := (4, 168)
noncomputable abbrev pq_4_169 : Nat × Nat := (4, 169)
noncomputable abbrev pq_4_170 : Nat × Nat := (4, 170)
noncomputable abbrev pq_4_172 : Nat × Nat := (4, 172)
noncomputable abbrev pq_4_173 : Nat × Nat := (4, 173)
noncomputable abbrev pq_4_174 : Nat × Nat := (4, 174)
noncomputable abbrev pq_4_175 : Nat × Nat := (4, 175)
noncomputable abbrev pq_4_176 : Nat × Nat := (4, 176)
noncomputable abbrev pq_4_177 : Nat × Nat := (4, 177)
noncomputable abbrev pq_4_178 : Nat × Nat := (4, 178)
noncomputable abbrev pq_4_179 : Nat × Nat := (4, 179)
noncomputable abbrev pq_4_180 : Nat × Nat := (4, 180)
noncomputable abbrev pq_4_182 : Nat × Nat := (4, 182)
noncomputable abbrev pq_4_183 : Nat × Nat := (4, 183)
noncomputable abbrev pq_4_184 : Nat × Nat := (4, 184)
noncomputable abbrev pq_4_185 : Nat × Nat := (4, 185)
noncomputable abbrev pq_4_186 : Nat × Nat := (4, 186)
noncomputable abbrev pq_4_187 : Nat × Nat := (4, 187)
noncomputable abbrev pq_4_189 : Nat × Nat := (4, 189)
noncomputable abbrev pq_4_190 : Nat × Nat := (4, 190)
noncomputable abbrev pq_4_191 : Nat × Nat := (4, 191)
noncomputable abbrev pq_4_192 : Nat × Nat := (4, 192)
noncomputable abbrev pq_4_193 : Nat × Nat := (4, 193)
noncomputable abbrev pq_4_194 : Nat × Nat := (4, 194)
noncomputable abbrev pq_4_195 : Nat × Nat := (4, 195)
noncomputable abbrev pq_4_196 : Nat × Nat := (4, 196)
noncomputable abbrev pq_4_197 : Nat × Nat := (4, 197)
noncomputable abbrev pq_4_198 : Nat × Nat := (4, 198)
noncomputable abbrev pq_4_199 : Nat × Nat := (4, 199)
noncomputable abbrev pq_4_200 : Nat × Nat := (4, 200)
noncomputable abbrev pq_4_201 : Nat × Nat := (4, 201)
noncomputable abbrev pq_4_202 : Nat × Nat := (4, 202)
noncomputable abbrev pq_4_203 : Nat × Nat := (4, 203)
noncomputable abbrev pq_4_204 : Nat × Nat := (4, 204)
noncomputable abbrev pq_4_206 : Nat × Nat := (4, 206)
noncomputable abbrev pq_4_207 : Nat × Nat := (4, 207)
noncomputable abbrev pq_4_208 : Nat × Nat := (4, 208)
noncomputable abbrev pq_4_209 : Nat × Nat := (4, 209)
noncomputable abbrev pq_4_210 : Nat × Nat := (4, 210)
noncomputable abbrev pq_4_211 : Nat × Nat := (4, 211)
noncomputable abbrev pq_4_213 : Nat × Nat := (4, 213)
noncomputable abbrev pq_4_214 : Nat × Nat := (4, 214)
noncomputable abbrev pq_4_215 : Nat × Nat := (4, 215)
noncomputable abbrev pq_4_216 : Nat × Nat := (4, 216)
noncomputable abbrev pq_4_217 : Nat × Nat := (4, 217)
noncomputable abbrev pq_4_218 : Nat × Nat := (4, 218)
noncomputable abbrev pq_4_219 : Nat × Nat := (4, 219)
noncomputable abbrev pq_4_220 : Nat × Nat := (4, 220)
noncomputable abbrev pq_4_221 : Nat × Nat := (4, 221)
noncomputable abbrev pq_4_222 : Nat × Nat := (4, 222)
noncomputable abbrev pq_4_224 : Nat × Nat := (4, 224)
noncomputable abbrev pq_4_225 : Nat × Nat := (4, 225)
noncomputable abbrev pq_4_226 : Nat × Nat := (4, 226)
noncomputable abbrev pq_4_227 : Nat × Nat := (4, 227)
noncomputable abbrev pq_4_228 : Nat × Nat := (4, 228)
noncomputable abbrev pq_4_230 : Nat × Nat := (4, 230)
noncomputable abbrev pq_4_231 : Nat × Nat := (4, 231)
noncomputable abbrev pq_4_232 : Nat × Nat := (4, 232)
noncomputable abbrev pq_4_233 : Nat × Nat := (4, 233)
noncomputable abbrev pq_4_234 : Nat × Nat := (4, 234)
noncomputable abbrev pq_4_236 : Nat × Nat := (4, 236)
noncomputable abbrev pq_4_237 : Nat × Nat := (4, 237)
noncomputable abbrev pq_4_238 : Nat × Nat := (4, 238)
noncomputable abbrev pq_5_0 : Nat × Nat := (5, 0)
noncomputable abbrev pq_5_1 : Nat × Nat := (5, 1)
noncomputable abbrev pq_5_2 : Nat × Nat := (5, 2)
noncomputable abbrev pq_5_3 : Nat × Nat := (5, 3)
noncomputable abbrev pq_5_4 : Nat × Nat := (5, 4)
noncomputable abbrev pq_5_5 : Nat × Nat := (5, 5)
noncomputable abbrev pq_5_6 : Nat × Nat := (5, 6)
noncomputable abbrev pq_5_7 : Nat × Nat := (5, 7)
noncomputable abbrev pq_5_8 : Nat × Nat := (5, 8)
noncomputable abbrev pq_5_9 : Nat × Nat := (5, 9)
noncomputable abbrev pq_5_10 : Nat × Nat := (5, 10)
noncomputable abbrev pq_5_11 : Nat × Nat := (5, 11)
noncomputable abbrev pq_5_12 : Nat × Nat := (5, 12)
noncomputable abbrev pq_5_13 : Nat × Nat := (5, 13)
noncomputable abbrev pq_5_14 : Nat × Nat := (5, 14)
noncomputable abbrev pq_5_15 : Nat × Nat := (5, 15)
noncomputable abbrev pq_5_16 : Nat × Nat := (5, 16)
noncomputable abbrev pq_5_17 : Nat × Nat := (5, 17)
noncomputable abbrev pq_5_18 : Nat × Nat := (5, 18)
noncomputable abbrev pq_5_19 : Nat × Nat := (5, 19)
noncomputable abbrev pq_5_20 : Nat × Nat := (5, 20)
noncomputable abbrev pq_5_21 : Nat × Nat := (5, 21)
noncomputable abbrev pq_5_22 : Nat × Nat := (5, 22)
noncomputable abbrev pq_5_23 : Nat × Nat := (5, 23)
noncomputable abbrev pq_5_24 : Nat × Nat := (5, 24)
noncomputable abbrev pq_5_25 : Nat × Nat := (5, 25)
noncomputable abbrev pq_5_26 : Nat × Nat := (5, 26)
noncomputable abbrev pq_5_27 : Nat × Nat := (5, 27)
noncomputable abbrev pq_5_29 : Nat × Nat := (5, 29)
noncomputable abbrev pq_5_30 : Nat × Nat := (5, 30)
noncomputable abbrev pq_5_31 : Nat × Nat := (5, 31)
noncomputable abbrev pq_5_32 : Nat × Nat := (5, 32)
noncomputable abbrev pq_5_35 : Nat × Nat := (5, 35)
noncomputable abbrev pq_5_36 : Nat × Nat := (5, 36)
noncomputable abbrev pq_5_37 : Nat × Nat := (5, 37)
noncomputable abbrev pq_5_38 : Nat × Nat := (5, 38)
noncomputable abbrev pq_5_40 : Nat × Nat := (5, 40)
noncomputable abbrev pq_5_41 : Nat × Nat := (5, 41)
noncomputable abbrev pq_5_42 : Nat × Nat := (5, 42)
noncomputable abbrev pq_5_43 : Nat × Nat := (5, 43)
noncomputable abbrev pq_5_44 : Nat × Nat := (5, 44)
noncomputable abbrev pq_5_45 : Nat × Nat := (5, 45)
noncomputable abbrev pq_5_46 : Nat × Nat := (5, 46)
noncomputable abbrev pq_5_47 : Nat × Nat := (5, 47)
noncomputable abbrev pq_5_48 : Nat × Nat := (5, 48)
noncomputable abbrev pq_5_49 : Nat × Nat := (5, 49)
noncomputable abbrev pq_5_50 : Nat × Nat := (5, 50)
noncomputable abbrev pq_5_51 : Nat × Nat := (5, 51)
noncomputable abbrev pq_5_52 : Nat × Nat := (5, 52)
noncomputable abbrev pq_5_53 : Nat × Nat := (5, 53)
noncomputable abbrev pq_5_54 : Nat × Nat := (5, 54)
noncomputable abbrev pq_5_55 : Nat × Nat := (5, 55)
noncomputable abbrev pq_5_56 : Nat × Nat := (5, 56)
noncomputable abbrev pq_5_57 : Nat × Nat := (5, 57)
noncomputable abbrev pq_5_58 : Nat × Nat := (5, 58)
noncomputable abbrev pq_5_59 : Nat × Nat := (5, 59)
noncomputable abbrev pq_5_60 : Nat × Nat := (5, 60)
noncomputable abbrev pq_5_61 : Nat × Nat := (5, 61)
noncomputable abbrev pq_5_62 : Nat × Nat := (5, 62)
noncomputable abbrev pq_5_63 : Nat × Nat := (5, 63)
noncomputable abbrev pq_5_64 : Nat × Nat := (5, 64)
noncomputable abbrev pq_5_65 : Nat × Nat := (5, 65)
noncomputable abbrev pq_5_66 : Nat × Nat := (5, 66)
noncomputable abbrev pq_5_67 : Nat × Nat := (5, 67)
noncomputable abbrev pq_5_68 : Nat × Nat := (5, 68)
noncomputable abbrev pq_5_69 : Nat × Nat := (5, 69)
noncomputable abbrev pq_5_70 : Nat × Nat := (5, 70)
noncomputable abbrev pq_5_71 : Nat × Nat := (5, 71)
noncomputable abbrev pq_5_72 : Nat × Nat := (5, 72)
noncomputable abbrev pq_5_73 : Nat × Nat := (5, 73)
noncomputable abbrev pq_5_74 : Nat × Nat := (5, 74)
noncomputable abbrev pq_5_75 : Nat × Nat := (5, 75)
noncomputable abbrev pq_5_76 : Nat × Nat := (5, 76)
noncomputable abbrev pq_5_77 : Nat × Nat := (5, 77)
noncomputable abbrev pq_5_79 : Nat × Nat := (5, 79)
noncomputable abbrev pq_5_80 : Nat × Nat := (5, 80)
noncomputable abbrev pq_5_81 : Nat × Nat := (5, 81)
noncomputable abbrev pq_5_82 : Nat × Nat := (5, 82)
noncomputable abbrev pq_5_83 : Nat × Nat := (5, 83)
noncomputable abbrev pq_5_84 : Nat × Nat := (5, 84)
noncomputable abbrev pq_5_85 : Nat × Nat := (5, 85)
noncomputable abbrev pq_5_86 : Nat × Nat := (5, 86)
noncomputable abbrev pq_5_87 : Nat × Nat := (5, 87)
noncomputable abbrev pq_5_88 : Nat × Nat := (5, 88)
noncomputable abbrev pq_5_89 : Nat × Nat := (5, 89)
noncomputable abbrev pq_5_90 : Nat × Nat := (5, 90)
noncomputable abbrev pq_5_91 : Nat × Nat := (5, 91)
noncomputable abbrev pq_5_92 : Nat × Nat := (5, 92)
noncomputable abbrev pq_5_94 : Nat × Nat := (5, 94)
noncomputable abbrev pq_5_95 : Nat × Nat := (5, 95)
noncomputable abbrev pq_5_96 : Nat × Nat := (5, 96)
noncomputable abbrev pq_5_97 : Nat × Nat := (5, 97)
noncomputable abbrev pq_5_98 : Nat × Nat := (5, 98)
noncomputable abbrev pq_5_99 : Nat × Nat := (5, 99)
noncomputable abbrev pq_5_100 : Nat × Nat := (5, 100)
noncomputable abbrev pq_5_101 : Nat × Nat := (5, 101)
noncomputable abbrev pq_5_102 : Nat × Nat := (5, 102)
noncomputable abbrev pq_5_103 : Nat × Nat := (5, 103)
noncomputable abbrev pq_5_104 : Nat × Nat := (5, 104)
noncomputable abbrev pq_5_105 : Nat × Nat := (5, 105)
noncomputable abbrev pq_5_106 : Nat × Nat := (5, 106)
noncomputable abbrev pq_5_107 : Nat × Nat := (5, 107)
noncomputable abbrev pq_5_108 : Nat × Nat := (5, 108)
noncomputable abbrev pq_5_109 : Nat × Nat := (5, 109)
noncomputable abbrev pq_5_110 : Nat × Nat := (5, 110)
noncomputable abbrev pq_5_111 : Nat × Nat := (5, 111)
noncomputable abbrev pq_5_112 : Nat × Nat := (5, 112)
noncomputable abbrev pq_5_113 : Nat × Nat := (5, 113)
noncomputable abbrev pq_5_114 : Nat × Nat := (5, 114)
noncomputable abbrev pq_5_115 : Nat × Nat := (5, 115)
noncomputable abbrev pq_5_116 : Nat × Nat := (5, 116)
noncomputable abbrev pq_5_117 : Nat × Nat := (5, 117)
noncomputable abbrev pq_5_118 : Nat × Nat := (5, 118)
noncomputable abbrev pq_5_119 : Nat × Nat := (5, 119)
noncomputable abbrev pq_5_120 : Nat × Nat := (5, 120)
noncomputable abbrev pq_5_121 : Nat × Nat := (5, 121)
noncomputable abbrev pq_5_122 : Nat × Nat := (5, 122)
noncomputable abbrev pq_5_123 : Nat × Nat := (5, 123)
noncomputable abbrev pq_5_124 : Nat × Nat := (5, 124)
noncomputable abbrev pq_5_125 : Nat × Nat := (5, 125)
noncomputable abbrev pq_5_126 : Nat × Nat := (5, 126)
noncomputable abbrev pq_5_127 : Nat × Nat := (5, 127)
noncomputable abbrev pq_5_128 : Nat × Nat := (5, 128)
noncomputable abbrev pq_5_129 : Nat × Nat := (5, 129)
noncomputable abbrev pq_5_130 : Nat × Nat := (5, 130)
noncomputable abbrev pq_5_131 : Nat × Nat := (5, 131)
noncomputable abbrev pq_5_133 : Nat × Nat := (5, 133)
noncomputable abbrev pq_5_134 : Nat × Nat := (5, 134)
noncomputable abbrev pq_5_135 : Nat × Nat := (5, 135)
noncomputable abbrev pq_5_136 : Nat × Nat := (5, 136)
noncomputable abbrev pq_5_137 : Nat × Nat := (5, 137)
noncomputable abbrev pq_5_138 : Nat × Nat := (5, 138)
noncomputable abbrev pq_5_139 : Nat × Nat := (5, 139)
noncomputable abbrev pq_5_140 : Nat × Nat := (5, 140)
noncomputable abbrev pq_5_141 : Nat × Nat := (5, 141)
noncomputable abbrev pq_5_142 : Nat × Nat := (5, 142)
noncomputable abbrev pq_5_143 : Nat × Nat := (5, 143)
noncomputable abbrev pq_5_144 : Nat × Nat := (5, 144)
noncomputable abbrev pq_5_146 : Nat × Nat := (5, 146)
noncomputable abbrev pq_5_147 : Nat × Nat := (5, 147)
noncomputable abbrev pq_5_148 : Nat × Nat := (5, 148)
noncomputable abbrev pq_5_149 : Nat × Nat := (5, 149)
noncomputable abbrev pq_5_150 : Nat × Nat := (5, 150)
noncomputable abbrev pq_5_151 : Nat × Nat := (5, 151)
noncomputable abbrev pq_5_152 : Nat × Nat := (5, 152)
noncomputable abbrev pq_5_153 : Nat × Nat := (5, 153)
noncomputable abbrev pq_5_154 : Nat × Nat := (5, 154)
noncomputable abbrev pq_5_155 : Nat × Nat := (5, 155)
noncomputable abbrev pq_5_156 : Nat × Nat := (5, 156)
noncomputable abbrev pq_5_157 : Nat × Nat := (5, 157)
noncomputable abbrev pq_5_158 : Nat × Nat := (5, 158)
noncomputable abbrev pq_5_159 : Nat × Nat := (5, 159)
noncomputable abbrev pq_5_160 : Nat × Nat := (5, 160)
noncomputable abbrev pq_5_161 : Nat × Nat := (5, 161)
noncomputable abbrev pq_5_162 : Nat × Nat := (5, 162)
noncomputable abbrev pq_5_163 : Nat × Nat := (5, 163)
noncomputable abbrev pq_5_164 : Nat × Nat := (5, 164)
noncomputable abbrev pq_5_165 : Nat × Nat := (5, 165)
noncomputable abbrev pq_5_166 : Nat × Nat := (5, 166)
noncomputable abbrev pq_5_167 : Nat × Nat := (5, 167)
noncomputable abbrev pq_5_168 : Nat × Nat := (5, 168)
noncomputable abbrev pq_5_169 : Nat × Nat := (5, 169)
noncomputable abbrev pq_5_170 : Nat × Nat := (5, 170)
noncomputable abbrev pq_5_171 : Nat × Nat := (5, 171)
noncomputable abbrev pq_5_172 : Nat × Nat := (5, 172)
noncomputable abbrev pq_5_173 : Nat × Nat := (5, 173)
noncomputable abbrev pq_5_174 : Nat × Nat := (5, 174)
noncomputable abbrev pq_5_175 : Nat × Nat := (5, 175)
noncomputable abbrev pq_5_176 : Nat × Nat := (5, 176)
noncomputable abbrev pq_5_177 : Nat × Nat := (5, 177)
noncomputable abbrev pq_5_178 : Nat × Nat := (5, 178)
noncomputable abbrev pq_5_179 : Nat × Nat := (5, 179)
noncomputable abbrev pq_5_180 : Nat × Nat := (5, 180)
noncomputable abbrev pq_5_181 : Nat × Nat := (5, 181)
noncomputable abbrev pq_5_182 : Nat × Nat := (5, 182)
noncomputable abbrev pq_5_183 : Nat × Nat := (5, 183)
noncomputable abbrev pq_5_184 : Nat × Nat := (5, 184)
noncomputable abbrev pq_5_185 : Nat × Nat := (5, 185)
noncomputable abbrev pq_5_186 : Nat × Nat := (5, 186)
noncomputable abbrev pq_5_187 : Nat × Nat := (5, 187)
noncomputable abbrev pq_5_188 : Nat × Nat := (5, 188)
noncomputable abbrev pq_5_189 : Nat × Nat := (5, 189)
noncomputable abbrev pq_5_190 : Nat × Nat := (5, 190)
noncomputable abbrev pq_5_191 : Nat × Nat := (5, 191)
noncomputable abbrev pq_5_192 : Nat × Nat := (5, 192)
noncomputable abbrev pq_5_193 : Nat × Nat := (5, 193)
noncomputable abbrev pq_5_194 : Nat × Nat := (5, 194)
noncomputable abbrev pq_5_195 : Nat × Nat := (5, 195)
noncomputable abbrev pq_5_196 : Nat × Nat := (5, 196)
noncomputable abbrev pq_5_197 : Nat × Nat := (5, 197)
noncomputable abbrev pq_5_198 : Nat × Nat := (5, 198)
noncomputable abbrev pq_5_199 : Nat × Nat := (5, 199)
noncomputable abbrev pq_5_200 : Nat × Nat := (5, 200)
noncomputable abbrev pq_5_201 : Nat × Nat := (5, 201)
noncomputable abbrev pq_5_202 : Nat × Nat := (5, 202)
noncomputable abbrev pq_5_203 : Nat × Nat := (5, 203)
noncomputable abbrev pq_5_204 : Nat × Nat := (5, 204)
noncomputable abbrev pq_5_205 : Nat × Nat := (5, 205)
noncomputable abbrev pq_5_206 : Nat × Nat := (5, 206)
noncomputable abbrev pq_5_207 : Nat × Nat := (5, 207)
noncomputable abbrev pq_5_208 : Nat × Nat := (5, 208)
noncomputable abbrev pq_5_210 : Nat × Nat := (5, 210)
noncomputable abbrev pq_5_211 : Nat × Nat := (5, 211)
noncomputable abbrev pq_5_213 : Nat × Nat := (5, 213)
noncomputable abbrev pq_5_214 : Nat × Nat := (5, 214)
noncomputable abbrev pq_5_215 : Nat × Nat := (5, 215)
noncomputable abbrev pq_5_216 : Nat × Nat := (5, 216)
noncomputable abbrev pq_5_217 : Nat × Nat := (5, 217)
noncomputable abbrev pq_5_218 : Nat × Nat := (5, 218)
noncomputable abbrev pq_5_219 : Nat × Nat := (5, 219)
noncomputable abbrev pq_5_220 : Nat × Nat := (5, 220)
noncomputable abbrev pq_5_221 : Nat × Nat := (5, 221)
noncomputable abbrev pq_5_222 : Nat × Nat := (5, 222)
noncomputable abbrev pq_5_223 : Nat × Nat := (5, 223)
noncomputable abbrev pq_5_224 : Nat × Nat := (5, 224)
noncomputable abbrev pq_5_225 : Nat × Nat := (5, 225)
noncomputable abbrev pq_5_226 : Nat × Nat := (5, 226)
noncomputable abbrev pq_5_227 : Nat × Nat := (5, 227)
noncomputable abbrev pq_5_228 : Nat × Nat := (5, 228)
noncomputable abbrev pq_5_229 : Nat × Nat := (5, 229)
noncomputable abbrev pq_5_230 : Nat × Nat := (5, 230)
noncomputable abbrev pq_5_231 : Nat × Nat := (5, 231)
noncomputable abbrev pq_5_232 : Nat × Nat := (5, 232)
noncomputable abbrev pq_5_234 : Nat × Nat := (5, 234)
noncomputable abbrev pq_5_235 : Nat × Nat := (5, 235)
noncomputable abbrev pq_5_236 : Nat × Nat := (5, 236)
noncomputable abbrev pq_5_237 : Nat × Nat := (5, 237)
noncomputable abbrev pq_5_238 : Nat × Nat := (5, 238)
noncomputable abbrev pq_5_239 : Nat × Nat := (5, 239)
noncomputable abbrev pq_6_0 : Nat × Nat := (6, 0)
noncomputable abbrev pq_6_1 : Nat × Nat := (6, 1)
noncomputable abbrev pq_6_2 : Nat × Nat := (6, 2)
noncomputable abbrev pq_6_3 : Nat × Nat := (6, 3)
noncomputable abbrev pq_6_4 : Nat × Nat := (6, 4)
noncomputable abbrev pq_6_5 : Nat × Nat := (6, 5)
noncomputable abbrev pq_6_6 : Nat × Nat := (6, 6)
noncomputable abbrev pq_6_7 : Nat × Nat := (6, 7)
noncomputable abbrev pq_6_8 : Nat × Nat := (6, 8)
noncomputable abbrev pq_6_9 : Nat × Nat := (6, 9)
noncomputable abbrev pq_6_10 : Nat × Nat := (6, 10)
noncomputable abbrev pq_6_11 : Nat × Nat := (6, 11)
noncomputable abbrev pq_6_12 : Nat × Nat := (6, 12)
noncomputable abbrev pq_6_13 : Nat × Nat := (6, 13)
noncomputable abbrev pq_6_14 : Nat × Nat := (6, 14)
noncomputable abbrev pq_6_15 : Nat × Nat := (6, 15)
noncomputable abbrev pq_6_16 : Nat × Nat := (6, 16)
noncomputable abbrev pq_6_17 : Nat × Nat := (6, 17)
noncomputable abbrev pq_6_18 : Nat × Nat := (6, 18)
noncomputable abbrev pq_6_19 : Nat × Nat := (6, 19)
noncomputable abbrev pq_6_20 : Nat × Nat := (6, 20)
noncomputable abbrev pq_6_21 : Nat × Nat := (6, 21)
noncomputable abbrev pq_6_22 : Nat × Nat := (6, 22)
noncomputable abbrev pq_6_23 : Nat × Nat := (6, 23)
noncomputable abbrev pq_6_24 : Nat × Nat := (6, 24)
noncomputable abbrev pq_6_25 : Nat × Nat := (6, 25)
noncomputable abbrev pq_6_26 : Nat × Nat := (6, 26)
noncomputable abbrev pq_6_27 : Nat × Nat := (6, 27)
noncomputable abbrev pq_6_28 : Nat × Nat := (6, 28)
noncomputable abbrev pq_6_29 : Nat × Nat := (6, 29)
noncomputable abbrev pq_6_30 : Nat × Nat := (6, 30)
noncomputable abbrev pq_6_31 : Nat × Nat := (6, 31)
noncomputable abbrev pq_6_32 : Nat × Nat := (6, 32)
noncomputable abbrev pq_6_33 : Nat × Nat := (6, 33)
noncomputable abbrev pq_6_34 : Nat × Nat := (6, 34)
noncomputable abbrev pq_6_35 : Nat × Nat := (6, 35)
noncomputable abbrev pq_6_36 : Nat × Nat := (6, 36)
noncomputable abbrev pq_6_37 : Nat × Nat := (6, 37)
noncomputable abbrev pq_6_38 : Nat × Nat := (6, 38)
noncomputable abbrev pq_6_39 : Nat × Nat := (6, 39)
noncomputable abbrev pq_6_40 : Nat × Nat := (6, 40)
noncomputable abbrev pq_6_41 : Nat × Nat := (6, 41)
noncomputable abbrev pq_6_42 : Nat × Nat := (6, 42)
noncomputable abbrev pq_6_43 : Nat × Nat := (6, 43)
noncomputable abbrev pq_6_44 : Nat × Nat := (6, 44)
noncomputable abbrev pq_6_45 : Nat × Nat := (6, 45)
noncomputable abbrev pq_6_46 : Nat × Nat := (6, 46)
noncomputable abbrev pq_6_47 : Nat × Nat := (6, 47)
noncomputable abbrev pq_6_48 : Nat × Nat := (6, 48)
noncomputable abbrev pq_6_49 : Nat × Nat := (6, 49)
noncomputable abbrev pq_6_50 : Nat × Nat := (6, 50)
noncomputable abbrev pq_6_51 : Nat × Nat := (6, 51)
noncomputable abbrev pq_6_52 : Nat × Nat := (6, 52)
noncomputable abbrev pq_6_53 : Nat × Nat := (6, 53)
noncomputable abbrev pq_6_54 : Nat × Nat := (6, 54)
noncomputable abbrev pq_6_56 : Nat × Nat := (6, 56)
noncomputable abbrev pq_6_57 : Nat × Nat := (6, 57)
noncomputable abbrev pq_6_58 : Nat × Nat := (6, 58)
noncomputable abbrev pq_6_59 : Nat × Nat := (6, 59)
noncomputable abbrev pq_6_60 : Nat × Nat := (6, 60)
noncomputable abbrev pq_6_61 : Nat × Nat := (6, 61)
noncomputable abbrev pq_6_62 : Nat × Nat := (6, 62)
noncomputable abbrev pq_6_63 : Nat × Nat := (6, 63)
noncomputable abbrev pq_6_64 : Nat × Nat := (6, 64)
noncomputable abbrev pq_6_65 : Nat × Nat := (6, 65)
noncomputable abbrev pq_6_66 : Nat × Nat := (6, 66)
noncomputable abbrev pq_6_67 : Nat × Nat := (6, 67)
noncomputable abbrev pq_6_68 : Nat × Nat := (6, 68)
noncomputable abbrev pq_6_69 : Nat × Nat := (6, 69)
noncomputable abbrev pq_6_70 : Nat × Nat := (6, 70)
noncomputable abbrev pq_6_71 : Nat × Nat := (6, 71)
noncomputable abbrev pq_6_72 : Nat × Nat := (6, 72)
noncomputable abbrev pq_6_73 : Nat × Nat := (6, 73)
noncomputable abbrev pq_6_75 : Nat × Nat := (6, 75)
noncomputable abbrev pq_6_76 : Nat × Nat := (6, 76)
noncomputable abbrev pq_6_77 : Nat × Nat := (6, 77)
noncomputable abbrev pq_6_78 : Nat × Nat := (6, 78)
noncomputable abbrev pq_6_79 : Nat × Nat := (6, 79)
noncomputable abbrev pq_6_80 : Nat × Nat := (6, 80)
noncomputable abbrev pq_6_81 : Nat × Nat := (6, 81)
noncomputable abbrev pq_6_82 : Nat × Nat := (6, 82)
noncomputable abbrev pq_6_83 : Nat × Nat := (6, 83)
noncomputable abbrev pq_6_84 : Nat × Nat := (6, 84)
noncomputable abbrev pq_6_85 : Nat × Nat := (6, 85)
noncomputable abbrev pq_6_86 : Nat × Nat := (6, 86)
noncomputable abbrev pq_6_87 : Nat × Nat := (6, 87)
noncomputable abbrev pq_6_88 : Nat × Nat := (6, 88)
noncomputable abbrev pq_6_89 : Nat × Nat := (6, 89)
noncomputable abbrev pq_6_90 : Nat × Nat := (6, 90)
noncomputable abbrev pq_6_91 : Nat × Nat := (6, 91)
noncomputable abbrev pq_6_92 : Nat × Nat := (6, 92)
noncomputable abbrev pq_6_93 : Nat × Nat := (6, 93)
noncomputable abbrev pq_6_94 : Nat × Nat := (6, 94)
noncomputable abbrev pq_6_95 : Nat × Nat := (6, 95)
noncomputable abbrev pq_6_96 : Nat × Nat := (6, 96)
noncomputable abbrev pq_6_97 : Nat × Nat := (6, 97)
noncomputable abbrev pq_6_98 : Nat × Nat := (6, 98)
noncomputable abbrev pq_6_99 : Nat × Nat := (6, 99)
noncomputable abbrev pq_6_100 : Nat × Nat := (6, 100)
noncomputable abbrev pq_6_101 : Nat × Nat := (6, 101)
noncomputable abbrev pq_6_102 : Nat × Nat := (6, 102)
noncomputable abbrev pq_6_103 : Nat × Nat := (6, 103)
noncomputable abbrev pq_6_104 : Nat × Nat := (6, 104)
noncomputable abbrev pq_6_105 : Nat × Nat := (6, 105)
noncomputable abbrev pq_6_106 : Nat × Nat := (6, 106)
noncomputable abbrev pq_6_107 : Nat × Nat := (6, 107)
noncomputable abbrev pq_6_108 : Nat × Nat := (6, 108)
noncomputable abbrev pq_6_109 : Nat × Nat := (6, 109)
noncomputable abbrev pq_6_110 : Nat × Nat := (6, 110)
noncomputable abbrev pq_6_111 : Nat × Nat := (6, 111)
noncomputable abbrev pq_6_112 : Nat × Nat := (6, 112)
noncomputable abbrev pq_6_113 : Nat × Nat := (6, 113)
noncomputable abbrev pq_6_114 : Nat × Nat := (6, 114)
noncomputable abbrev pq_6_115 : Nat × Nat := (6, 115)
noncomputable abbrev pq_6_116 : Nat × Nat := (6, 116)
noncomputable abbrev pq_6_117 : Nat × Nat := (6, 117)
noncomputable abbrev pq_6_118 : Nat × Nat := (6, 118)
noncomputable abbrev pq_6_119 : Nat × Nat := (6, 119)
noncomputable abbrev pq_6_120 : Nat × Nat := (6, 120)
noncomputable abbrev pq_6_121 : Nat × Nat := (6, 121)
noncomputable abbrev pq_6_122 : Nat × Nat := (6, 122)
noncomputable abbrev pq_6_123 : Nat × Nat := (6, 123)
noncomputable abbrev pq_6_124 : Nat × Nat := (6, 124)
noncomputable abbrev pq_6_125 : Nat × Nat := (6, 125)
noncomputable abbrev pq_6_126 : Nat × Nat := (6, 126)
noncomputable abbrev pq_6_127 : Nat × Nat := (6, 127)
noncomputable abbrev pq_6_128 : Nat × Nat := (6, 128)
noncomputable abbrev pq_6_129 : Nat × Nat := (6, 129)
noncomputable abbrev pq_6_130 : Nat × Nat := (6, 130)
noncomputable abbrev pq_6_131 : Nat × Nat := (6, 131)
noncomputable abbrev pq_6_132 : Nat × Nat := (6, 132)
noncomputable abbrev pq_6_133 : Nat × Nat := (6, 133)
noncomputable abbrev pq_6_134 : Nat × Nat := (6, 134)
noncomputable abbrev pq_6_135 : Nat × Nat := (6, 135)
noncomputable abbrev pq_6_136 : Nat × Nat := (6, 136)
noncomputable abbrev pq_6_137 : Nat × Nat := (6, 137)
noncomputable abbrev pq_6_138 : Nat × Nat := (6, 138)
noncomputable abbrev pq_6_139 : Nat × Nat := (6, 139)
noncomputable abbrev pq_6_140 : Nat × Nat := (6, 140)
noncomputable abbrev pq_6_141 : Nat × Nat := (6, 141)
noncomputable abbrev pq_6_142 : Nat × Nat := (6, 142)
noncomputable abbrev pq_6_143 : Nat × Nat := (6, 143)
noncomputable abbrev pq_6_144 : Nat × Nat := (6, 144)
noncomputable abbrev pq_6_145 : Nat × Nat := (6, 145)
noncomputable abbrev pq_6_146 : Nat × Nat := (6, 146)
noncomputable abbrev pq_6_147 : Nat × Nat := (6, 147)
noncomputable abbrev pq_6_148 : Nat × Nat := (6, 148)
noncomputable abbrev pq_6_149 : Nat × Nat := (6, 149)
noncomputable abbrev pq_6_150 : Nat × Nat := (6, 150)
noncomputable abbrev pq_6_151 : Nat × Nat := (6, 151)
noncomputable abbrev pq_6_152 : Nat × Nat := (6, 152)
noncomputable abbrev pq_6_153 : Nat × Nat := (6, 153)
noncomputable abbrev pq_6_154 : Nat × Nat := (6, 154)
noncomputable abbrev pq_6_155 : Nat × Nat := (6, 155)
noncomputable abbrev pq_6_156 : Nat × Nat := (6, 156)
noncomputable abbrev pq_6_157 : Nat × Nat := (6, 157)
noncomputable abbrev pq_6_158 : Nat × Nat := (6, 158)
noncomputable abbrev pq_6_159 : Nat × Nat := (6, 159)
noncomputable abbrev pq_6_160 : Nat × Nat := (6, 160)
noncomputable abbrev pq_6_161 : Nat × Nat := (6, 161)
noncomputable abbrev pq_6_162 : Nat × Nat := (6, 162)
noncomputable abbrev pq_6_163 : Nat × Nat := (6, 163)
noncomputable abbrev pq_6_164 : Nat × Nat := (6, 164)
noncomputable abbrev pq_6_165 : Nat × Nat := (6, 165)
noncomputable abbrev pq_6_166 : Nat × Nat := (6, 166)
noncomputable abbrev pq_6_167 : Nat × Nat := (6, 167)
noncomputable abbrev pq_6_168 : Nat × Nat := (6, 168)
noncomputable abbrev pq_6_169 : Nat × Nat := (6, 169)
noncomputable abbrev pq_6_170 : Nat × Nat := (6, 170)
noncomputable abbrev pq_6_171 : Nat × Nat := (6, 171)
noncomputable abbrev pq_6_172 : Nat × Nat := (6, 172)
noncomputable abbrev pq_6_173 : Nat × Nat := (6, 173)
noncomputable abbrev pq_6_174 : Nat × Nat := (6, 174)
noncomputable abbrev pq_6_175 : Nat × Nat := (6, 175)
noncomputable abbrev pq_6_176 : Nat × Nat := (6, 176)
noncomputable abbrev pq_6_177 : Nat × Nat := (6, 177)
noncomputable abbrev pq_6_178 : Nat × Nat := (6, 178)
noncomputable abbrev pq_6_179 : Nat × Nat := (6, 179)
noncomputable abbrev pq_6_180 : Nat × Nat := (6, 180)
noncomputable abbrev pq_6_181 : Nat × Nat := (6, 181)
noncomputable abbrev pq_6_182 : Nat × Nat := (6, 182)
noncomputable abbrev pq_6_183 : Nat × Nat := (6, 183)
noncomputable abbrev pq_6_184 : Nat × Nat := (6, 184)
noncomputable abbrev pq_6_185 : Nat × Nat := (6, 185)
noncomputable abbrev pq_6_186 : Nat × Nat := (6, 186)
noncomputable abbrev pq_6_187 : Nat × Nat := (6, 187)
noncomputable abbrev pq_6_188 : Nat × Nat := (6, 188)
noncomputable abbrev pq_6_189 : Nat × Nat := (6, 189)
noncomputable abbrev pq_6_190 : Nat × Nat := (6, 190)
noncomputable abbrev pq_6_191 : Nat × Nat := (6, 191)
noncomputable abbrev pq_6_192 : Nat × Nat := (6, 192)
noncomputable abbrev pq_6_193 : Nat × Nat := (6, 193)
noncomputable abbrev pq_6_194 : Nat × Nat := (6, 194)
noncomputable abbrev pq_6_195 : Nat × Nat := (6, 195)
noncomputable abbrev pq_6_196 : Nat × Nat := (6, 196)
noncomputable abbrev pq_6_197 : Nat × Nat := (6, 197)
noncomputable abbrev pq_6_198 : Nat × Nat := (6, 198)
noncomputable abbrev pq_6_199 : Nat × Nat := (6, 199)
noncomputable abbrev pq_6_200 : Nat × Nat := (6, 200)
noncomputable abbrev pq_6_201 : Nat × Nat := (6, 201)
noncomputable abbrev pq_6_202 : Nat × Nat := (6, 202)
noncomputable abbrev pq_6_203 : Nat × Nat := (6, 203)
noncomputable abbrev pq_6_204 : Nat × Nat := (6, 204)
noncomputable abbrev pq_6_205 : Nat × Nat := (6, 205)
noncomputable abbrev pq_6_206 : Nat × Nat := (6, 206)
noncomputable abbrev pq_6_207 : Nat × Nat := (6, 207)
noncomputable abbrev pq_6_208 : Nat × Nat := (6, 208)
noncomputable abbrev pq_6_209 : Nat × Nat := (6, 209)
noncomputable abbrev pq_6_210 : Nat × Nat := (6, 210)
noncomputable abbrev pq_6_211 : Nat × Nat := (6, 211)
noncomputable abbrev pq_6_212 : Nat × Nat := (6, 212)
noncomputable abbrev pq_6_213 : Nat × Nat := (6, 213)
noncomputable abbrev pq_6_214 : Nat × Nat := (6, 214)
noncomputable abbrev pq_6_215 : Nat × Nat := (6, 215)
noncomputable abbrev pq_6_216 : Nat × Nat := (6, 216)
noncomputable abbrev pq_6_217 : Nat × Nat := (6, 217)
noncomputable abbrev pq_6_218 : Nat × Nat := (6, 218)
noncomputable abbrev pq_6_219 : Nat × Nat := (6, 219)
noncomputable abbrev pq_6_220 : Nat × Nat := (6, 220)
noncomputable abbrev pq_6_221 : Nat × Nat := (6, 221)
noncomputable abbrev pq_6_222 : Nat × Nat := (6, 222)
noncomputable abbrev pq_6_223 : Nat × Nat := (6, 223)
noncomputable abbrev pq_6_224 : Nat × Nat := (6, 224)
noncomputable abbrev pq_6_225 : Nat × Nat := (6, 225)
noncomputable abbrev pq_6_227 : Nat × Nat := (6, 227)
noncomputable abbrev pq_6_229 : Nat × Nat := (6, 229)
noncomputable abbrev pq_6_230 : Nat × Nat := (6, 230)
noncomputable abbrev pq_6_231 : Nat × Nat := (6, 231)
noncomputable abbrev pq_6_232 : Nat × Nat := (6, 232)
noncomputable abbrev pq_6_233 : Nat × Nat := (6, 233)
noncomputable abbrev pq_6_234 : Nat × Nat := (6, 234)
noncomputable abbrev pq_6_235 : Nat × Nat := (6, 235)
noncomputable abbrev pq_6_236 : Nat × Nat := (6, 236)
noncomputable abbrev pq_6_237 : Nat × Nat := (6, 237)
noncomputable abbrev pq_6_238 : Nat × Nat := (6, 238)
noncomputable abbrev pq_6_239 : Nat × Nat := (6, 239)
noncomputable abbrev pq_7_0 : Nat × Nat := (7, 0)
noncomputable abbrev pq_7_1 : Nat × Nat := (7, 1)
noncomputable abbrev pq_7_2 : Nat × Nat := (7, 2)
noncomputable abbrev pq_7_3 : Nat × Nat := (7, 3)
noncomputable abbrev pq_7_4 : Nat × Nat := (7, 4)
noncomputable abbrev pq_7_5 : Nat × Nat := (7, 5)
noncomputable abbrev pq_7_6 : Nat × Nat := (7, 6)
noncomputable abbrev pq_7_7 : Nat × Nat := (7, 7)
noncomputable abbrev pq_7_8 : Nat × Nat := (7, 8)
noncomputable abbrev pq_7_9 : Nat × Nat := (7, 9)
noncomputable abbrev pq_7_10 : Nat × Nat := (7, 10)
noncomputable abbrev pq_7_11 : Nat × Nat := (7, 11)
noncomputable abbrev pq_7_12 : Nat × Nat := (7, 12)
noncomputable abbrev pq_7_13 : Nat × Nat := (7, 13)
noncomputable abbrev pq_7_14 : Nat × Nat := (7, 14)
noncomputable abbrev pq_7_15 : Nat × Nat := (7, 15)
noncomputable abbrev pq_7_16 : Nat × Nat := (7, 16)
noncomputable abbrev pq_7_17 : Nat × Nat := (7, 17)
noncomputable abbrev pq_7_18 : Nat × Nat := (7, 18)
noncomputable abbrev pq_7_19 : Nat × Nat := (7, 19)
noncomputable abbrev pq_7_20 : Nat × Nat := (7, 20)
noncomputable abbrev pq_7_21 : Nat × Nat := (7, 21)
noncomputable abbrev pq_7_22 : Nat × Nat := (7, 22)
noncomputable abbrev pq_7_23 : Nat × Nat := (7, 23)
noncomputable abbrev pq_7_26 : Nat × Nat := (7, 26)
noncomputable abbrev pq_7_27 : Nat × Nat := (7, 27)
noncomputable abbrev pq_7_28 : Nat × Nat := (7, 28)
noncomputable abbrev pq_7_29 : Nat × Nat := (7, 29)
noncomputable abbrev pq_7_30 : Nat × Nat := (7, 30)
noncomputable abbrev pq_7_31 : Nat × Nat := (7, 31)
noncomputable abbrev pq_7_32 : Nat × Nat := (7, 32)
noncomputable abbrev pq_7_33 : Nat × Nat := (7, 33)
noncomputable abbrev pq_7_34 : Nat × Nat := (7, 34)
noncomputable abbrev pq_7_35 : Nat × Nat := (7, 35)
noncomputable abbrev pq_7_36 : Nat × Nat := (7, 36)
noncomputable abbrev pq_7_37 : Nat × Nat := (7, 37)
noncomputable abbrev pq_7_38 : Nat × Nat := (7, 38)
noncomputable abbrev pq_7_39 : Nat × Nat := (7, 39)
noncomputable abbrev pq_7_40 : Nat × Nat := (7, 40)
noncomputable abbrev pq_7_42 : Nat × Nat := (7, 42)
noncomputable abbrev pq_7_43 : Nat × Nat := (7, 43)
noncomputable abbrev pq_7_44 : Nat × Nat := (7, 44)
noncomputable abbrev pq_7_46 : Nat × Nat := (7, 46)
noncomputable abbrev pq_7_47 : Nat × Nat := (7, 47)
noncomputable abbrev pq_7_48 : Nat × Nat := (7, 48)
noncomputable abbrev pq_7_49 : Nat × Nat := (7, 49)
noncomputable abbrev pq_7_50 : Nat × Nat := (7, 50)
noncomputable abbrev pq_7_51 : Nat × Nat := (7, 51)
noncomputable abbrev pq_7_52 : Nat × Nat := (7, 52)
noncomputable abbrev pq_7_53 : Nat × Nat := (7, 53)
noncomputable abbrev pq_7_54 : Nat × Nat := (7, 54)
noncomputable abbrev pq_7_55 : Nat × Nat := (7, 55)
noncomputable abbrev pq_7_57 : Nat × Nat := (7, 57)
noncomputable abbrev pq_7_58 : Nat × Nat := (7, 58)
noncomputable abbrev pq_7_59 : Nat × Nat := (7, 59)
noncomputable abbrev pq_7_60 : Nat × Nat := (7, 60)
noncomputable abbrev pq_7_61 : Nat × Nat := (7, 61)
noncomputable abbrev pq_7_62 : Nat × Nat := (7, 62)
noncomputable abbrev pq_7_63 : Nat × Nat := (7, 63)
noncomputable abbrev pq_7_64 : Nat × Nat := (7, 64)
noncomputable abbrev pq_7_65 : Nat × Nat := (7, 65)
noncomputable abbrev pq_7_66 : Nat × Nat := (7, 66)
noncomputable abbrev pq_7_67 : Nat × Nat := (7, 67)
noncomputable abbrev pq_7_69 : Nat × Nat := (7, 69)
noncomputable abbrev pq_7_70 : Nat × Nat := (7, 70)
noncomputable abbrev pq_7_71 : Nat × Nat := (7, 71)
noncomputable abbrev pq_7_72 : Nat × Nat := (7, 72)
noncomputable abbrev pq_7_73 : Nat × Nat := (7, 73)
noncomputable abbrev pq_7_74 : Nat × Nat := (7, 74)
noncomputable abbrev pq_7_75 : Nat × Nat := (7, 75)
noncomputable abbrev pq_7_77 : Nat × Nat := (7, 77)
noncomputable abbrev pq_7_78 : Nat × Nat := (7, 78)
noncomputable abbrev pq_7_79 : Nat × Nat := (7, 79)
noncomputable abbrev pq_7_80 : Nat × Nat := (7, 80)
noncomputable abbrev pq_7_81 : Nat × Nat := (7, 81)
noncomputable abbrev pq_7_82 : Nat × Nat := (7, 82)
noncomputable abbrev pq_7_83 : Nat × Nat := (7, 83)
noncomputable abbrev pq_7_84 : Nat × Nat := (7, 84)
noncomputable abbrev pq_7_85 : Nat × Nat := (7, 85)
noncomputable abbrev pq_7_86 : Nat × Nat := (7, 86)
noncomputable abbrev pq_7_87 : Nat × Nat := (7, 87)
noncomputable abbrev pq_7_88 : Nat × Nat := (7, 88)
noncomputable abbrev pq_7_89 : Nat × Nat := (7, 89)
noncomputable abbrev pq_7_90 : Nat × Nat := (7, 90)
noncomputable abbrev pq_7_91 : Nat × Nat := (7, 91)
noncomputable abbrev pq_7_92 : Nat × Nat := (7, 92)
noncomputable abbrev pq_7_93 : Nat × Nat := (7, 93)
noncomputable abbrev pq_7_94 : Nat × Nat := (7, 94)
noncomputable abbrev pq_7_95 : Nat × Nat := (7, 95)
noncomputable abbrev pq_7_97 : Nat × Nat := (7, 97)
noncomputable abbrev pq_7_98 : Nat × Nat := (7, 98)
noncomputable abbrev pq_7_99 : Nat × Nat := (7, 99)
noncomputable abbrev pq_7_100 : Nat × Nat := (7, 100)
noncomputable abbrev pq_7_101 : Nat × Nat := (7, 101)
noncomputable abbrev pq_7_102 : Nat × Nat := (7, 102)
noncomputable abbrev pq_7_104 : Nat × Nat := (7, 104)
noncomputable abbrev pq_7_106 : Nat × Nat := (7, 106)
noncomputable abbrev pq_7_107 : Nat × Nat := (7, 107)
noncomputable abbrev pq_7_108 : Nat × Nat := (7, 108)
noncomputable abbrev pq_7_109 : Nat × Nat := (7, 109)
noncomputable abbrev pq_7_110 : Nat × Nat := (7, 110)
noncomputable abbrev pq_7_111 : Nat × Nat := (7, 111)
noncomputable abbrev pq_7_112 : Nat × Nat := (7, 112)
noncomputable abbrev pq_7_113 : Nat × Nat := (7, 113)
noncomputable abbrev pq_7_114 : Nat × Nat := (7, 114)
noncomputable abbrev pq_7_115 : Nat × Nat := (7, 115)
noncomputable abbrev pq_7_116 : Nat × Nat := (7, 116)
noncomputable abbrev pq_7_117 : Nat × Nat := (7, 117)
noncomputable abbrev pq_7_118 : Nat × Nat := (7, 118)
noncomputable abbrev pq_7_119 : Nat × Nat := (7, 119)
noncomputable abbrev pq_7_120 : Nat × Nat := (7, 120)
noncomputable abbrev pq_7_121 : Nat × Nat := (7, 121)
noncomputable abbrev pq_7_122 : Nat × Nat := (7, 122)
noncomputable abbrev pq_7_123 : Nat × Nat := (7, 123)
noncomputable abbrev pq_7_124 : Nat × Nat := (7, 124)
noncomputable abbrev pq_7_125 : Nat × Nat := (7, 125)
noncomputable abbrev pq_7_126 : Nat × Nat := (7, 126)
noncomputable abbrev pq_7_127 : Nat × Nat := (7, 127)
noncomputable abbrev pq_7_128 : Nat × Nat := (7, 128)
noncomputable abbrev pq_7_129 : Nat × Nat := (7, 129)
noncomputable abbrev pq_7_130 : Nat × Nat := (7, 130)
noncomputable abbrev pq_7_131 : Nat × Nat := (7, 131)
noncomputable abbrev pq_7_132 : Nat × Nat := (7, 132)
noncomputable abbrev pq_7_133 : Nat × Nat := (7, 133)
noncomputable abbrev pq_7_134 : Nat × Nat := (7, 134)
noncomputable abbrev pq_7_135 : Nat × Nat := (7, 135)
noncomputable abbrev pq_7_136 : Nat × Nat := (7, 136)
noncomputable abbrev pq_7_137 : Nat × Nat := (7, 137)
noncomputable abbrev pq_7_138 : Nat × Nat := (7, 138)
noncomputable abbrev pq_7_139 : Nat × Nat := (7, 139)
noncomputable abbrev pq_7_140 : Nat × Nat := (7, 140)
noncomputable abbrev pq_7_141 : Nat × Nat := (7, 141)
noncomputable abbrev pq_7_142 : Nat × Nat := (7, 142)
noncomputable abbrev pq_7_143 : Nat × Nat := (7, 143)
noncomputable abbrev pq_7_144 : Nat × Nat := (7, 144)
noncomputable abbrev pq_7_145 : Nat × Nat := (7, 145)
noncomputable abbrev pq_7_146 : Nat × Nat := (7, 146)
noncomputable abbrev pq_7_147 : Nat × Nat := (7, 147)
noncomputable abbrev pq_7_148 : Nat × Nat := (7, 148)
noncomputable abbrev pq_7_149 : Nat × Nat := (7, 149)
noncomputable abbrev pq_7_150 : Nat × Nat := (7, 150)
noncomputable abbrev pq_7_151 : Nat × Nat := (7, 151)
noncomputable abbrev pq_7_152 : Nat × Nat := (7, 152)
noncomputable abbrev pq_7_153 : Nat × Nat := (7, 153)
noncomputable abbrev pq_7_155 : Nat × Nat := (7, 155)
noncomputable abbrev pq_7_156 : Nat × Nat := (7, 156)
noncomputable abbrev pq_7_157 : Nat × Nat := (7, 157)
noncomputable abbrev pq_7_158 : Nat × Nat := (7, 158)
noncomputable abbrev pq_7_159 : Nat × Nat := (7, 159)
noncomputable abbrev pq_7_160 : Nat × Nat := (7, 160)
noncomputable abbrev pq_7_161 : Nat × Nat := (7, 161)
noncomputable abbrev pq_7_162 : Nat × Nat := (7, 162)
noncomputable abbrev pq_7_163 : Nat × Nat := (7, 163)
noncomputable abbrev pq_7_164 : Nat × Nat := (7, 164)
noncomputable abbrev pq_7_165 : Nat × Nat := (7, 165)
noncomputable abbrev pq_7_166 : Nat × Nat := (7, 166)
noncomputable abbrev pq_7_167 : Nat × Nat := (7, 167)
noncomputable abbrev pq_7_168 : Nat × Nat := (7, 168)
noncomputable abbrev pq_7_169 : Nat × Nat := (7, 169)
noncomputable abbrev pq_7_170 : Nat × Nat := (7, 170)
noncomputable abbrev pq_7_171 : Nat × Nat := (7, 171)
noncomputable abbrev pq_7_172 : Nat × Nat := (7, 172)
noncomputable abbrev pq_7_173 : Nat × Nat := (7, 173)
noncomputable abbrev pq_7_174 : Nat × Nat := (7, 174)
noncomputable abbrev pq_7_175 : Nat × Nat := (7, 175)
noncomputable abbrev pq_7_176 : Nat × Nat := (7, 176)
noncomputable abbrev pq_7_177 : Nat × Nat := (7, 177)
noncomputable abbrev pq_7_178 : Nat × Nat := (7, 178)
noncomputable abbrev pq_7_179 : Nat × Nat := (7, 179)
noncomputable abbrev pq_7_180 : Nat × Nat := (7, 180)
noncomputable abbrev pq_7_181 : Nat × Nat := (7, 181)
noncomputable abbrev pq_7_182 : Nat × Nat := (7, 182)
noncomputable abbrev pq_7_183 : Nat × Nat := (7, 183)
noncomputable abbrev pq_7_184 : Nat × Nat := (7, 184)
noncomputable abbrev pq_7_185 : Nat × Nat := (7, 185)
noncomputable abbrev pq_7_186 : Nat × Nat := (7, 186)
noncomputable abbrev pq_7_187 : Nat × Nat := (7, 187)
noncomputable abbrev pq_7_188 : Nat × Nat := (7, 188)
noncomputable abbrev pq_7_189 : Nat × Nat := (7, 189)
noncomputable abbrev pq_7_190 : Nat × Nat := (7, 190)
noncomputable abbrev pq_7_191 : Nat × Nat := (7, 191)
noncomputable abbrev pq_7_192 : Nat × Nat := (7, 192)
noncomputable abbrev pq_7_193 : Nat × Nat := (7, 193)
noncomputable abbrev pq_7_194 : Nat × Nat := (7, 194)
noncomputable abbrev pq_7_195 : Nat × Nat := (7, 195)
noncomputable abbrev pq_7_196 : Nat × Nat := (7, 196)
noncomputable abbrev pq_7_197 : Nat × Nat := (7, 197)
noncomputable abbrev pq_7_198 : Nat × Nat := (7, 198)
noncomputable abbrev pq_7_199 : Nat × Nat := (7, 199)
noncomputable abbrev pq_7_200 : Nat × Nat := (7, 200)
noncomputable abbrev pq_7_201 : Nat × Nat := (7, 201)
noncomputable abbrev pq_7_202 : Nat × Nat := (7, 202)
noncomputable abbrev pq_7_203 : Nat × Nat := (7, 203)
noncomputable abbrev pq_7_204 : Nat × Nat := (7, 204)
noncomputable abbrev pq_7_205 : Nat × Nat := (7, 205)
noncomputable abbrev pq_7_206 : Nat × Nat := (7, 206)
noncomputable abbrev pq_7_207 : Nat × Nat := (7, 207)
noncomputable abbrev pq_7_208 : Nat × Nat := (7, 208)
noncomputable abbrev pq_7_209 : Nat × Nat := (7, 209)
noncomputable abbrev pq_7_210 : Nat × Nat := (7, 210)
noncomputable abbrev pq_7_211 : Nat × Nat := (7, 211)
noncomputable abbrev pq_7_212 : Nat × Nat := (7, 212)
noncomputable abbrev pq_7_213 : Nat × Nat := (7, 213)
noncomputable abbrev pq_7_214 : Nat × Nat := (7, 214)
noncomputable abbrev pq_7_215 : Nat × Nat := (7, 215)
noncomputable abbrev pq_7_216 : Nat × Nat := (7, 216)
noncomputable abbrev pq_7_217 : Nat × Nat := (7, 217)
noncomputable abbrev pq_7_218 : Nat × Nat := (7, 218)
noncomputable abbrev pq_7_219 : Nat × Nat := (7, 219)
noncomputable abbrev pq_7_220 : Nat × Nat := (7, 220)
noncomputable abbrev pq_7_221 : Nat × Nat := (7, 221)
noncomputable abbrev pq_7_222 : Nat × Nat := (7, 222)
noncomputable abbrev pq_7_223 : Nat × Nat := (7, 223)
noncomputable abbrev pq_7_224 : Nat × Nat := (7, 224)
noncomputable abbrev pq_7_225 : Nat × Nat := (7, 225)
noncomputable abbrev pq_7_226 : Nat × Nat := (7, 226)
noncomputable abbrev pq_7_227 : Nat × Nat := (7, 227)
noncomputable abbrev pq_7_228 : Nat × Nat := (7, 228)
noncomputable abbrev pq_7_229 : Nat × Nat := (7, 229)
noncomputable abbrev pq_7_230 : Nat × Nat := (7, 230)
noncomputable abbrev pq_7_231 : Nat × Nat := (7, 231)
noncomputable abbrev pq_7_232 : Nat × Nat := (7, 232)
noncomputable abbrev pq_7_233 : Nat × Nat := (7, 233)
noncomputable abbrev pq_7_234 : Nat × Nat := (7, 234)
noncomputable abbrev pq_7_235 : Nat × Nat := (7, 235)
noncomputable abbrev pq_7_236 : Nat × Nat := (7, 236)
noncomputable abbrev pq_7_237 : Nat × Nat := (7, 237)
noncomputable abbrev pq_7_238 : Nat × Nat := (7, 238)
noncomputable abbrev pq_7_239 : Nat × Nat := (7, 239)
noncomputable abbrev pq_8_0 : Nat × Nat := (8, 0)
noncomputable abbrev pq_8_1 : Nat × Nat := (8, 1)
noncomputable abbrev pq_8_2 : Nat × Nat := (8, 2)
noncomputable abbrev pq_8_3 : Nat × Nat := (8, 3)
noncomputable abbrev pq_8_4 : Nat × Nat := (8, 4)
noncomputable abbrev pq_8_5 : Nat × Nat := (8, 5)
noncomputable abbrev pq_8_6 : Nat × Nat := (8, 6)
noncomputable abbrev pq_8_7 : Nat × Nat := (8, 7)
noncomputable abbrev pq_8_8 : Nat × Nat := (8, 8)
noncomputable abbrev pq_8_9 : Nat × Nat := (8, 9)
noncomputable abbrev pq_8_10 : Nat × Nat := (8, 10)
noncomputable abbrev pq_8_11 : Nat × Nat := (8, 11)
noncomputable abbrev pq_8_12 : Nat × Nat := (8, 12)
noncomputable abbrev pq_8_13 : Nat × Nat := (8, 13)
noncomputable abbrev pq_8_14 : Nat × Nat := (8, 14)
noncomputable abbrev pq_8_15 : Nat × Nat := (8, 15)
noncomputable abbrev pq_8_16 : Nat × Nat := (8, 16)
noncomputable abbrev pq_8_17 : Nat × Nat := (8, 17)
noncomputable abbrev pq_8_18 : Nat × Nat := (8, 18)
noncomputable abbrev pq_8_19 : Nat × Nat := (8, 19)
noncomputable abbrev pq_8_20 : Nat × Nat := (8, 20)
noncomputable abbrev pq_8_21 : Nat × Nat := (8, 21)
noncomputable abbrev pq_8_22 : Nat × Nat := (8, 22)
noncomputable abbrev pq_8_23 : Nat × Nat := (8, 23)
noncomputable abbrev pq_8_24 : Nat × Nat := (8, 24)
noncomputable abbrev pq_8_25 : Nat × Nat := (8, 25)
noncomputable abbrev pq_8_26 : Nat × Nat := (8, 26)
noncomputable abbrev pq_8_27 : Nat × Nat := (8, 27)
noncomputable abbrev pq_8_28 : Nat × Nat := (8, 28)
noncomputable abbrev pq_8_29 : Nat × Nat := (8, 29)
noncomputable abbrev pq_8_30 : Nat × Nat := (8, 30)
noncomputable abbrev pq_8_31 : Nat × Nat := (8, 31)
noncomputable abbrev pq_8_32 : Nat × Nat := (8, 32)
noncomputable abbrev pq_8_33 : Nat × Nat := (8, 33)
noncomputable abbrev pq_8_34 : Nat × Nat := (8, 34)
noncomputable abbrev pq_8_35 : Nat × Nat := (8, 35)
noncomputable abbrev pq_8_36 : Nat × Nat := (8, 36)
noncomputable abbrev pq_8_37 : Nat × Nat := (8, 37)
noncomputable abbrev pq_8_38 : Nat × Nat := (8, 38)
noncomputable abbrev pq_8_39 : Nat × Nat := (8, 39)
noncomputable abbrev pq_8_40 : Nat × Nat := (8, 40)
noncomputable abbrev pq_8_41 : Nat × Nat := (8, 41)
noncomputable abbrev pq_8_42 : Nat × Nat := (8, 42)
noncomputable abbrev pq_8_43 : Nat × Nat := (8, 43)
noncomputable abbrev pq_8_44 : Nat × Nat := (8, 44)
noncomputable abbrev pq_8_45 : Nat × Nat := (8, 45)
noncomputable abbrev pq_8_46 : Nat × Nat := (8, 46)
noncomputable abbrev pq_8_47 : Nat × Nat := (8, 47)
noncomputable abbrev pq_8_48 : Nat × Nat := (8, 48)
noncomputable abbrev pq_8_49 : Nat × Nat := (8, 49)
noncomputable abbrev pq_8_50 : Nat × Nat := (8, 50)
noncomputable abbrev pq_8_51 : Nat × Nat := (8, 51)
noncomputable abbrev pq_8_52 : Nat × Nat := (8, 52)
noncomputable abbrev pq_8_53 : Nat × Nat := (8, 53)
noncomputable abbrev pq_8_54 : Nat × Nat := (8, 54)
noncomputable abbrev pq_8_55 : Nat × Nat := (8, 55)
noncomputable abbrev pq_8_56 : Nat × Nat := (8, 56)
noncomputable abbrev pq_8_57 : Nat × Nat := (8, 57)
noncomputable abbrev pq_8_58 : Nat × Nat := (8, 58)
noncomputable abbrev pq_8_59 : Nat × Nat := (8, 59)
noncomputable abbrev pq_8_60 : Nat × Nat := (8, 60)
noncomputable abbrev pq_8_61 : Nat × Nat := (8, 61)
noncomputable abbrev pq_8_62 : Nat × Nat := (8, 62)
noncomputable abbrev pq_8_63 : Nat × Nat := (8, 63)
noncomputable abbrev pq_8_64 : Nat × Nat := (8, 64)
noncomputable abbrev pq_8_65 : Nat × Nat := (8, 65)
noncomputable abbrev pq_8_66 : Nat × Nat := (8, 66)
noncomputable abbrev pq_8_67 : Nat × Nat := (8, 67)
noncomputable abbrev pq_8_69 : Nat × Nat := (8, 69)
noncomputable abbrev pq_8_70 : Nat × Nat := (8, 70)
noncomputable abbrev pq_8_71 : Nat × Nat := (8, 71)
noncomputable abbrev pq_8_72 : Nat × Nat := (8, 72)
noncomputable abbrev pq_8_73 : Nat × Nat := (8, 73)
noncomputable abbrev pq_8_74 : Nat × Nat := (8, 74)
noncomputable abbrev pq_8_75 : Nat × Nat := (8, 75)
noncomputable abbrev pq_8_76 : Nat × Nat := (8, 76)
noncomputable abbrev pq_8_77 : Nat × Nat := (8, 77)
noncomputable abbrev pq_8_78 : Nat × Nat := (8, 78)
noncomputable abbrev pq_8_79 : Nat × Nat := (8, 79)
noncomputable abbrev pq_8_80 : Nat × Nat := (8, 80)
noncomputable abbrev pq_8_81 : Nat × Nat := (8, 81)
noncomputable abbrev pq_8_82 : Nat × Nat := (8, 82)
noncomputable abbrev pq_8_83 : Nat × Nat := (8, 83)
noncomputable abbrev pq_8_85 : Nat × Nat := (8, 85)
noncomputable abbrev pq_8_90 : Nat × Nat := (8, 90)
noncomputable abbrev pq_8_91 : Nat × Nat := (8, 91)
noncomputable abbrev pq_9_0 : Nat × Nat := (9, 0)
noncomputable abbrev pq_9_1 : Nat × Nat := (9, 1)
noncomputable abbrev pq_9_2 : Nat × Nat := (9, 2)
noncomputable abbrev pq_9_3 : Nat × Nat := (9, 3)
noncomputable abbrev pq_9_4 : Nat × Nat := (9, 4)
noncomputable abbrev pq_9_5 : Nat × Nat := (9, 5)
noncomputable abbrev pq_9_6 : Nat × Nat := (9, 6)
noncomputable abbrev pq_9_7 : Nat × Nat := (9, 7)
noncomputable abbrev pq_9_8 : Nat × Nat := (9, 8)
noncomputable abbrev pq_9_9 : Nat × Nat := (9, 9)
noncomputable abbrev pq_9_10 : Nat × Nat := (9, 10)
noncomputable abbrev pq_9_11 : Nat × Nat := (9, 11)
noncomputable abbrev pq_9_12 : Nat × Nat := (9, 12)
noncomputable abbrev pq_9_13 : Nat × Nat := (9, 13)
noncomputable abbrev pq_9_14 : Nat × Nat := (9, 14)
noncomputable abbrev pq_9_15 : Nat × Nat := (9, 15)
noncomputable abbrev pq_9_16 : Nat × Nat := (9, 16)
noncomputable abbrev pq_9_17 : Nat × Nat := (9, 17)
noncomputable abbrev pq_9_18 : Nat × Nat := (9, 18)
noncomputable abbrev pq_9_19 : Nat × Nat := (9, 19)
noncomputable abbrev pq_9_20 : Nat × Nat := (9, 20)
noncomputable abbrev pq_9_21 : Nat × Nat := (9, 21)
noncomputable abbrev pq_9_22 : Nat × Nat := (9, 22)
noncomputable abbrev pq_9_23 : Nat × Nat := (9, 23)
noncomputable abbrev pq_10_0 : Nat × Nat := (10, 0)
noncomputable abbrev pq_10_1 : Nat × Nat := (10, 1)
noncomputable abbrev pq_10_2 : Nat × Nat := (10, 2)
noncomputable abbrev pq_10_3 : Nat × Nat := (10, 3)
noncomputable abbrev pq_10_4 : Nat × Nat := (10, 4)
noncomputable abbrev pq_10_5 : Nat × Nat := (10, 5)
noncomputable abbrev pq_10_6 : Nat × Nat := (10, 6)
noncomputable abbrev pq_10_7 : Nat × Nat := (10, 7)
noncomputable abbrev pq_10_8 : Nat × Nat := (10, 8)
noncomputable abbrev pq_10_9 : Nat × Nat := (10, 9)
noncomputable abbrev pq_10_10 : Nat × Nat := (10, 10)
noncomputable abbrev pq_10_11 : Nat × Nat := (10, 11)
noncomputable abbrev pq_10_12 : Nat × Nat := (10, 12)
noncomputable abbrev pq_10_13 : Nat × Nat := (10, 13)
noncomputable abbrev pq_10_14 : Nat × Nat := (10, 14)
noncomputable abbrev pq_10_15 : Nat × Nat := (10, 15)
noncomputable abbrev pq_10_16 : Nat × Nat := (10, 16)
noncomputable abbrev pq_10_17 : Nat × Nat := (10, 17)
noncomputable abbrev pq_10_18 : Nat × Nat := (10, 18)
noncomputable abbrev pq_10_19 : Nat × Nat := (10, 19)
noncomputable abbrev pq_10_20 : Nat × Nat := (10, 20)
noncomputable abbrev pq_10_21 : Nat × Nat := (10, 21)
noncomputable abbrev pq_10_22 : Nat × Nat := (10, 22)
noncomputable abbrev pq_10_23 : Nat × Nat := (10, 23)
noncomputable abbrev pq_11_0 : Nat × Nat := (11, 0)
noncomputable abbrev pq_11_1 : Nat × Nat := (11, 1)
noncomputable abbrev pq_11_2 : Nat × Nat := (11, 2)
noncomputable abbrev pq_11_3 : Nat × Nat := (11, 3)
noncomputable abbrev pq_11_4 : Nat × Nat := (11, 4)
noncomputable abbrev pq_11_5 : Nat × Nat := (11, 5)
noncomputable abbrev pq_11_6 : Nat × Nat := (11, 6)
noncomputable abbrev pq_11_7 : Nat × Nat := (11, 7)
noncomputable abbrev pq_11_8 : Nat × Nat := (11, 8)
noncomputable abbrev pq_11_9 : Nat × Nat := (11, 9)
noncomputable abbrev pq_11_10 : Nat × Nat := (11, 10)
noncomputable abbrev pq_11_11 : Nat × Nat := (11, 11)
noncomputable abbrev pq_11_12 : Nat × Nat := (11, 12)
noncomputable abbrev pq_11_13 : Nat × Nat := (11, 13)
noncomputable abbrev pq_11_14 : Nat × Nat := (11, 14)
noncomputable abbrev pq_11_15 : Nat × Nat := (11, 15)
noncomputable abbrev pq_11_16 : Nat × Nat := (11, 16)
noncomputable abbrev pq_11_17 : Nat × Nat := (11, 17)
noncomputable abbrev pq_11_18 : Nat × Nat := (11, 18)
noncomputable abbrev pq_11_19 : Nat × Nat := (11, 19)
noncomputable abbrev pq_11_20 : Nat × Nat := (11, 20)
noncomputable abbrev pq_11_21 : Nat × Nat := (11, 21)
noncomputable abbrev pq_11_22 : Nat × Nat := (11, 22)
noncomputable abbrev pq_11_23 : Nat × Nat := (11, 23)
noncomputable abbrev pq_12_0 : Nat × Nat := (12, 0)
noncomputable abbrev pq_12_1 : Nat × Nat := (12, 1)
noncomputable abbrev pq_12_2 : Nat × Nat := (12, 2)
noncomputable abbrev pq_12_3 : Nat × Nat := (12, 3)
noncomputable abbrev pq_12_4 : Nat × Nat := (12, 4)
noncomputable abbrev pq_12_5 : Nat × Nat := (12, 5)
noncomputable abbrev pq_12_6 : Nat × Nat := (12, 6)
noncomputable abbrev pq_12_7 : Nat × Nat := (12, 7)
noncomputable abbrev pq_12_8 : Nat × Nat := (12, 8)
noncomputable abbrev pq_12_9 : Nat × Nat := (12, 9)
noncomputable abbrev pq_12_10 : Nat × Nat := (12, 10)
noncomputable abbrev pq_12_11 : Nat × Nat := (12, 11)
noncomputable abbrev pq_12_12 : Nat × Nat := (12, 12)
noncomputable abbrev pq_12_13 : Nat × Nat := (12, 13)
noncomputable abbrev pq_12_14 : Nat × Nat := (12, 14)
noncomputable abbrev pq_12_15 : Nat × Nat := (12, 15)
noncomputable abbrev pq_12_16 : Nat × Nat := (12, 16)
noncomputable abbrev pq_12_17 : Nat × Nat := (12, 17)
noncomputable abbrev pq_12_18 : Nat × Nat := (12, 18)
noncomputable abbrev pq_12_19 : Nat × Nat := (12, 19)
noncomputable abbrev pq_12_20 : Nat × Nat := (12, 20)
noncomputable abbrev pq_12_21 : Nat × Nat := (12, 21)
noncomputable abbrev pq_12_22 : Nat × Nat := (12, 22)
noncomputable abbrev pq_12_23 : Nat × Nat := (12, 23)
noncomputable abbrev pq_13_0 : Nat × Nat := (13, 0)
noncomputable abbrev pq_13_1 : Nat × Nat := (13, 1)
noncomputable abbrev pq_13_2 : Nat × Nat := (13, 2)
noncomputable abbrev pq_13_3 : Nat × Nat := (13, 3)
noncomputable abbrev pq_13_4 : Nat × Nat := (13, 4)
noncomputable abbrev pq_13_5 : Nat × Nat := (13, 5)
noncomputable abbrev pq_13_6 : Nat × Nat := (13, 6)
noncomputable abbrev pq_13_7 : Nat × Nat := (13, 7)
noncomputable abbrev pq_13_8 : Nat × Nat := (13, 8)
noncomputable abbrev pq_13_9 : Nat × Nat := (13, 9)
noncomputable abbrev pq_13_10 : Nat × Nat := (13, 10)
noncomputable abbrev pq_13_11 : Nat × Nat := (13, 11)
noncomputable abbrev pq_13_12 : Nat × Nat := (13, 12)
noncomputable abbrev pq_13_13 : Nat × Nat := (13, 13)
noncomputable abbrev pq_13_14 : Nat × Nat := (13, 14)
noncomputable abbrev pq_13_15 : Nat × Nat := (13, 15)
noncomputable abbrev pq_13_16 : Nat × Nat := (13, 16)
noncomputable abbrev pq_13_17 : Nat × Nat := (13, 17)
noncomputable abbrev pq_13_18 : Nat × Nat := (13, 18)
noncomputable abbrev pq_13_19 : Nat × Nat := (13, 19)
noncomputable abbrev pq_13_20 : Nat × Nat := (13, 20)
noncomputable abbrev pq_13_21 : Nat × Nat := (13, 21)
noncomputable abbrev pq_13_22 : Nat × Nat := (13, 22)
noncomputable abbrev pq_13_23 : Nat × Nat := (13, 23)
noncomputable abbrev pq_14_0 : Nat × Nat := (14, 0)
noncomputable abbrev pq_14_1 : Nat × Nat := (14, 1)
noncomputable abbrev pq_14_2 : Nat × Nat := (14, 2)
noncomputable abbrev pq_14_3 : Nat × Nat := (14, 3)
noncomputable abbrev pq_14_4 : Nat × Nat := (14, 4)
noncomputable abbrev pq_14_5 : Nat × Nat := (14, 5)
noncomputable abbrev pq_14_6 : Nat × Nat := (14, 6)
noncomputable abbrev pq_14_7 : Nat × Nat := (14, 7)
noncomputable abbrev pq_14_8 : Nat × Nat := (14, 8)
noncomputable abbrev pq_14_9 : Nat × Nat := (14, 9)
noncomputable abbrev pq_14_10 : Nat × Nat := (14, 10)
noncomputable abbrev pq_14_11 : Nat × Nat := (14, 11)
noncomputable abbrev pq_14_12 : Nat × Nat := (14, 12)
noncomputable abbrev pq_14_13 : Nat × Nat := (14, 13)
noncomputable abbrev pq_14_14 : Nat × Nat := (14, 14)
noncomputable abbrev pq_14_15 : Nat × Nat := (14, 15)
noncomputable abbrev pq_14_16 : Nat × Nat := (14, 16)
noncomputable abbrev pq_14_17 : Nat × Nat := (14, 17)
noncomputable abbrev pq_14_18 : Nat × Nat := (14, 18)
noncomputable abbrev pq_14_19 : Nat × Nat := (14, 19)
noncomputable abbrev pq_14_20 : Nat × Nat := (14, 20)
noncomputable abbrev pq_14_21 : Nat × Nat := (14, 21)
noncomputable abbrev pq_14_22 : Nat × Nat := (14, 22)
noncomputable abbrev pq_14_23 : Nat × Nat := (14, 23)
noncomputable abbrev pq_15_0 : Nat × Nat := (15, 0)
noncomputable abbrev pq_15_1 : Nat × Nat := (15, 1)
noncomputable abbrev pq_15_2 : Nat × Nat := (15, 2)
noncomputable abbrev pq_15_3 : Nat × Nat := (15, 3)
noncomputable abbrev pq_15_4 : Nat × Nat := (15, 4)
noncomputable abbrev pq_15_5 : Nat × Nat := (15, 5)
noncomputable abbrev pq_15_6 : Nat × Nat := (15, 6)
noncomputable abbrev pq_15_7 : Nat × Nat := (15, 7)
noncomputable abbrev pq_15_8 : Nat × Nat := (15, 8)
noncomputable abbrev pq_15_9 : Nat × Nat := (15, 9)
noncomputable abbrev pq_15_10 : Nat × Nat := (15, 10)
noncomputable abbrev pq_15_11 : Nat × Nat := (15, 11)
noncomputable abbrev pq_15_12 : Nat × Nat := (15, 12)
noncomputable abbrev pq_15_13 : Nat × Nat := (15, 13)
noncomputable abbrev pq_15_14 : Nat × Nat := (15, 14)
noncomputable abbrev pq_15_15 : Nat × Nat := (15, 15)
noncomputable abbrev pq_15_16 : Nat × Nat := (15, 16)
noncomputable abbrev pq_15_17 : Nat × Nat := (15, 17)
noncomputable abbrev pq_15_18 : Nat × Nat := (15, 18)
noncomputable abbrev pq_15_19 : Nat × Nat := (15, 19)
noncomputable abbrev pq_15_20 : Nat × Nat := (15, 20)
noncomputable abbrev pq_15_21 : Nat × Nat := (15, 21)
noncomputable abbrev pq_15_22 : Nat × Nat := (15, 22)
noncomputable abbrev pq_15_23 : Nat × Nat := (15, 23)
noncomputable abbrev pq_16_0 : Nat × Nat := (16, 0)
noncomputable abbrev pq_16_1 : Nat × Nat := (16, 1)
noncomputable abbrev pq_16_2 : Nat × Nat := (16, 2)
noncomputable abbrev pq_16_3 : Nat × Nat := (16, 3)
noncomputable abbrev pq_16_4 : Nat × Nat := (16, 4)
noncomputable abbrev pq_16_5 : Nat × Nat := (16, 5)
noncomputable abbrev pq_16_6 : Nat × Nat := (16, 6)
noncomputable abbrev pq_16_7 : Nat × Nat := (16, 7)
noncomputable abbrev pq_16_8 : Nat × Nat := (16, 8)
noncomputable abbrev pq_16_9 : Nat × Nat := (16, 9)
noncomputable abbrev pq_16_10 : Nat × Nat := (16, 10)
noncomputable abbrev pq_16_11 : Nat × Nat := (16, 11)
noncomputable abbrev pq_16_12 : Nat × Nat := (16, 12)
noncomputable abbrev pq_16_13 : Nat × Nat := (16, 13)
noncomputable abbrev pq_16_14 : Nat × Nat := (16, 14)
noncomputable abbrev pq_16_15 : Nat × Nat := (16, 15)
noncomputable abbrev pq_16_16 : Nat × Nat := (16, 16)
noncomputable abbrev pq_16_17 : Nat × Nat := (16, 17)
noncomputable abbrev pq_16_18 : Nat × Nat := (16, 18)
noncomputable abbrev pq_16_19 : Nat × Nat := (16, 19)
noncomputable abbrev pq_16_20 : Nat × Nat := (16, 20)
noncomputable abbrev pq_16_21 : Nat × Nat := (16, 21)
noncomputable abbrev pq_16_22 : Nat × Nat := (16, 22)
noncomputable abbrev pq_16_23 : Nat × Nat := (16, 23)
noncomputable abbrev pq_17_0 : Nat × Nat := (17, 0)
noncomputable abbrev pq_17_1 : Nat × Nat := (17, 1)
noncomputable abbrev pq_17_2 : Nat × Nat := (17, 2)
noncomputable abbrev pq_17_3 : Nat × Nat := (17, 3)
noncomputable abbrev pq_17_4 : Nat × Nat := (17, 4)
noncomputable abbrev pq_17_5 : Nat × Nat := (17, 5)
noncomputable abbrev pq_17_6 : Nat × Nat := (17, 6)
noncomputable abbrev pq_17_7 : Nat × Nat := (17, 7)
noncomputable abbrev pq_17_8 : Nat × Nat := (17, 8)
noncomputable abbrev pq_17_9 : Nat × Nat := (17, 9)
noncomputable abbrev pq_17_10 : Nat × Nat := (17, 10)
noncomputable abbrev pq_17_11 : Nat × Nat := (17, 11)
noncomputable abbrev pq_17_12 : Nat × Nat := (17, 12)
noncomputable abbrev pq_17_13 : Nat × Nat := (17, 13)
noncomputable abbrev pq_17_14 : Nat × Nat := (17, 14)
noncomputable abbrev pq_17_15 : Nat × Nat := (17, 15)
noncomputable abbrev pq_17_16 : Nat × Nat := (17, 16)
noncomputable abbrev pq_17_17 : Nat × Nat := (17, 17)
noncomputable abbrev pq_17_18 : Nat × Nat := (17, 18)
noncomputable abbrev pq_17_19 : Nat × Nat := (17, 19)
noncomputable abbrev pq_17_20 : Nat × Nat := (17, 20)
noncomputable abbrev pq_17_21 : Nat × Nat := (17, 21)
noncomputable abbrev pq_17_22 : Nat × Nat := (17, 22)
noncomputable abbrev pq_17_23 : Nat × Nat := (17, 23)
noncomputable abbrev pq_18_0 : Nat × Nat := (18, 0)
noncomputable abbrev pq_18_1 : Nat × Nat := (18, 1)
noncomputable abbrev pq_18_2 : Nat × Nat := (18, 2)
noncomputable abbrev pq_18_3 : Nat × Nat := (18, 3)
noncomputable abbrev pq_18_4 : Nat × Nat := (18, 4)
noncomputable abbrev pq_18_5 : Nat × Nat := (18, 5)
noncomputable abbrev pq_18_6 : Nat × Nat := (18, 6)
noncomputable abbrev pq_18_7 : Nat × Nat := (18, 7)
noncomputable abbrev pq_18_8 : Nat × Nat := (18, 8)
noncomputable abbrev pq_18_9 : Nat × Nat := (18, 9)
noncomputable abbrev pq_18_10 : Nat × Nat := (18, 10)
noncomputable abbrev pq_18_11 : Nat × Nat := (18, 11)
noncomputable abbrev pq_18_12 : Nat × Nat := (18, 12)
noncomputable abbrev pq_18_13 : Nat × Nat := (18, 13)
noncomputable abbrev pq_18_14 : Nat × Nat := (18, 14)
noncomputable abbrev pq_18_15 : Nat × Nat := (18, 15)
noncomputable abbrev pq_18_16 : Nat × Nat := (18, 16)
noncomputable abbrev pq_18_17 : Nat × Nat := (18, 17)
noncomputable abbrev pq_18_18 : Nat × Nat := (18, 18)
noncomputable abbrev pq_18_19 : Nat × Nat := (18, 19)
noncomputable abbrev pq_18_20 : Nat × Nat := (18, 20)
noncomputable abbrev pq_18_21 : Nat × Nat := (18, 21)
noncomputable abbrev pq_18_22 : Nat × Nat := (18, 22)
noncomputable abbrev pq_18_23 : Nat × Nat := (18, 23)
noncomputable abbrev pq_19_0 : Nat × Nat := (19, 0)
noncomputable abbrev pq_19_1 : Nat × Nat := (19, 1)
noncomputable abbrev pq_19_2 : Nat × Nat := (19, 2)
noncomputable abbrev pq_19_3 : Nat × Nat := (19, 3)
noncomputable abbrev pq_19_4 : Nat × Nat := (19, 4)
noncomputable abbrev pq_19_5 : Nat × Nat := (19, 5)
noncomputable abbrev pq_19_6 : Nat × Nat := (19, 6)
noncomputable abbrev pq_19_7 : Nat × Nat := (19, 7)
noncomputable abbrev pq_19_8 : Nat × Nat := (19, 8)
noncomputable abbrev pq_19_9 : Nat × Nat := (19, 9)
noncomputable abbrev pq_19_10 : Nat × Nat := (19, 10)
noncomputable abbrev pq_19_11 : Nat × Nat := (19, 11)
noncomputable abbrev pq_19_12 : Nat × Nat := (19, 12)
noncomputable abbrev pq_19_13 : Nat × Nat := (19, 13)
noncomputable abbrev pq_19_14 : Nat × Nat := (19, 14)
noncomputable abbrev pq_19_15 : Nat × Nat := (19, 15)
noncomputable abbrev pq_19_16 : Nat × Nat := (19, 16)
noncomputable abbrev pq_19_17 : Nat × Nat := (19, 17)
noncomputable abbrev pq_19_18 : Nat × Nat := (19, 18)
noncomputable abbrev pq_19_19 : Nat × Nat := (19, 19)
noncomputable abbrev pq_19_20 : Nat × Nat := (19, 20)
noncomputable abbrev pq_19_21 : Nat × Nat := (19, 21)
noncomputable abbrev pq_19_22 : Nat × Nat := (19, 22)
noncomputable abbrev pq_19_23 : Nat × Nat := (19, 23)
noncomputable abbrev pq_20_0 : Nat × Nat := (20, 0)
noncomputable abbrev pq_20_1 : Nat × Nat := (20, 1)
noncomputable abbrev pq_20_2 : Nat × Nat := (20, 2)
noncomputable abbrev pq_20_3 : Nat × Nat := (20, 3)
noncomputable abbrev pq_20_4 : Nat × Nat := (20, 4)
noncomputable abbrev pq_20_5 : Nat × Nat := (20, 5)
noncomputable abbrev pq_20_6 : Nat × Nat := (20, 6)
noncomputable abbrev pq_20_7 : Nat × Nat := (20, 7)
noncomputable abbrev pq_20_8 : Nat × Nat := (20, 8)
noncomputable abbrev pq_20_9 : Nat × Nat := (20, 9)
noncomputable abbrev pq_20_10 : Nat × Nat := (20, 10)
noncomputable abbrev pq_20_11 : Nat × Nat := (20, 11)
noncomputable abbrev pq_20_12 : Nat × Nat := (20, 12)
noncomputable abbrev pq_20_13 : Nat × Nat := (20, 13)
noncomputable abbrev pq_20_14 : Nat × Nat := (20, 14)
noncomputable abbrev pq_20_15 : Nat × Nat := (20, 15)
noncomputable abbrev pq_20_16 : Nat × Nat := (20, 16)
noncomputable abbrev pq_20_17 : Nat × Nat := (20, 17)
noncomputable abbrev pq_20_18 : Nat × Nat := (20, 18)
noncomputable abbrev pq_20_19 : Nat × Nat := (20, 19)
noncomputable abbrev pq_20_20 : Nat × Nat := (20, 20)
noncomputable abbrev pq_20_21 : Nat × Nat := (20, 21)
noncomputable abbrev pq_20_22 : Nat × Nat := (20, 22)
noncomputable abbrev pq_20_23 : Nat × Nat := (20, 23)
noncomputable abbrev pq_21_0 : Nat × Nat := (21, 0)
noncomputable abbrev pq_21_1 : Nat × Nat := (21, 1)
noncomputable abbrev pq_21_2 : Nat × Nat := (21, 2)
noncomputable abbrev pq_21_3 : Nat × Nat := (21, 3)
noncomputable abbrev pq_21_4 : Nat × Nat := (21, 4)
noncomputable abbrev pq_21_5 : Nat × Nat := (21, 5)
noncomputable abbrev pq_21_6 : Nat × Nat := (21, 6)
noncomputable abbrev pq_21_7 : Nat × Nat := (21, 7)
noncomputable abbrev pq_21_8 : Nat × Nat := (21, 8)
noncomputable abbrev pq_21_9 : Nat × Nat := (21, 9)
noncomputable abbrev pq_21_10 : Nat × Nat := (21, 10)
noncomputable abbrev pq_21_11 : Nat × Nat := (21, 11)
noncomputable abbrev pq_21_12 : Nat × Nat := (21, 12)
noncomputable abbrev pq_21_13 : Nat × Nat := (21, 13)
noncomputable abbrev pq_21_14 : Nat × Nat := (21, 14)
noncomputable abbrev pq_21_15 : Nat × Nat := (21, 15)
noncomputable abbrev pq_21_16 : Nat × Nat := (21, 16)
noncomputable abbrev pq_21_17 : Nat × Nat := (21, 17)
noncomputable abbrev pq_21_18 : Nat × Nat := (21, 18)
noncomputable abbrev pq_21_19 : Nat × Nat := (21, 19)
noncomputable abbrev pq_21_20 : Nat × Nat := (21, 20)
noncomputable abbrev pq_21_21 : Nat × Nat := (21, 21)
noncomputable abbrev pq_21_22 : Nat × Nat := (21, 22)
noncomputable abbrev pq_21_23 : Nat × Nat := (21, 23)
noncomputable abbrev pq_22_0 : Nat × Nat := (22, 0)
noncomputable abbrev pq_22_1 : Nat × Nat := (22, 1)
noncomputable abbrev pq_22_2 : Nat × Nat := (22, 2)
noncomputable abbrev pq_22_3 : Nat × Nat := (22, 3)
noncomputable abbrev pq_22_4 : Nat × Nat := (22, 4)
noncomputable abbrev pq_22_5 : Nat × Nat := (22, 5)
noncomputable abbrev pq_22_6 : Nat × Nat := (22, 6)
noncomputable abbrev pq_22_7 : Nat × Nat := (22, 7)
noncomputable abbrev pq_22_8 : Nat × Nat := (22, 8)
noncomputable abbrev pq_22_9 : Nat × Nat := (22, 9)
noncomputable abbrev pq_22_10 : Nat × Nat := (22, 10)
noncomputable abbrev pq_22_11 : Nat × Nat := (22, 11)
noncomputable abbrev pq_22_12 : Nat × Nat := (22, 12)
noncomputable abbrev pq_22_13 : Nat × Nat := (22, 13)
noncomputable abbrev pq_22_14 : Nat × Nat := (22, 14)
noncomputable abbrev pq_22_15 : Nat × Nat := (22, 15)
noncomputable abbrev pq_22_16 : Nat × Nat := (22, 16)
noncomputable abbrev pq_22_17 : Nat × Nat := (22, 17)
noncomputable abbrev pq_22_18 : Nat × Nat := (22, 18)
noncomputable abbrev pq_22_19 : Nat × Nat := (22, 19)
noncomputable abbrev pq_22_20 : Nat × Nat := (22, 20)
noncomputable abbrev pq_22_21 : Nat × Nat := (22, 21)
noncomputable abbrev pq_22_22 : Nat × Nat := (22, 22)
noncomputable abbrev pq_22_23 : Nat × Nat := (22, 23)
noncomputable abbrev pq_23_0 : Nat × Nat := (23, 0)
noncomputable abbrev pq_23_1 : Nat × Nat := (23, 1)
noncomputable abbrev pq_23_2 : Nat × Nat := (23, 2)
noncomputable abbrev pq_23_3 : Nat × Nat := (23, 3)
noncomputable abbrev pq_23_4 : Nat × Nat := (23, 4)
noncomputable abbrev pq_23_5 : Nat × Nat := (23, 5)
noncomputable abbrev pq_23_6 : Nat × Nat := (23, 6)
noncomputable abbrev pq_23_7 : Nat × Nat := (23, 7)
noncomputable abbrev pq_23_8 : Nat × Nat := (23, 8)
noncomputable abbrev pq_23_9 : Nat × Nat := (23, 9)
noncomputable abbrev pq_23_10 : Nat × Nat := (23, 10)
noncomputable abbrev pq_23_11 : Nat × Nat := (23, 11)
noncomputable abbrev pq_23_12 : Nat × Nat := (23, 12)
noncomputable abbrev pq_23_13 : Nat × Nat := (23, 13)
noncomputable abbrev pq_23_14 : Nat × Nat := (23, 14)
noncomputable abbrev pq_23_15 : Nat × Nat := (23, 15)
noncomputable abbrev pq_23_16 : Nat × Nat := (23, 16)
noncomputable abbrev pq_23_17 : Nat × Nat := (23, 17)
noncomputable abbrev pq_23_18 : Nat × Nat := (23, 18)
noncomputable abbrev pq_23_19 : Nat × Nat := (23, 19)
noncomputable abbrev pq_23_20 : Nat × Nat := (23, 20)
noncomputable abbrev pq_23_21 : Nat × Nat := (23, 21)
noncomputable abbrev pq_23_22 : Nat × Nat := (23, 22)
noncomputable abbrev pq_23_23 : Nat × Nat := (23, 23)
noncomputable abbrev pq_24_0 : Nat × Nat := (24, 0)
noncomputable abbrev pq_24_1 : Nat × Nat := (24, 1)
noncomputable abbrev pq_24_2 : Nat × Nat := (24, 2)
noncomputable abbrev pq_24_3 : Nat × Nat := (24, 3)
noncomputable abbrev pq_24_4 : Nat × Nat := (24, 4)
noncomputable abbrev pq_24_5 : Nat × Nat := (24, 5)
noncomputable abbrev pq_24_6 : Nat × Nat := (24, 6)
noncomputable abbrev pq_24_7 : Nat × Nat := (24, 7)
noncomputable abbrev pq_24_8 : Nat × Nat := (24, 8)
noncomputable abbrev pq_24_9 : Nat × Nat := (24, 9)
noncomputable abbrev pq_24_10 : Nat × Nat := (24, 10)
noncomputable abbrev pq_24_11 : Nat × Nat := (24, 11)
noncomputable abbrev pq_24_12 : Nat × Nat := (24, 12)
noncomputable abbrev pq_24_13 : Nat × Nat := (24, 13)
noncomputable abbrev pq_24_14 : Nat × Nat := (24, 14)
noncomputable abbrev pq_24_15 : Nat × Nat := (24, 15)
noncomputable abbrev pq_24_16 : Nat × Nat := (24, 16)
noncomputable abbrev pq_24_17 : Nat × Nat := (24, 17)
noncomputable abbrev pq_24_18 : Nat × Nat := (24, 18)
noncomputable abbrev pq_24_19 : Nat × Nat := (24, 19)
noncomputable abbrev pq_24_20 : Nat × Nat := (24, 20)
noncomputable abbrev pq_24_21 : Nat × Nat := (24, 21)
noncomputable abbrev pq_24_22 : Nat × Nat := (24, 22)
noncomputable abbrev pq_24_23 : Nat × Nat := (24, 23)
noncomputable abbrev pq_25_0 : Nat × Nat := (25, 0)
noncomputable abbrev pq_25_1 : Nat × Nat := (25, 1)
noncomputable abbrev pq_25_2 : Nat × Nat := (25, 2)
noncomputable abbrev pq_25_3 : Nat × Nat := (25, 3)
noncomputable abbrev pq_25_4 : Nat × Nat := (25, 4)
noncomputable abbrev pq_25_5 : Nat × Nat := (25, 5)
noncomputable abbrev pq_25_6 : Nat × Nat := (25, 6)
noncomputable abbrev pq_25_7 : Nat × Nat := (25, 7)
noncomputable abbrev pq_25_8 : Nat × Nat := (25, 8)
noncomputable abbrev pq_25_9 : Nat × Nat := (25, 9)
noncomputable abbrev pq_25_10 : Nat × Nat := (25, 10)
noncomputable abbrev pq_25_11 : Nat × Nat := (25, 11)
noncomputable abbrev pq_25_12 : Nat × Nat := (25, 12)
noncomputable abbrev pq_25_13 : Nat × Nat := (25, 13)
noncomputable abbrev pq_25_14 : Nat × Nat := (25, 14)
noncomputable abbrev pq_25_15 : Nat × Nat := (25, 15)
noncomputable abbrev pq_25_16 : Nat × Nat := (25, 16)
noncomputable abbrev pq_25_17 : Nat × Nat := (25, 17)
noncomputable abbrev pq_25_18 : Nat × Nat := (25, 18)
noncomputable abbrev pq_25_19 : Nat × Nat := (25, 19)
noncomputable abbrev pq_25_20 : Nat × Nat := (25, 20)
noncomputable abbrev pq_25_21 : Nat × Nat := (25, 21)
noncomputable abbrev pq_25_22 : Nat × Nat := (25, 22)
noncomputable abbrev pq_25_23 : Nat × Nat := (25, 23)
noncomputable abbrev pq_26_0 : Nat × Nat := (26, 0)
noncomputable abbrev pq_26_1 : Nat × Nat := (26, 1)
noncomputable abbrev pq_26_2 : Nat × Nat := (26, 2)
noncomputable abbrev pq_26_3 : Nat × Nat := (26, 3)
noncomputable abbrev pq_26_4 : Nat × Nat := (26, 4)
noncomputable abbrev pq_26_5 : Nat × Nat := (26, 5)
noncomputable abbrev pq_26_6 : Nat × Nat := (26, 6)
noncomputable abbrev pq_26_7 : Nat × Nat := (26, 7)
noncomputable abbrev pq_26_8 : Nat × Nat := (26, 8)
noncomputable abbrev pq_26_9 : Nat × Nat := (26, 9)
noncomputable abbrev pq_26_10 : Nat × Nat := (26, 10)
noncomputable abbrev pq_26_11 : Nat × Nat := (26, 11)
noncomputable abbrev pq_26_12 : Nat × Nat := (26, 12)
noncomputable abbrev pq_26_13 : Nat × Nat := (26, 13)
noncomputable abbrev pq_26_14 : Nat × Nat := (26, 14)
noncomputable abbrev pq_26_15 : Nat × Nat := (26, 15)
noncomputable abbrev pq_26_16 : Nat × Nat := (26, 16)
noncomputable abbrev pq_26_17 : Nat × Nat := (26, 17)
noncomputable abbrev pq_26_18 : Nat × Nat := (26, 18)
noncomputable abbrev pq_26_19 : Nat × Nat := (26, 19)
noncomputable abbrev pq_26_20 : Nat × Nat := (26, 20)
noncomputable abbrev pq_26_21 : Nat × Nat := (26, 21)
noncomputable abbrev pq_26_22 : Nat × Nat := (26, 22)
noncomputable abbrev pq_26_23 : Nat × Nat := (26, 23)
noncomputable abbrev pq_27_0 : Nat × Nat := (27, 0)
noncomputable abbrev pq_27_1 : Nat × Nat := (27, 1)
noncomputable abbrev pq_27_2 : Nat × Nat := (27, 2)
noncomputable abbrev pq_27_3 : Nat × Nat := (27, 3)
noncomputable abbrev pq_27_4 : Nat × Nat := (27, 4)
noncomputable abbrev pq_27_5 : Nat × Nat := (27, 5)
noncomputable abbrev pq_27_6 : Nat × Nat := (27, 6)
noncomputable abbrev pq_27_7 : Nat × Nat := (27, 7)
noncomputable abbrev pq_27_8 : Nat × Nat := (27, 8)
noncomputable abbrev pq_27_9 : Nat × Nat := (27, 9)
noncomputable abbrev pq_27_10 : Nat × Nat := (27, 10)
noncomputable abbrev pq_27_11 : Nat × Nat := (27, 11)
noncomputable abbrev pq_27_12 : Nat × Nat := (27, 12)
noncomputable abbrev pq_27_13 : Nat × Nat := (27, 13)
noncomputable abbrev pq_27_14 : Nat × Nat := (27, 14)
noncomputable abbrev pq_27_15 : Nat × Nat := (27, 15)
noncomputable abbrev pq_27_16 : Nat × Nat := (27, 16)
noncomputable abbrev pq_27_17 : Nat × Nat := (27, 17)
noncomputable abbrev pq_27_18 : Nat × Nat := (27, 18)
noncomputable abbrev pq_27_19 : Nat × Nat := (27, 19)
noncomputable abbrev pq_27_20 : Nat × Nat := (27, 20)
noncomputable abbrev pq_27_21 : Nat × Nat := (27, 21)
noncomputable abbrev pq_27_22 : Nat × Nat := (27, 22)
noncomputable abbrev pq_27_23 : Nat × Nat := (27, 23)
noncomputable abbrev pq_28_0 : Nat × Nat := (28, 0)
noncomputable abbrev pq_28_1 : Nat × Nat := (28, 1)
noncomputable abbrev pq_28_2 : Nat × Nat := (28, 2)
noncomputable abbrev pq_28_3 : Nat × Nat := (28, 3)
noncomputable abbrev pq_28_4 : Nat × Nat := (28, 4)
noncomputable abbrev pq_28_5 : Nat × Nat := (28, 5)
noncomputable abbrev pq_28_6 : Nat × Nat := (28, 6)
noncomputable abbrev pq_28_7 : Nat × Nat := (28, 7)
noncomputable abbrev pq_28_8 : Nat × Nat := (28, 8)
noncomputable abbrev pq_28_9 : Nat × Nat := (28, 9)
noncomputable abbrev pq_28_10 : Nat × Nat := (28, 10)
noncomputable abbrev pq_28_11 : Nat × Nat := (28, 11)
noncomputable abbrev pq_28_12 : Nat × Nat := (28, 12)
noncomputable abbrev pq_28_13 : Nat × Nat := (28, 13)
noncomputable abbrev pq_28_14 : Nat × Nat := (28, 14)
noncomputable abbrev pq_28_15 : Nat × Nat := (28, 15)
noncomputable abbrev pq_28_16 : Nat × Nat := (28, 16)
noncomputable abbrev pq_28_17 : Nat × Nat := (28, 17)
noncomputable abbrev pq_28_18 : Nat × Nat := (28, 18)
noncomputable abbrev pq_28_19 : Nat × Nat := (28, 19)
noncomputable abbrev pq_28_20 : Nat × Nat := (28, 20)
noncomputable abbrev pq_28_21 : Nat × Nat := (28, 21)
noncomputable abbrev pq_28_22 : Nat × Nat := (28, 22)
noncomputable abbrev pq_28_23 : Nat × Nat := (28, 23)
noncomputable abbrev pq_29_0 : Nat × Nat := (29, 0)
noncomputable abbrev pq_29_1 : Nat × Nat := (29, 1)
noncomputable abbrev pq_29_2 : Nat × Nat := (29, 2)
noncomputable abbrev pq_29_3 : Nat × Nat := (29, 3)
noncomputable abbrev pq_29_4 : Nat × Nat := (29, 4)
noncomputable abbrev pq_29_5 : Nat × Nat := (29, 5)
noncomputable abbrev pq_29_6 : Nat × Nat := (29, 6)
noncomputable abbrev pq_29_7 : Nat × Nat := (29, 7)
noncomputable abbrev pq_29_8 : Nat × Nat := (29, 8)
noncomputable abbrev pq_29_9 : Nat × Nat := (29, 9)
noncomputable abbrev pq_29_10 : Nat × Nat := (29, 10)
noncomputable abbrev pq_29_11 : Nat × Nat := (29, 11)
noncomputable abbrev pq_29_12 : Nat × Nat := (29, 12)
noncomputable abbrev pq_29_13 : Nat × Nat := (29, 13)
noncomputable abbrev pq_29_14 : Nat × Nat := (29, 14)
noncomputable abbrev pq_29_15 : Nat × Nat := (29, 15)
noncomputable abbrev pq_29_16 : Nat × Nat := (29, 16)
noncomputable abbrev pq_29_17 : Nat × Nat := (29, 17)
noncomputable abbrev pq_29_18 : Nat × Nat := (29, 18)
noncomputable abbrev pq_29_19 : Nat × Nat := (29, 19)
noncomputable abbrev pq_29_20 : Nat × Nat := (29, 20)
noncomputable abbrev pq_29_21 : Nat × Nat := (29, 21)
noncomputable abbrev pq_29_22 : Nat × Nat := (29, 22)
noncomputable abbrev pq_29_23 : Nat × Nat := (29, 23)
noncomputable abbrev pq_30_0 : Nat × Nat := (30, 0)
noncomputable abbrev pq_30_1 : Nat × Nat := (30, 1)
noncomputable abbrev pq_30_2 : Nat × Nat := (30, 2)
noncomputable abbrev pq_30_3 : Nat × Nat := (30, 3)
noncomputable abbrev pq_30_4 : Nat × Nat := (30, 4)
noncomputable abbrev pq_30_5 : Nat × Nat := (30, 5)
noncomputable abbrev pq_30_6 : Nat × Nat := (30, 6)
noncomputable abbrev pq_30_7 : Nat × Nat := (30, 7)
noncomputable abbrev pq_30_8 : Nat × Nat := (30, 8)
noncomputable abbrev pq_30_9 : Nat × Nat := (30, 9)
noncomputable abbrev pq_30_10 : Nat × Nat := (30, 10)
noncomputable abbrev pq_30_11 : Nat × Nat := (30, 11)
noncomputable abbrev pq_30_12 : Nat × Nat := (30, 12)
noncomputable abbrev pq_30_13 : Nat × Nat := (30, 13)
noncomputable abbrev pq_30_14 : Nat × Nat := (30, 14)
noncomputable abbrev pq_30_15 : Nat × Nat := (30, 15)
noncomputable abbrev pq_30_16 : Nat × Nat := (30, 16)
noncomputable abbrev pq_30_17 : Nat × Nat := (30, 17)
noncomputable abbrev pq_30_18 : Nat × Nat := (30, 18)
noncomputable abbrev pq_30_19 : Nat × Nat := (30, 19)
noncomputable abbrev pq_30_20 : Nat × Nat := (30, 20)
noncomputable abbrev pq_30_21 : Nat × Nat := (30, 21)
noncomputable abbrev pq_30_22 : Nat × Nat := (30, 22)
noncomputable abbrev pq_30_23 : Nat × Nat := (30, 23)
noncomputable abbrev pq_31_0 : Nat × Nat := (31, 0)
noncomputable abbrev pq_31_1 : Nat × Nat := (31, 1)
noncomputable abbrev pq_31_2 : Nat × Nat := (31, 2)
noncomputable abbrev pq_31_3 : Nat × Nat := (31, 3)
noncomputable abbrev pq_31_4 : Nat × Nat := (31, 4)
noncomputable abbrev pq_31_5 : Nat × Nat := (31, 5)
noncomputable abbrev pq_31_6 : Nat × Nat := (31, 6)
noncomputable abbrev pq_31_7 : Nat × Nat := (31, 7)
noncomputable abbrev pq_31_8 : Nat × Nat := (31, 8)
noncomputable abbrev pq_31_9 : Nat × Nat := (31, 9)
noncomputable abbrev pq_31_10 : Nat × Nat := (31, 10)
noncomputable abbrev pq_31_11 : Nat × Nat := (31, 11)
noncomputable abbrev pq_31_12 : Nat × Nat := (31, 12)
noncomputable abbrev pq_31_13 : Nat × Nat := (31, 13)
noncomputable abbrev pq_31_14 : Nat × Nat := (31, 14)
noncomputable abbrev pq_31_15 : Nat × Nat := (31, 15)
noncomputable abbrev pq_31_16 : Nat × Nat := (31, 16)
noncomputable abbrev pq_31_17 : Nat × Nat := (31, 17)
noncomputable abbrev pq_31_18 : Nat × Nat := (31, 18)
noncomputable abbrev pq_31_19 : Nat × Nat := (31, 19)
noncomputable abbrev pq_31_20 : Nat × Nat := (31, 20)
noncomputable abbrev pq_31_21 : Nat × Nat := (31, 21)
noncomputable abbrev pq_31_22 : Nat × Nat := (31, 22)
noncomputable abbrev pq_31_23 : Nat × Nat := (31, 23)
noncomputable abbrev pq_32_0 : Nat × Nat := (32, 0)
noncomputable abbrev pq_32_1 : Nat × Nat := (32, 1)
noncomputable abbrev pq_32_2 : Nat × Nat := (32, 2)
noncomputable abbrev pq_32_3 : Nat × Nat := (32, 3)
noncomputable abbrev pq_32_4 : Nat × Nat := (32, 4)
noncomputable abbrev pq_32_5 : Nat × Nat := (32, 5)
noncomputable abbrev pq_32_6 : Nat × Nat := (32, 6)
noncomputable abbrev pq_32_7 : Nat × Nat := (32, 7)
noncomputable abbrev pq_32_8 : Nat × Nat := (32, 8)
noncomputable abbrev pq_32_9 : Nat × Nat := (32, 9)
noncomputable abbrev pq_32_10 : Nat × Nat := (32, 10)
noncomputable abbrev pq_32_11 : Nat × Nat := (32, 11)
noncomputable abbrev pq_32_12 : Nat × Nat := (32, 12)
noncomputable abbrev pq_32_13 : Nat × Nat := (32, 13)
noncomputable abbrev pq_32_14 : Nat × Nat := (32, 14)
noncomputable abbrev pq_32_15 : Nat × Nat := (32, 15)
noncomputable abbrev pq_32_16 : Nat × Nat := (32, 16)
noncomputable abbrev pq_32_17 : Nat × Nat := (32, 17)
noncomputable abbrev pq_32_18 : Nat × Nat := (32, 18)
noncomputable abbrev pq_32_19 : Nat × Nat := (32, 19)
noncomputable abbrev pq_32_20 : Nat × Nat := (32, 20)
noncomputable abbrev pq_32_21 : Nat × Nat := (32, 21)
noncomputable abbrev pq_32_22 : Nat × Nat := (32, 22)
noncomputable abbrev pq_32_23 : Nat × Nat := (32, 23)
noncomputable abbrev pq_33_0 : Nat × Nat := (33, 0)
noncomputable abbrev pq_33_1 : Nat × Nat := (33, 1)
noncomputable abbrev pq_33_2 : Nat × Nat := (33, 2)
noncomputable abbrev pq_33_3 : Nat × Nat := (33, 3)
noncomputable abbrev pq_33_4 : Nat × Nat := (33, 4)
noncomputable abbrev pq_33_5 : Nat × Nat := (33, 5)
noncomputable abbrev pq_33_6 : Nat × Nat := (33, 6)
noncomputable abbrev pq_33_7 : Nat × Nat := (33, 7)
noncomputable abbrev pq_33_8 : Nat × Nat := (33, 8)
noncomputable abbrev pq_33_9 : Nat × Nat := (33, 9)
noncomputable abbrev pq_33_10 : Nat × Nat := (33, 10)
noncomputable abbrev pq_33_11 : Nat × Nat := (33, 11)
noncomputable abbrev pq_33_12 : Nat × Nat := (33, 12)
noncomputable abbrev pq_33_13 : Nat × Nat := (33, 13)
noncomputable abbrev pq_33_14 : Nat × Nat := (33, 14)
noncomputable abbrev pq_33_15 : Nat × Nat := (33, 15)
noncomputable abbrev pq_33_16 : Nat × Nat := (33, 16)
noncomputable abbrev pq_33_17 : Nat × Nat := (33, 17)
noncomputable abbrev pq_33_18 : Nat × Nat := (33, 18)
noncomputable abbrev pq_33_19 : Nat × Nat := (33, 19)
noncomputable abbrev pq_33_20 : Nat × Nat := (33, 20)
noncomputable abbrev pq_33_21 : Nat × Nat := (33, 21)
noncomputable abbrev pq_33_22 : Nat × Nat := (33, 22)
noncomputable abbrev pq_33_23 : Nat × Nat := (33, 23)
noncomputable abbrev pq_34_0 : Nat × Nat := (34, 0)
noncomputable abbrev pq_34_1 : Nat × Nat := (34, 1)
noncomputable abbrev pq_34_2 : Nat × Nat := (34, 2)
noncomputable abbrev pq_34_3 : Nat × Nat := (34, 3)
noncomputable abbrev pq_34_4 : Nat × Nat := (34, 4)
noncomputable abbrev pq_34_5 : Nat × Nat := (34, 5)
noncomputable abbrev pq_34_6 : Nat × Nat := (34, 6)
noncomputable abbrev pq_34_7 : Nat × Nat := (34, 7)
noncomputable abbrev pq_34_8 : Nat × Nat := (34, 8)
noncomputable abbrev pq_34_9 : Nat × Nat := (34, 9)
noncomputable abbrev pq_34_10 : Nat × Nat := (34, 10)
noncomputable abbrev pq_34_11 : Nat × Nat := (34, 11)
noncomputable abbrev pq_34_12 : Nat × Nat := (34, 12)
noncomputable abbrev pq_34_13 : Nat × Nat := (34, 13)
noncomputable abbrev pq_34_14 : Nat × Nat := (34, 14)
noncomputable abbrev pq_34_15 : Nat × Nat := (34, 15)
noncomputable abbrev pq_34_16 : Nat × Nat := (34, 16)
noncomputable abbrev pq_34_17 : Nat × Nat := (34, 17)
noncomputable abbrev pq_34_18 : Nat × Nat := (34, 18)
noncomputable abbrev pq_34_19 : Nat × Nat := (34, 19)
noncomputable abbrev pq_34_20 : Nat × Nat := (34, 20)
noncomputable abbrev pq_34_21 : Nat × Nat := (34, 21)
noncomputable abbrev pq_34_22 : Nat × Nat := (34, 22)
noncomputable abbrev pq_34_23 : Nat × Nat := (34, 23)
noncomputable abbrev pq_35_0 : Nat × Nat := (35, 0)
noncomputable abbrev pq_35_1 : Nat × Nat := (35, 1)
noncomputable abbrev pq_35_2 : Nat × Nat := (35, 2)
noncomputable abbrev pq_35_3 : Nat × Nat := (35, 3)
noncomputable abbrev pq_35_4 : Nat × Nat := (35, 4)
noncomputable abbrev pq_35_5 : Nat × Nat := (35, 5)
noncomputable abbrev pq_35_6 : Nat × Nat := (35, 6)
noncomputable abbrev pq_35_7 : Nat × Nat := (35, 7)
noncomputable abbrev pq_35_8 : Nat × Nat := (35, 8)
noncomputable abbrev pq_35_9 : Nat × Nat := (35, 9)
noncomputable abbrev pq_35_10 : Nat × Nat := (35, 10)
noncomputable abbrev pq_35_11 : Nat × Nat := (35, 11)
noncomputable abbrev pq_35_12 : Nat × Nat := (35, 12)
noncomputable abbrev pq_35_13 : Nat × Nat := (35, 13)
noncomputable abbrev pq_35_14 : Nat × Nat := (35, 14)
noncomputable abbrev pq_35_15 : Nat × Nat := (35, 15)
noncomputable abbrev pq_35_16 : Nat × Nat := (35, 16)
noncomputable abbrev pq_35_17 : Nat × Nat := (35, 17)
noncomputable abbrev pq_35_18 : Nat × Nat := (35, 18)
noncomputable abbrev pq_35_19 : Nat × Nat := (35, 19)
noncomputable abbrev pq_35_20 : Nat × Nat := (35, 20)
noncomputable abbrev pq_35_21 : Nat × Nat := (35, 21)
noncomputable abbrev pq_35_22 : Nat × Nat := (35, 22)
noncomputable abbrev pq_35_23 : Nat × Nat := (35, 23)
noncomputable abbrev pq_36_0 : Nat × Nat := (36, 0)
noncomputable abbrev pq_36_1 : Nat × Nat := (36, 1)
noncomputable abbrev pq_36_2 : Nat × Nat := (36, 2)
noncomputable abbrev pq_36_3 : Nat × Nat := (36, 3)
noncomputable abbrev pq_36_4 : Nat × Nat := (36, 4)
noncomputable abbrev pq_36_5 : Nat × Nat := (36, 5)
noncomputable abbrev pq_36_6 : Nat × Nat := (36, 6)
noncomputable abbrev pq_36_7 : Nat × Nat := (36, 7)
noncomputable abbrev pq_36_8 : Nat × Nat := (36, 8)
noncomputable abbrev pq_36_9 : Nat × Nat := (36, 9)
noncomputable abbrev pq_36_10 : Nat × Nat := (36, 10)
noncomputable abbrev pq_36_11 : Nat × Nat := (36, 11)
noncomputable abbrev pq_36_12 : Nat × Nat := (36, 12)
noncomputable abbrev pq_36_13 : Nat × Nat := (36, 13)
noncomputable abbrev pq_36_14 : Nat × Nat := (36, 14)
noncomputable abbrev pq_36_15 : Nat × Nat := (36, 15)
noncomputable abbrev pq_36_16 : Nat × Nat := (36, 16)
noncomputable abbrev pq_36_17 : Nat × Nat := (36, 17)
noncomputable abbrev pq_36_18 : Nat × Nat := (36, 18)
noncomputable abbrev pq_36_19 : Nat × Nat := (36, 19)
noncomputable abbrev pq_36_20 : Nat × Nat := (36, 20)
noncomputable abbrev pq_36_21 : Nat × Nat := (36, 21)
noncomputable abbrev pq_36_22 : Nat × Nat := (36, 22)
noncomputable abbrev pq_36_23 : Nat × Nat := (36, 23)
noncomputable abbrev pq_37_0 : Nat × Nat := (37, 0)
noncomputable abbrev pq_37_1 : Nat × Nat := (37, 1)
noncomputable abbrev pq_37_2 : Nat × Nat := (37, 2)
noncomputable abbrev pq_37_3 : Nat × Nat := (37, 3)
noncomputable abbrev pq_37_4 : Nat × Nat := (37, 4)
noncomputable abbrev pq_37_5 : Nat × Nat := (37, 5)
noncomputable abbrev pq_37_6 : Nat × Nat := (37, 6)
noncomputable abbrev pq_37_7 : Nat × Nat := (37, 7)
noncomputable abbrev pq_37_8 : Nat × Nat := (37, 8)
noncomputable abbrev pq_37_9 : Nat × Nat := (37, 9)
noncomputable abbrev pq_37_10 : Nat × Nat := (37, 10)
noncomputable abbrev pq_37_11 : Nat × Nat := (37, 11)
noncomputable abbrev pq_37_12 : Nat × Nat := (37, 12)
noncomputable abbrev pq_37_13 : Nat × Nat := (37, 13)
noncomputable abbrev pq_37_14 : Nat × Nat := (37, 14)
noncomputable abbrev pq_37_15 : Nat × Nat := (37, 15)
noncomputable abbrev pq_37_16 : Nat × Nat := (37, 16)
noncomputable abbrev pq_37_17 : Nat × Nat := (37, 17)
noncomputable abbrev pq_37_18 : Nat × Nat := (37, 18)
noncomputable abbrev pq_37_19 : Nat × Nat := (37, 19)
noncomputable abbrev pq_37_20 : Nat × Nat := (37, 20)
noncomputable abbrev pq_37_21 : Nat × Nat := (37, 21)
noncomputable abbrev pq_37_22 : Nat × Nat := (37, 22)
noncomputable abbrev pq_37_23 : Nat × Nat := (37, 23)
noncomputable abbrev pq_38_0 : Nat × Nat := (38, 0)
noncomputable abbrev pq_38_1 : Nat × Nat := (38, 1)
noncomputable abbrev pq_38_2 : Nat × Nat := (38, 2)
noncomputable abbrev pq_38_3 : Nat × Nat := (38, 3)
noncomputable abbrev pq_38_4 : Nat × Nat := (38, 4)
noncomputable abbrev pq_38_5 : Nat × Nat := (38, 5)
noncomputable abbrev pq_38_6 : Nat × Nat := (38, 6)
noncomputable abbrev pq_38_7 : Nat × Nat := (38, 7)
noncomputable abbrev pq_38_8 : Nat × Nat := (38, 8)
noncomputable abbrev pq_38_9 : Nat × Nat := (38, 9)
noncomputable abbrev pq_38_10 : Nat × Nat := (38, 10)
noncomputable abbrev pq_38_11 : Nat × Nat := (38, 11)
noncomputable abbrev pq_38_12 : Nat × Nat := (38, 12)
noncomputable abbrev pq_38_13 : Nat × Nat := (38, 13)
noncomputable abbrev pq_38_14 : Nat × Nat := (38, 14)
noncomputable abbrev pq_38_15 : Nat × Nat := (38, 15)
noncomputable abbrev pq_38_16 : Nat × Nat := (38, 16)
noncomputable abbrev pq_38_17 : Nat × Nat := (38, 17)
noncomputable abbrev pq_38_18 : Nat × Nat := (38, 18)
noncomputable abbrev pq_38_19 : Nat × Nat := (38, 19)
noncomputable abbrev pq_38_20 : Nat × Nat := (38, 20)
noncomputable abbrev pq_38_21 : Nat × Nat := (38, 21)
noncomputable abbrev pq_38_22 : Nat × Nat := (38, 22)
noncomputable abbrev pq_38_23 : Nat × Nat := (38, 23)
noncomputable abbrev pq_39_0 : Nat × Nat := (39, 0)
noncomputable abbrev pq_39_1 : Nat × Nat := (39, 1)
noncomputable abbrev pq_39_2 : Nat × Nat := (39, 2)
noncomputable abbrev pq_39_3 : Nat × Nat := (39, 3)
noncomputable abbrev pq_39_4 : Nat × Nat := (39, 4)
noncomputable abbrev pq_39_5 : Nat × Nat := (39, 5)
noncomputable abbrev pq_39_6 : Nat × Nat := (39, 6)
noncomputable abbrev pq_39_7 : Nat × Nat := (39, 7)
noncomputable abbrev pq_39_8 : Nat × Nat := (39, 8)
noncomputable abbrev pq_39_9 : Nat × Nat := (39, 9)
noncomputable abbrev pq_39_10 : Nat × Nat := (39, 10)
noncomputable abbrev pq_39_11 : Nat × Nat := (39, 11)
noncomputable abbrev pq_39_12 : Nat × Nat := (39, 12)
noncomputable abbrev pq_39_13 : Nat × Nat := (39, 13)
noncomputable abbrev pq_39_14 : Nat × Nat := (39, 14)
noncomputable abbrev pq_39_15 : Nat × Nat := (39, 15)
noncomputable abbrev pq_39_16 : Nat × Nat := (39, 16)
noncomputable abbrev pq_39_17 : Nat × Nat := (39, 17)
noncomputable abbrev pq_39_18 : Nat × Nat := (39, 18)
noncomputable abbrev pq_39_19 : Nat × Nat := (39, 19)
noncomputable abbrev pq_39_20 : Nat × Nat := (39, 20)
noncomputable abbrev pq_39_21 : Nat × Nat := (39, 21)
noncomputable abbrev pq_39_22 : Nat × Nat := (39, 22)
noncomputable abbrev pq_39_23 : Nat × Nat := (39, 23)
noncomputable abbrev pq_40_0 : Nat × Nat := (40, 0)
noncomputable abbrev pq_40_1 : Nat × Nat := (40, 1)
noncomputable abbrev pq_40_2 : Nat × Nat := (40, 2)
noncomputable abbrev pq_40_3 : Nat × Nat := (40, 3)
noncomputable abbrev pq_40_4 : Nat × Nat := (40, 4)
noncomputable abbrev pq_40_5 : Nat × Nat := (40, 5)
noncomputable abbrev pq_40_6 : Nat × Nat := (40, 6)
noncomputable abbrev pq_40_7 : Nat × Nat := (40, 7)
noncomputable abbrev pq_40_8 : Nat × Nat := (40, 8)
noncomputable abbrev pq_40_9 : Nat × Nat := (40, 9)
noncomputable abbrev pq_40_10 : Nat × Nat := (40, 10)
noncomputable abbrev pq_40_11 : Nat × Nat := (40, 11)
noncomputable abbrev pq_40_12 : Nat × Nat := (40, 12)
noncomputable abbrev pq_40_13 : Nat × Nat := (40, 13)
noncomputable abbrev pq_40_14 : Nat × Nat := (40, 14)
noncomputable abbrev pq_40_15 : Nat × Nat := (40, 15)
noncomputable abbrev pq_40_16 : Nat × Nat := (40, 16)
noncomputable abbrev pq_40_17 : Nat × Nat := (40, 17)
noncomputable abbrev pq_40_18 : Nat × Nat := (40, 18)
noncomputable abbrev pq_40_19 : Nat × Nat := (40, 19)
noncomputable abbrev pq_40_20 : Nat × Nat := (40, 20)
noncomputable abbrev pq_40_21 : Nat × Nat := (40, 21)
noncomputable abbrev pq_40_22 : Nat × Nat := (40, 22)
noncomputable abbrev pq_40_23 : Nat × Nat := (40, 23)
noncomputable abbrev pq_41_0 : Nat × Nat := (41, 0)
noncomputable abbrev pq_41_1 : Nat × Nat := (41, 1)
noncomputable abbrev pq_41_2 : Nat × Nat := (41, 2)
noncomputable abbrev pq_41_3 : Nat × Nat := (41, 3)
noncomputable abbrev pq_41_4 : Nat × Nat := (41, 4)
noncomputable abbrev pq_41_5 : Nat × Nat := (41, 5)
noncomputable abbrev pq_41_6 : Nat × Nat := (41, 6)
noncomputable abbrev pq_41_7 : Nat × Nat := (41, 7)
noncomputable abbrev pq_41_8 : Nat × Nat := (41, 8)
noncomputable abbrev pq_41_9 : Nat × Nat := (41, 9)
noncomputable abbrev pq_41_10 : Nat × Nat := (41, 10)
noncomputable abbrev pq_41_11 : Nat × Nat := (41, 11)
noncomputable abbrev pq_41_12 : Nat × Nat := (41, 12)
noncomputable abbrev pq_41_13 : Nat × Nat := (41, 13)
noncomputable abbrev pq_41_14 : Nat × Nat := (41, 14)
noncomputable abbrev pq_41_15 : Nat × Nat := (41, 15)
noncomputable abbrev pq_41_16 : Nat × Nat := (41, 16)
noncomputable abbrev pq_41_17 : Nat × Nat := (41, 17)
noncomputable abbrev pq_41_18 : Nat × Nat := (41, 18)
noncomputable abbrev pq_41_19 : Nat × Nat := (41, 19)
noncomputable abbrev pq_41_20 : Nat × Nat := (41, 20)
noncomputable abbrev pq_41_21 : Nat × Nat := (41, 21)
noncomputable abbrev pq_41_22 : Nat × Nat := (41, 22)
noncomputable abbrev pq_41_23 : Nat × Nat := (41, 23)
noncomputable abbrev pq_42_0 : Nat × Nat := (42, 0)
noncomputable abbrev pq_42_1 : Nat × Nat := (42, 1)
noncomputable abbrev pq_42_2 : Nat × Nat := (42, 2)
noncomputable abbrev pq_42_3 : Nat × Nat := (42, 3)
noncomputable abbrev pq_42_4 : Nat × Nat := (42, 4)
noncomputable abbrev pq_42_5 : Nat × Nat := (42, 5)
noncomputable abbrev pq_42_6 : Nat × Nat := (42, 6)
noncomputable abbrev pq_42_7 : Nat × Nat := (42, 7)
noncomputable abbrev pq_42_8 : Nat × Nat := (42, 8)
noncomputable abbrev pq_42_9 : Nat × Nat := (42, 9)
noncomputable abbrev pq_42_10 : Nat × Nat := (42, 10)
noncomputable abbrev pq_42_11 : Nat × Nat := (42, 11)
noncomputable abbrev pq_42_12 : Nat × Nat := (42, 12)
noncomputable abbrev pq_42_13 : Nat × Nat := (42, 13)
noncomputable abbrev pq_42_14 : Nat × Nat := (42, 14)
noncomputable abbrev pq_42_15 : Nat × Nat := (42, 15)
noncomputable abbrev pq_42_16 : Nat × Nat := (42, 16)
noncomputable abbrev pq_42_17 : Nat × Nat := (42, 17)
noncomputable abbrev pq_42_18 : Nat × Nat := (42, 18)
noncomputable abbrev pq_42_19 : Nat × Nat := (42, 19)
noncomputable abbrev pq_42_20 : Nat × Nat := (42, 20)
noncomputable abbrev pq_42_21 : Nat × Nat := (42, 21)
noncomputable abbrev pq_42_22 : Nat × Nat := (42, 22)
noncomputable abbrev pq_42_23 : Nat × Nat := (42, 23)
noncomputable abbrev pq_43_0 : Nat × Nat := (43, 0)
noncomputable abbrev pq_43_1 : Nat × Nat := (43, 1)
noncomputable abbrev pq_43_2 : Nat × Nat := (43, 2)
noncomputable abbrev pq_43_3 : Nat × Nat := (43, 3)
noncomputable abbrev pq_43_4 : Nat × Nat := (43, 4)
noncomputable abbrev pq_43_5 : Nat × Nat := (43, 5)
noncomputable abbrev pq_43_6 : Nat × Nat := (43, 6)
noncomputable abbrev pq_43_7 : Nat × Nat := (43, 7)
noncomputable abbrev pq_43_8 : Nat × Nat := (43, 8)
noncomputable abbrev pq_43_9 : Nat × Nat := (43, 9)
noncomputable abbrev pq_43_10 : Nat × Nat := (43, 10)
noncomputable abbrev pq_43_11 : Nat × Nat := (43, 11)
noncomputable abbrev pq_43_12 : Nat × Nat := (43, 12)
noncomputable abbrev pq_43_13 : Nat × Nat := (43, 13)
noncomputable abbrev pq_43_14 : Nat × Nat := (43, 14)
noncomputable abbrev pq_43_15 : Nat × Nat := (43, 15)
noncomputable abbrev pq_43_16 : Nat × Nat := (43, 16)
noncomputable abbrev pq_43_17 : Nat × Nat := (43, 17)
noncomputable abbrev pq_43_18 : Nat × Nat := (43, 18)
noncomputable abbrev pq_43_19 : Nat × Nat := (43, 19)
noncomputable abbrev pq_43_20 : Nat × Nat := (43, 20)
noncomputable abbrev pq_43_21 : Nat × Nat := (43, 21)
noncomputable abbrev pq_43_22 : Nat × Nat := (43, 22)
noncomputable abbrev pq_43_23 : Nat × Nat := (43, 23)
noncomputable abbrev pq_44_0 : Nat × Nat := (44, 0)
noncomputable abbrev pq_44_1 : Nat × Nat := (44, 1)
noncomputable abbrev pq_44_2 : Nat × Nat := (44, 2)
noncomputable abbrev pq_44_3 : Nat × Nat := (44, 3)
noncomputable abbrev pq_44_4 : Nat × Nat := (44, 4)
noncomputable abbrev pq_44_5 : Nat × Nat := (44, 5)
noncomputable abbrev pq_44_6 : Nat × Nat := (44, 6)
noncomputable abbrev pq_44_7 : Nat × Nat := (44, 7)
noncomputable abbrev pq_44_8 : Nat × Nat := (44, 8)
noncomputable abbrev pq_44_9 : Nat × Nat := (44, 9)
noncomputable abbrev pq_44_10 : Nat × Nat := (44, 10)
noncomputable abbrev pq_44_11 : Nat × Nat := (44, 11)
noncomputable abbrev pq_44_12 : Nat × Nat := (44, 12)
noncomputable abbrev pq_44_13 : Nat × Nat := (44, 13)
noncomputable abbrev pq_44_14 : Nat × Nat := (44, 14)
noncomputable abbrev pq_44_15 : Nat × Nat := (44, 15)
noncomputable abbrev pq_44_16 : Nat × Nat := (44, 16)
noncomputable abbrev pq_44_17 : Nat × Nat := (44, 17)
noncomputable abbrev pq_44_18 : Nat × Nat := (44, 18)
noncomputable abbrev pq_44_19 : Nat × Nat := (44, 19)
noncomputable abbrev pq_44_20 : Nat × Nat := (44, 20)
noncomputable abbrev pq_44_21 : Nat × Nat := (44, 21)
noncomputable abbrev pq_44_22 : Nat × Nat := (44, 22)
noncomputable abbrev pq_44_23 : Nat × Nat := (44, 23)
noncomputable abbrev pq_45_0 : Nat × Nat := (45, 0)
noncomputable abbrev pq_45_1 : Nat × Nat := (45, 1)
noncomputable abbrev pq_45_2 : Nat × Nat := (45, 2)
noncomputable abbrev pq_45_3 : Nat × Nat := (45, 3)
noncomputable abbrev pq_45_4 : Nat × Nat := (45, 4)
noncomputable abbrev pq_45_5 : Nat × Nat := (45, 5)
noncomputable abbrev pq_45_6 : Nat × Nat := (45, 6)
noncomputable abbrev pq_45_7 : Nat × Nat := (45, 7)
noncomputable abbrev pq_45_8 : Nat × Nat := (45, 8)
noncomputable abbrev pq_45_9 : Nat × Nat := (45, 9)
noncomputable abbrev pq_45_10 : Nat × Nat := (45, 10)
noncomputable abbrev pq_45_11 : Nat × Nat := (45, 11)
noncomputable abbrev pq_45_12 : Nat × Nat := (45, 12)
noncomputable abbrev pq_45_13 : Nat × Nat := (45, 13)
noncomputable abbrev pq_45_14 : Nat × Nat := (45, 14)
noncomputable abbrev pq_45_15 : Nat × Nat := (45, 15)
noncomputable abbrev pq_45_16 : Nat × Nat := (45, 16)
noncomputable abbrev pq_45_17 : Nat × Nat := (45, 17)
noncomputable abbrev pq_45_18 : Nat × Nat := (45, 18)
noncomputable abbrev pq_45_19 : Nat × Nat := (45, 19)
noncomputable abbrev pq_45_20 : Nat × Nat := (45, 20)
noncomputable abbrev pq_45_21 : Nat × Nat := (45, 21)
noncomputable abbrev pq_45_22 : Nat × Nat := (45, 22)
noncomputable abbrev pq_45_23 : Nat × Nat := (45, 23)
noncomputable abbrev pq_46_0 : Nat × Nat := (46, 0)
noncomputable abbrev pq_46_1 : Nat × Nat := (46, 1)
noncomputable abbrev pq_46_2 : Nat × Nat := (46, 2)
noncomputable abbrev pq_46_3 : Nat × Nat := (46, 3)
noncomputable abbrev pq_46_4 : Nat × Nat := (46, 4)
noncomputable abbrev pq_46_5 : Nat × Nat := (46, 5)
noncomputable abbrev pq_46_6 : Nat × Nat := (46, 6)
noncomputable abbrev pq_46_7 : Nat × Nat := (46, 7)
noncomputable abbrev pq_46_8 : Nat × Nat := (46, 8)
noncomputable abbrev pq_46_9 : Nat × Nat := (46, 9)
noncomputable abbrev pq_46_10 : Nat × Nat := (46, 10)
noncomputable abbrev pq_46_11 : Nat × Nat := (46, 11)
noncomputable abbrev pq_46_12 : Nat × Nat := (46, 12)
noncomputable abbrev pq_46_13 : Nat × Nat := (46, 13)
noncomputable abbrev pq_46_14 : Nat × Nat := (46, 14)
noncomputable abbrev pq_46_15 : Nat × Nat := (46, 15)
noncomputable abbrev pq_46_16 : Nat × Nat := (46, 16)
noncomputable abbrev pq_46_17 : Nat × Nat := (46, 17)
noncomputable abbrev pq_46_18 : Nat × Nat := (46, 18)
noncomputable abbrev pq_46_19 : Nat × Nat := (46, 19)
noncomputable abbrev pq_46_20 : Nat × Nat := (46, 20)
noncomputable abbrev pq_46_21 : Nat × Nat := (46, 21)
noncomputable abbrev pq_46_22 : Nat × Nat := (46, 22)
noncomputable abbrev pq_46_23 : Nat × Nat := (46, 23)
noncomputable abbrev pq_47_0 : Nat × Nat := (47, 0)
noncomputable abbrev pq_47_1 : Nat × Nat := (47, 1)
noncomputable abbrev pq_47_2 : Nat × Nat := (47, 2)
noncomputable abbrev pq_47_3 : Nat × Nat := (47, 3)
noncomputable abbrev pq_47_4 : Nat × Nat := (47, 4)
noncomputable abbrev pq_47_5 : Nat × Nat := (47, 5)
noncomputable abbrev pq_47_6 : Nat × Nat := (47, 6)
noncomputable abbrev pq_47_7 : Nat × Nat := (47, 7)
noncomputable abbrev pq_47_8 : Nat × Nat := (47, 8)
noncomputable abbrev pq_47_9 : Nat × Nat := (47, 9)
noncomputable abbrev pq_47_10 : Nat × Nat := (47, 10)
noncomputable abbrev pq_47_11 : Nat × Nat := (47, 11)
noncomputable abbrev pq_47_12 : Nat × Nat := (47, 12)
noncomputable abbrev pq_47_13 : Nat × Nat := (47, 13)
noncomputable abbrev pq_47_14 : Nat × Nat := (47, 14)
noncomputable abbrev pq_47_15 : Nat × Nat := (47, 15)
noncomputable abbrev pq_47_16 : Nat × Nat := (47, 16)
noncomputable abbrev pq_47_17 : Nat × Nat := (47, 17)
noncomputable abbrev pq_47_18 : Nat × Nat := (47, 18)
noncomputable abbrev pq_47_19 : Nat × Nat := (47, 19)
noncomputable abbrev pq_47_20 : Nat × Nat := (47, 20)
noncomputable abbrev pq_47_21 : Nat × Nat := (47, 21)
noncomputable abbrev pq_47_22 : Nat × Nat := (47, 22)
noncomputable abbrev pq_47_23 : Nat × Nat := (47, 23)
noncomputable abbrev pq_48_0 : Nat × Nat := (48, 0)
noncomputable abbrev pq_48_1 : Nat × Nat := (48, 1)
noncomputable abbrev pq_48_2 : Nat × Nat := (48, 2)
noncomputable abbrev pq_48_3 : Nat × Nat := (48, 3)
noncomputable abbrev pq_48_4 : Nat × Nat := (48, 4)
noncomputable abbrev pq_48_5 : Nat × Nat := (48, 5)
noncomputable abbrev pq_48_6 : Nat × Nat := (48, 6)
noncomputable abbrev pq_48_7 : Nat × Nat := (48, 7)
noncomputable abbrev pq_48_8 : Nat × Nat := (48, 8)
noncomputable abbrev pq_48_9 : Nat × Nat := (48, 9)
noncomputable abbrev pq_48_10 : Nat × Nat := (48, 10)
noncomputable abbrev pq_48_11 : Nat × Nat := (48, 11)
noncomputable abbrev pq_48_12 : Nat × Nat := (48, 12)
noncomputable abbrev pq_48_13 : Nat × Nat := (48, 13)
noncomputable abbrev pq_48_14 : Nat × Nat := (48, 14)
noncomputable abbrev pq_48_15 : Nat × Nat := (48, 15)
noncomputable abbrev pq_48_16 : Nat × Nat := (48, 16)
noncomputable abbrev pq_48_17 : Nat × Nat := (48, 17)
noncomputable abbrev pq_48_18 : Nat × Nat := (48, 18)
noncomputable abbrev pq_48_19 : Nat × Nat := (48, 19)
noncomputable abbrev pq_48_20 : Nat × Nat := (48, 20)
noncomputable abbrev pq_48_21 : Nat × Nat := (48, 21)
noncomputable abbrev pq_48_22 : Nat × Nat := (48, 22)
noncomputable abbrev pq_48_23 : Nat × Nat := (48, 23)
noncomputable abbrev pq_49_0 : Nat × Nat := (49, 0)
noncomputable abbrev pq_49_1 : Nat × Nat := (49, 1)
noncomputable abbrev pq_49_2 : Nat × Nat := (49, 2)
noncomputable abbrev pq_49_3 : Nat × Nat := (49, 3)
noncomputable abbrev pq_49_4 : Nat × Nat := (49, 4)
noncomputable abbrev pq_49_5 : Nat × Nat := (49, 5)
noncomputable abbrev pq_49_6 : Nat × Nat := (49, 6)
noncomputable abbrev pq_49_7 : Nat × Nat := (49, 7)
noncomputable abbrev pq_49_8 : Nat × Nat := (49, 8)
noncomputable abbrev pq_49_9 : Nat × Nat := (49, 9)
noncomputable abbrev pq_49_10 : Nat × Nat := (49, 10)
noncomputable abbrev pq_49_11 : Nat × Nat := (49, 11)
noncomputable abbrev pq_49_12 : Nat × Nat := (49, 12)
noncomputable abbrev pq_49_13 : Nat × Nat := (49, 13)
noncomputable abbrev pq_49_14 : Nat × Nat := (49, 14)
noncomputable abbrev pq_49_15 : Nat × Nat := (49, 15)
noncomputable abbrev pq_49_16 : Nat × Nat := (49, 16)
noncomputable abbrev pq_49_17 : Nat × Nat := (49, 17)
noncomputable abbrev pq_49_18 : Nat × Nat := (49, 18)
noncomputable abbrev pq_49_19 : Nat × Nat := (49, 19)
noncomputable abbrev pq_49_20 : Nat × Nat := (49, 20)
noncomputable abbrev pq_49_21 : Nat × Nat := (49, 21)
noncomputable abbrev pq_49_22 : Nat × Nat := (49, 22)
noncomputable abbrev pq_49_23 : Nat × Nat := (49, 23)
noncomputable abbrev pq_50_0 : Nat × Nat := (50, 0)
noncomputable abbrev pq_50_1 : Nat × Nat := (50, 1)
noncomputable abbrev pq_50_2 : Nat × Nat := (50, 2)
noncomputable abbrev pq_50_3 : Nat × Nat := (50, 3)
noncomputable abbrev pq_50_4 : Nat × Nat := (50, 4)
noncomputable abbrev pq_50_5 : Nat × Nat := (50, 5)
noncomputable abbrev pq_50_6 : Nat × Nat := (50, 6)
noncomputable abbrev pq_50_7 : Nat × Nat := (50, 7)
noncomputable abbrev pq_50_8 : Nat × Nat := (50, 8)
noncomputable abbrev pq_50_9 : Nat × Nat := (50, 9)
noncomputable abbrev pq_50_10 : Nat × Nat := (50, 10)
noncomputable abbrev pq_50_11 : Nat × Nat := (50, 11)
noncomputable abbrev pq_50_12 : Nat × Nat := (50, 12)
noncomputable abbrev pq_50_13 : Nat × Nat := (50, 13)
noncomputable abbrev pq_50_14 : Nat × Nat := (50, 14)
noncomputable abbrev pq_50_15 : Nat × Nat := (50, 15)
noncomputable abbrev pq_50_16 : Nat × Nat := (50, 16)
noncomputable abbrev pq_50_17 : Nat × Nat := (50, 17)
noncomputable abbrev pq_50_18 : Nat × Nat := (50, 18)
noncomputable abbrev pq_50_19 : Nat × Nat := (50, 19)
noncomputable abbrev pq_50_20 : Nat × Nat := (50, 20)
noncomputable abbrev pq_50_21 : Nat × Nat := (50, 21)
noncomputable abbrev pq_50_22 : Nat × Nat := (50, 22)
noncomputable abbrev pq_50_23 : Nat × Nat := (50, 23)
noncomputable abbrev pq_51_0 : Nat × Nat := (51, 0)
noncomputable abbrev pq_51_1 : Nat × Nat := (51, 1)
noncomputable abbrev pq_51_2 : Nat × Nat := (51, 2)
noncomputable abbrev pq_51_3 : Nat × Nat := (51, 3)
noncomputable abbrev pq_51_4 : Nat × Nat := (51, 4)
noncomputable abbrev pq_51_5 : Nat × Nat := (51, 5)
noncomputable abbrev pq_51_6 : Nat × Nat := (51, 6)
noncomputable abbrev pq_51_7 : Nat × Nat := (51, 7)
noncomputable abbrev pq_51_8 : Nat × Nat := (51, 8)
noncomputable abbrev pq_51_9 : Nat × Nat := (51, 9)
noncomputable abbrev pq_51_10 : Nat × Nat := (51, 10)
noncomputable abbrev pq_51_11 : Nat × Nat := (51, 11)
noncomputable abbrev pq_52_0 : Nat × Nat := (52, 0)
noncomputable abbrev pq_52_1 : Nat × Nat := (52, 1)
noncomputable abbrev pq_52_2 : Nat × Nat := (52, 2)
noncomputable abbrev pq_52_3 : Nat × Nat := (52, 3)
noncomputable abbrev pq_52_4 : Nat × Nat := (52, 4)
noncomputable abbrev pq_52_5 : Nat × Nat := (52, 5)
noncomputable abbrev pq_52_6 : Nat × Nat := (52, 6)
noncomputable abbrev pq_52_7 : Nat × Nat := (52, 7)
noncomputable abbrev pq_52_8 : Nat × Nat := (52, 8)
noncomputable abbrev pq_52_9 : Nat × Nat := (52, 9)
noncomputable abbrev pq_52_10 : Nat × Nat := (52, 10)
noncomputable abbrev pq_52_11 : Nat × Nat := (52, 11)
noncomputable abbrev pq_52_12 : Nat × Nat := (52, 12)
noncomputable abbrev pq_52_13 : Nat × Nat := (52, 13)
noncomputable abbrev pq_53_0 : Nat × Nat := (53, 0)
noncomputable abbrev pq_53_1 : Nat × Nat := (53, 1)
noncomputable abbrev pq_53_2 : Nat × Nat := (53, 2)
noncomputable abbrev pq_53_3 : Nat × Nat := (53, 3)
noncomputable abbrev pq_53_4 : Nat × Nat := (53, 4)
noncomputable abbrev pq_53_5 : Nat × Nat := (53, 5)
noncomputable abbrev pq_53_6 : Nat × Nat := (53, 6)
noncomputable abbrev pq_53_7 : Nat × Nat := (53, 7)
noncomputable abbrev pq_53_8 : Nat × Nat := (53, 8)
noncomputable abbrev pq_53_9 : Nat × Nat := (53, 9)
noncomputable abbrev pq_53_10 : Nat × Nat := (53, 10)
noncomputable abbrev pq_54_0 : Nat × Nat := (54, 0)
noncomputable abbrev pq_54_1 : Nat × Nat := (54, 1)
noncomputable abbrev pq_55_0 : Nat × Nat := (55, 0)
noncomputable abbrev pq_55_1 : Nat × Nat := (55, 1)
noncomputable abbrev pq_56_0 : Nat × Nat := (56, 0)
noncomputable abbrev pq_56_1 : Nat × Nat := (56, 1)
noncomputable abbrev pq_56_2 : Nat × Nat := (56, 2)
noncomputable abbrev pq_56_3 : Nat × Nat := (56, 3)
noncomputable abbrev pq_57_0 : Nat × Nat := (57, 0)
noncomputable abbrev pq_57_1 : Nat × Nat := (57, 1)
noncomputable abbrev pq_57_2 : Nat × Nat := (57, 2)
noncomputable abbrev pq_57_3 : Nat × Nat := (57, 3)
noncomputable abbrev pq_57_4 : Nat × Nat := (57, 4)
noncomputable abbrev pq_57_5 : Nat × Nat := (57, 5)
noncomputable abbrev pq_58_0 : Nat × Nat := (58, 0)
noncomputable abbrev pq_58_1 : Nat × Nat := (58, 1)
noncomputable abbrev pq_58_2 : Nat × Nat := (58, 2)
noncomputable abbrev pq_59_0 : Nat × Nat := (59, 0)
noncomputable abbrev pq_59_1 : Nat × Nat := (59, 1)
noncomputable abbrev pq_59_2 : Nat × Nat := (59, 2)
noncomputable abbrev pq_60_0 : Nat × Nat := (60, 0)
noncomputable abbrev pq_60_1 : Nat × Nat := (60, 1)
noncomputable abbrev pq_60_2 : Nat × Nat := (60, 2)
noncomputable abbrev pq_60_3 : Nat × Nat := (60, 3)
noncomputable abbrev pq_61_0 : Nat × Nat := (61, 0)
noncomputable abbrev pq_61_1 : Nat × Nat := (61, 1)
noncomputable abbrev pq_61_2 : Nat × Nat := (61, 2)
noncomputable abbrev pq_61_3 : Nat × Nat := (61, 3)
end
section
noncomputable def sgJ5_init_d00df : List (List Cond) := [[.code yJ5_init_d00df cJ5_init_d00df 2 none], [.methodLink RJ5 3 objectInit, .instanceMethod objectInit, .code objectInit ⟨#[0xb1]⟩ 1 none, .fieldLink RJ5 18 "java/lang/String" "COMPACT_STRINGS" "Z", .arrayClass .byte, .fieldLink RJ5 15 "java/lang/AbstractStringBuilder" "value" "[B", .fieldLink RJ5 22 "java/lang/AbstractStringBuilder" "coder" "B", .methodLink RJ5 26 yJ2_newBytesFor_77867, .static yJ2_newBytesFor_77867, .initialized RJ2, .code yJ2_newBytesFor_77867 cJ2_newBytesFor_77867 1 (some (.array .byte)), .methodLink RJ2 11 yJ2_newBytesLength_0f7a4, .static yJ2_newBytesLength_0f7a4, .code yJ2_newBytesLength_0f7a4 cJ2_newBytesLength_0f7a4 1 (some .int), .constant RJ2 20 (1073741823)], wsJ40]
theorem seJ5_init_d00df : sgJ5_init_d00df.flatten = wsJ5_init_d00df := by simp only [sgJ5_init_d00df, wsJ5_init_d00df, List.flatten_cons, List.flatten_nil, List.append_assoc, List.append_nil, List.cons_append, List.nil_append]
set_option maxRecDepth 20000 in
theorem ggJ5_init_d00df_J2_newBytesFor_77867 : GoodIn wsJ5_init_d00df wsJ2_newBytesFor_77867 := goodIn_s seJ5_init_d00df _ [pq_1_10, pq_1_4, pq_1_11, pq_1_12, pq_1_9, pq_1_13, pq_1_14] (by rfl) (by decide +kernel)
set_option maxRecDepth 20000 in
theorem gJ5_init_d00df_J2_newBytesFor_77867 : GoodIn wsJ5_init_d00df (va_wsS RJ5 26 yJ2_newBytesFor_77867 wsJ2_newBytesFor_77867) := goodIn_app (goodIn_s seJ5_init_d00df _ [pq_1_7, pq_1_8, pq_1_9] (by rfl) (by decide +kernel)) ggJ5_init_d00df_J2_newBytesFor_77867
def lb_sgJ5_init_d00df : List (List UInt8) := [[42, 183, 0, 3, 178, 0, 18, 153, 0, 18, 42, 27, 188, 8, 181, 0], [15, 42, 3, 181, 0, 22, 167, 0, 16, 42, 27, 184, 0, 26, 181, 0], [15, 42, 4, 181, 0, 22, 177]]
set_option maxRecDepth 100000 in
theorem lb_seJ5_init_d00df : cJ5_init_d00df.data.toList = lb_sgJ5_init_d00df.flatten := by decide +kernel
theorem lb_lnJ5_init_d00df : ∀ s ∈ lb_sgJ5_init_d00df.dropLast, s.length = 16 := by decide +kernel
theorem lxJ5_init_d00df (k j : Nat) {b : UInt8} (h : (lb_sgJ5_init_d00df[k]?).bind (fun s => s[j]?) = some b) : lb_at cJ5_init_d00df (16 * k + j) b := by
  unfold lb_at
  rw [lb_seJ5_init_d00df]
  exact lb_flat 16 lb_sgJ5_init_d00df k j b lb_lnJ5_init_d00df h
set_option maxRecDepth 20000 in
theorem dJ5_init_d00df_0 : decode cJ5_init_d00df 0 = .ok (.aload_n 0, 1) := dc_42 (lxJ5_init_d00df 0 0 rfl)
set_option maxRecDepth 20000 in
theorem dJ5_init_d00df_1 : decode cJ5_init_d00df 1 = .ok (.invokespecial 3, 3) := dc_183 0 3 (lxJ5_init_d00df 0 1 rfl) (lxJ5_init_d00df 0 2 rfl) (lxJ5_init_d00df 0 3 rfl)
set_option maxRecDepth 20000 in
theorem dJ5_init_d00df_4 : decode cJ5_init_d00df 4 = .ok (.getstatic 18, 3) := dc_178 0 18 (lxJ5_init_d00df 0 4 rfl) (lxJ5_init_d00df 0 5 rfl) (lxJ5_init_d00df 0 6 rfl)
set_option maxRecDepth 20000 in
theorem dJ5_init_d00df_7 : decode cJ5_init_d00df 7 = .ok (.ifCond .eq 18, 3) := dc_153 0 18 (lxJ5_init_d00df 0 7 rfl) (lxJ5_init_d00df 0 8 rfl) (lxJ5_init_d00df 0 9 rfl)
set_option maxRecDepth 20000 in
theorem dJ5_init_d00df_10 : decode cJ5_init_d00df 10 = .ok (.aload_n 0, 1) := dc_42 (lxJ5_init_d00df 0 10 rfl)
set_option maxRecDepth 20000 in
theorem dJ5_init_d00df_11 : decode cJ5_init_d00df 11 = .ok (.iload_n 1, 1) := dc_27 (lxJ5_init_d00df 0 11 rfl)
theorem dJ5_init_d00df_12 : decode cJ5_init_d00df 12 = .ok (.newarray .byte, 2) := by decide +kernel
set_option maxRecDepth 20000 in
theorem dJ5_init_d00df_14 : decode cJ5_init_d00df 14 = .ok (.putfield 15, 3) := dc_181 0 15 (lxJ5_init_d00df 0 14 rfl) (lxJ5_init_d00df 0 15 rfl) (lxJ5_init_d00df 1 0 rfl)
set_option maxRecDepth 20000 in
theorem dJ5_init_d00df_17 : decode cJ5_init_d00df 17 = .ok (.aload_n 0, 1) := dc_42 (lxJ5_init_d00df 1 1 rfl)
set_option maxRecDepth 20000 in
theorem dJ5_init_d00df_18 : decode cJ5_init_d00df 18 = .ok (.iconst 0, 1) := dc_3 (lxJ5_init_d00df 1 2 rfl)
set_option maxRecDepth 20000 in
theorem dJ5_init_d00df_19 : decode cJ5_init_d00df 19 = .ok (.putfield 22, 3) := dc_181 0 22 (lxJ5_init_d00df 1 3 rfl) (lxJ5_init_d00df 1 4 rfl) (lxJ5_init_d00df 1 5 rfl)
set_option maxRecDepth 20000 in
theorem dJ5_init_d00df_22 : decode cJ5_init_d00df 22 = .ok (.goto 16, 3) := dc_167 0 16 (lxJ5_init_d00df 1 6 rfl) (lxJ5_init_d00df 1 7 rfl) (lxJ5_init_d00df 1 8 rfl)
set_option maxRecDepth 20000 in
theorem dJ5_init_d00df_25 : decode cJ5_init_d00df 25 = .ok (.aload_n 0, 1) := dc_42 (lxJ5_init_d00df 1 9 rfl)
set_option maxRecDepth 20000 in
theorem dJ5_init_d00df_26 : decode cJ5_init_d00df 26 = .ok (.iload_n 1, 1) := dc_27 (lxJ5_init_d00df 1 10 rfl)
set_option maxRecDepth 20000 in
theorem dJ5_init_d00df_27 : decode cJ5_init_d00df 27 = .ok (.invokestatic 26, 3) := dc_184 0 26 (lxJ5_init_d00df 1 11 rfl) (lxJ5_init_d00df 1 12 rfl) (lxJ5_init_d00df 1 13 rfl)
set_option maxRecDepth 20000 in
theorem dJ5_init_d00df_30 : decode cJ5_init_d00df 30 = .ok (.putfield 15, 3) := dc_181 0 15 (lxJ5_init_d00df 1 14 rfl) (lxJ5_init_d00df 1 15 rfl) (lxJ5_init_d00df 2 0 rfl)
set_option maxRecDepth 20000 in
theorem dJ5_init_d00df_33 : decode cJ5_init_d00df 33 = .ok (.aload_n 0, 1) := dc_42 (lxJ5_init_d00df 2 1 rfl)
set_option maxRecDepth 20000 in
theorem dJ5_init_d00df_34 : decode cJ5_init_d00df 34 = .ok (.iconst 1, 1) := dc_4 (lxJ5_init_d00df 2 2 rfl)
set_option maxRecDepth 20000 in
theorem dJ5_init_d00df_35 : decode cJ5_init_d00df 35 = .ok (.putfield 22, 3) := dc_181 0 22 (lxJ5_init_d00df 2 3 rfl) (lxJ5_init_d00df 2 4 rfl) (lxJ5_init_d00df 2 5 rfl)
set_option maxRecDepth 20000 in
theorem dJ5_init_d00df_38 : decode cJ5_init_d00df 38 = .ok (.return_, 1) := dc_177 (lxJ5_init_d00df 2 6 rfl)
set_option maxRecDepth 20000 in
theorem dJ5_length_8abf5_0 : decode cJ5_length_8abf5 0 = .ok (.aload_n 0, 1) := dc_42 rfl
set_option maxRecDepth 20000 in
theorem dJ5_length_8abf5_1 : decode cJ5_length_8abf5 1 = .ok (.getfield 79, 3) := dc_180 0 79 rfl rfl rfl
set_option maxRecDepth 20000 in
theorem dJ5_length_8abf5_4 : decode cJ5_length_8abf5 4 = .ok (.ireturn, 1) := dc_172 rfl
noncomputable def sgJ5_ensureCapacityInternal_d00df : List (List Cond) := [[.code yJ5_ensureCapacityInternal_d00df cJ5_ensureCapacityInternal_d00df 3 none], wsJ5_ensureCapacityInternal_d00df_r1, wsJ5_ensureCapacityInternal_d00df_r2, wsJ40]
theorem seJ5_ensureCapacityInternal_d00df : sgJ5_ensureCapacityInternal_d00df.flatten = wsJ5_ensureCapacityInternal_d00df := by simp only [sgJ5_ensureCapacityInternal_d00df, wsJ5_ensureCapacityInternal_d00df, List.flatten_cons, List.flatten_nil, List.append_assoc, List.append_nil, List.cons_append, List.nil_append]
set_option maxRecDepth 20000 in
theorem ggJ5_ensureCapacityInternal_d00df_J5_newCapacity_0f7a4 : GoodIn wsJ5_ensureCapacityInternal_d00df wsJ5_newCapacity_0f7a4 := goodIn_s seJ5_ensureCapacityInternal_d00df _ [pq_1_7, pq_1_0, pq_1_1, pq_1_8, pq_1_9, pq_1_10, pq_1_11, pq_1_12, pq_1_13, pq_1_14, pq_1_15, pq_1_16, pq_1_17, pq_1_18, pq_1_19, pq_1_20, pq_3_0, pq_3_1, pq_3_2, pq_3_3] (by rfl) (by decide +kernel)
set_option maxRecDepth 20000 in
theorem gJ5_ensureCapacityInternal_d00df_J5_newCapacity_0f7a4_u104J4 : GoodIn wsJ5_ensureCapacityInternal_d00df (va_wsU RJ5 104 RJ4 "java/lang/AbstractStringBuilder" ⟨"java/lang/AbstractStringBuilder", "newCapacity", "(I)I"⟩ yJ5_newCapacity_0f7a4 wsJ5_newCapacity_0f7a4) := goodIn_app (goodIn_s seJ5_ensureCapacityInternal_d00df _ [pq_1_2, pq_1_3, pq_1_4, pq_1_5, pq_1_6] (by rfl) (by decide +kernel)) ggJ5_ensureCapacityInternal_d00df_J5_newCapacity_0f7a4
set_option maxRecDepth 20000 in
theorem ggJ5_ensureCapacityInternal_d00df_J7_copyOf_9075b : GoodIn wsJ5_ensureCapacityInternal_d00df wsJ7_copyOf_9075b := goodIn_s seJ5_ensureCapacityInternal_d00df _ [pq_2_0, pq_2_1, pq_2_2, pq_2_3, pq_2_4, pq_2_5, pq_2_6, pq_2_7, pq_2_8, pq_2_9, pq_1_15, pq_2_10, pq_2_11, pq_2_12, pq_2_13, pq_2_14] (by rfl) (by decide +kernel)
set_option maxRecDepth 20000 in
theorem gJ5_ensureCapacityInternal_d00df_J7_copyOf_9075b : GoodIn wsJ5_ensureCapacityInternal_d00df (va_wsS RJ5 108 yJ7_copyOf_9075b wsJ7_copyOf_9075b) := goodIn_app (goodIn_s seJ5_ensureCapacityInternal_d00df _ [pq_1_21, pq_1_22, pq_1_23] (by rfl) (by decide +kernel)) ggJ5_ensureCapacityInternal_d00df_J7_copyOf_9075b
def lb_sgJ5_ensureCapacityInternal_d00df : List (List UInt8) := [[42, 180, 0, 15, 190, 42, 180, 0, 22, 122, 61, 27, 28, 100, 158, 0], [24, 42, 42, 180, 0, 15, 42, 27, 182, 0, 104, 42, 180, 0, 22, 120], [184, 0, 108, 181, 0, 15, 177]]
set_option maxRecDepth 100000 in
theorem lb_seJ5_ensureCapacityInternal_d00df : cJ5_ensureCapacityInternal_d00df.data.toList = lb_sgJ5_ensureCapacityInternal_d00df.flatten := by decide +kernel
theorem lb_lnJ5_ensureCapacityInternal_d00df : ∀ s ∈ lb_sgJ5_ensureCapacityInternal_d00df.dropLast, s.length = 16 := by decide +kernel
theorem lxJ5_ensureCapacityInternal_d00df (k j : Nat) {b : UInt8} (h : (lb_sgJ5_ensureCapacityInternal_d00df[k]?).bind (fun s => s[j]?) = some b) : lb_at cJ5_ensureCapacityInternal_d00df (16 * k + j) b := by
  unfold lb_at
  rw [lb_seJ5_ensureCapacityInternal_d00df]
  exact lb_flat 16 lb_sgJ5_ensureCapacityInternal_d00df k j b lb_lnJ5_ensureCapacityInternal_d00df h
set_option maxRecDepth 20000 in
theorem dJ5_ensureCapacityInternal_d00df_0 : decode cJ5_ensureCapacityInternal_d00df 0 = .ok (.aload_n 0, 1) := dc_42 (lxJ5_ensureCapacityInternal_d00df 0 0 rfl)
set_option maxRecDepth 20000 in
theorem dJ5_ensureCapacityInternal_d00df_1 : decode cJ5_ensureCapacityInternal_d00df 1 = .ok (.getfield 15, 3) := dc_180 0 15 (lxJ5_ensureCapacityInternal_d00df 0 1 rfl) (lxJ5_ensureCapacityInternal_d00df 0 2 rfl) (lxJ5_ensureCapacityInternal_d00df 0 3 rfl)
set_option maxRecDepth 20000 in
theorem dJ5_ensureCapacityInternal_d00df_4 : decode cJ5_ensureCapacityInternal_d00df 4 = .ok (.arraylength, 1) := dc_190 (lxJ5_ensureCapacityInternal_d00df 0 4 rfl)
set_option maxRecDepth 20000 in
theorem dJ5_ensureCapacityInternal_d00df_5 : decode cJ5_ensureCapacityInternal_d00df 5 = .ok (.aload_n 0, 1) := dc_42 (lxJ5_ensureCapacityInternal_d00df 0 5 rfl)
set_option maxRecDepth 20000 in
theorem dJ5_ensureCapacityInternal_d00df_6 : decode cJ5_ensureCapacityInternal_d00df 6 = .ok (.getfield 22, 3) := dc_180 0 22 (lxJ5_ensureCapacityInternal_d00df 0 6 rfl) (lxJ5_ensureCapacityInternal_d00df 0 7 rfl) (lxJ5_ensureCapacityInternal_d00df 0 8 rfl)
set_option maxRecDepth 20000 in
theorem dJ5_ensureCapacityInternal_d00df_9 : decode cJ5_ensureCapacityInternal_d00df 9 = .ok (.ishr, 1) := dc_122 (lxJ5_ensureCapacityInternal_d00df 0 9 rfl)
set_option maxRecDepth 20000 in
theorem dJ5_ensureCapacityInternal_d00df_10 : decode cJ5_ensureCapacityInternal_d00df 10 = .ok (.istore_n 2, 1) := dc_61 (lxJ5_ensureCapacityInternal_d00df 0 10 rfl)
set_option maxRecDepth 20000 in
theorem dJ5_ensureCapacityInternal_d00df_11 : decode cJ5_ensureCapacityInternal_d00df 11 = .ok (.iload_n 1, 1) := dc_27 (lxJ5_ensureCapacityInternal_d00df 0 11 rfl)
set_option maxRecDepth 20000 in
theorem dJ5_ensureCapacityInternal_d00df_12 : decode cJ5_ensureCapacityInternal_d00df 12 = .ok (.iload_n 2, 1) := dc_28 (lxJ5_ensureCapacityInternal_d00df 0 12 rfl)
set_option maxRecDepth 20000 in
theorem dJ5_ensureCapacityInternal_d00df_13 : decode cJ5_ensureCapacityInternal_d00df 13 = .ok (.isub, 1) := dc_100 (lxJ5_ensureCapacityInternal_d00df 0 13 rfl)
set_option maxRecDepth 20000 in
theorem dJ5_ensureCapacityInternal_d00df_14 : decode cJ5_ensureCapacityInternal_d00df 14 = .ok (.ifCond .le 24, 3) := dc_158 0 24 (lxJ5_ensureCapacityInternal_d00df 0 14 rfl) (lxJ5_ensureCapacityInternal_d00df 0 15 rfl) (lxJ5_ensureCapacityInternal_d00df 1 0 rfl)
set_option maxRecDepth 20000 in
theorem dJ5_ensureCapacityInternal_d00df_17 : decode cJ5_ensureCapacityInternal_d00df 17 = .ok (.aload_n 0, 1) := dc_42 (lxJ5_ensureCapacityInternal_d00df 1 1 rfl)
set_option maxRecDepth 20000 in
theorem dJ5_ensureCapacityInternal_d00df_18 : decode cJ5_ensureCapacityInternal_d00df 18 = .ok (.aload_n 0, 1) := dc_42 (lxJ5_ensureCapacityInternal_d00df 1 2 rfl)
set_option maxRecDepth 20000 in
theorem dJ5_ensureCapacityInternal_d00df_19 : decode cJ5_ensureCapacityInternal_d00df 19 = .ok (.getfield 15, 3) := dc_180 0 15 (lxJ5_ensureCapacityInternal_d00df 1 3 rfl) (lxJ5_ensureCapacityInternal_d00df 1 4 rfl) (lxJ5_ensureCapacityInternal_d00df 1 5 rfl)
set_option maxRecDepth 20000 in
theorem dJ5_ensureCapacityInternal_d00df_22 : decode cJ5_ensureCapacityInternal_d00df 22 = .ok (.aload_n 0, 1) := dc_42 (lxJ5_ensureCapacityInternal_d00df 1 6 rfl)
set_option maxRecDepth 20000 in
theorem dJ5_ensureCapacityInternal_d00df_23 : decode cJ5_ensureCapacityInternal_d00df 23 = .ok (.iload_n 1, 1) := dc_27 (lxJ5_ensureCapacityInternal_d00df 1 7 rfl)
set_option maxRecDepth 20000 in
theorem dJ5_ensureCapacityInternal_d00df_24 : decode cJ5_ensureCapacityInternal_d00df 24 = .ok (.invokevirtual 104, 3) := dc_182 0 104 (lxJ5_ensureCapacityInternal_d00df 1 8 rfl) (lxJ5_ensureCapacityInternal_d00df 1 9 rfl) (lxJ5_ensureCapacityInternal_d00df 1 10 rfl)
set_option maxRecDepth 20000 in
theorem dJ5_ensureCapacityInternal_d00df_27 : decode cJ5_ensureCapacityInternal_d00df 27 = .ok (.aload_n 0, 1) := dc_42 (lxJ5_ensureCapacityInternal_d00df 1 11 rfl)
set_option maxRecDepth 20000 in
theorem dJ5_ensureCapacityInternal_d00df_28 : decode cJ5_ensureCapacityInternal_d00df 28 = .ok (.getfield 22, 3) := dc_180 0 22 (lxJ5_ensureCapacityInternal_d00df 1 12 rfl) (lxJ5_ensureCapacityInternal_d00df 1 13 rfl) (lxJ5_ensureCapacityInternal_d00df 1 14 rfl)
set_option maxRecDepth 20000 in
theorem dJ5_ensureCapacityInternal_d00df_31 : decode cJ5_ensureCapacityInternal_d00df 31 = .ok (.ishl, 1) := dc_120 (lxJ5_ensureCapacityInternal_d00df 1 15 rfl)
set_option maxRecDepth 20000 in
theorem dJ5_ensureCapacityInternal_d00df_32 : decode cJ5_ensureCapacityInternal_d00df 32 = .ok (.invokestatic 108, 3) := dc_184 0 108 (lxJ5_ensureCapacityInternal_d00df 2 0 rfl) (lxJ5_ensureCapacityInternal_d00df 2 1 rfl) (lxJ5_ensureCapacityInternal_d00df 2 2 rfl)
set_option maxRecDepth 20000 in
theorem dJ5_ensureCapacityInternal_d00df_35 : decode cJ5_ensureCapacityInternal_d00df 35 = .ok (.putfield 15, 3) := dc_181 0 15 (lxJ5_ensureCapacityInternal_d00df 2 3 rfl) (lxJ5_ensureCapacityInternal_d00df 2 4 rfl) (lxJ5_ensureCapacityInternal_d00df 2 5 rfl)
set_option maxRecDepth 20000 in
theorem dJ5_ensureCapacityInternal_d00df_38 : decode cJ5_ensureCapacityInternal_d00df 38 = .ok (.return_, 1) := dc_177 (lxJ5_ensureCapacityInternal_d00df 2 6 rfl)
noncomputable def sgJ5_newCapacity_0f7a4 : List (List Cond) := [[.code yJ5_newCapacity_0f7a4 cJ5_newCapacity_0f7a4 6 (some .int)], [.fieldLink RJ5 15 "java/lang/AbstractStringBuilder" "value" "[B", .fieldLink RJ5 22 "java/lang/AbstractStringBuilder" "coder" "B", .constant RJ5 39 (2147483647), .methodLink RJ5 114 yJ8_newLength_cabcc, .static yJ8_newLength_cabcc, .initialized RJ8, .code yJ8_newLength_cabcc cJ8_newLength_cabcc 4 (some .int), .methodLink RJ8 194 Lib.Math.max.name, .static Lib.Math.max.name, .initialized "java/lang/Math", .code Lib.Math.max.name Lib.Math.max.code 2 (some .int), .constant RJ8 200 (2147483639), .methodLink RJ8 201 yJ8_hugeLength_7cf53, .static yJ8_hugeLength_7cf53, .code yJ8_hugeLength_7cf53 cJ8_hugeLength_7cf53 3 (some .int)], wsJ40]
theorem seJ5_newCapacity_0f7a4 : sgJ5_newCapacity_0f7a4.flatten = wsJ5_newCapacity_0f7a4 := by simp only [sgJ5_newCapacity_0f7a4, wsJ5_newCapacity_0f7a4, List.flatten_cons, List.flatten_nil, List.append_assoc, List.append_nil, List.cons_append, List.nil_append]
set_option maxRecDepth 20000 in
theorem ggJ5_newCapacity_0f7a4_J8_newLength_cabcc : GoodIn wsJ5_newCapacity_0f7a4 wsJ8_newLength_cabcc := goodIn_s seJ5_newCapacity_0f7a4 _ [pq_1_6, pq_1_7, pq_1_8, pq_1_9, pq_1_10, pq_1_11, pq_1_12, pq_1_13, pq_1_5, pq_1_14] (by rfl) (by decide +kernel)
set_option maxRecDepth 20000 in
theorem gJ5_newCapacity_0f7a4_J8_newLength_cabcc : GoodIn wsJ5_newCapacity_0f7a4 (va_wsS RJ5 114 yJ8_newLength_cabcc wsJ8_newLength_cabcc) := goodIn_app (goodIn_s seJ5_newCapacity_0f7a4 _ [pq_1_3, pq_1_4, pq_1_5] (by rfl) (by decide +kernel)) ggJ5_newCapacity_0f7a4_J8_newLength_cabcc
def lb_sgJ5_newCapacity_0f7a4 : List (List UInt8) := [[42, 180, 0, 15, 190, 61, 27, 42, 180, 0, 22, 120, 62, 29, 28, 100], [54, 4, 28, 21, 4, 28, 5, 42, 180, 0, 22, 120, 96, 184, 0, 114], [54, 5, 21, 5, 18, 39, 160, 0, 13, 187, 0, 120, 89, 18, 122, 183], [0, 124, 191, 21, 5, 42, 180, 0, 22, 122, 172]]
set_option maxRecDepth 100000 in
theorem lb_seJ5_newCapacity_0f7a4 : cJ5_newCapacity_0f7a4.data.toList = lb_sgJ5_newCapacity_0f7a4.flatten := by decide +kernel
theorem lb_lnJ5_newCapacity_0f7a4 : ∀ s ∈ lb_sgJ5_newCapacity_0f7a4.dropLast, s.length = 16 := by decide +kernel
theorem lxJ5_newCapacity_0f7a4 (k j : Nat) {b : UInt8} (h : (lb_sgJ5_newCapacity_0f7a4[k]?).bind (fun s => s[j]?) = some b) : lb_at cJ5_newCapacity_0f7a4 (16 * k + j) b := by
  unfold lb_at
  rw [lb_seJ5_newCapacity_0f7a4]
  exact lb_flat 16 lb_sgJ5_newCapacity_0f7a4 k j b lb_lnJ5_newCapacity_0f7a4 h
set_option maxRecDepth 20000 in
theorem dJ5_newCapacity_0f7a4_0 : decode cJ5_newCapacity_0f7a4 0 = .ok (.aload_n 0, 1) := dc_42 (lxJ5_newCapacity_0f7a4 0 0 rfl)
set_option maxRecDepth 20000 in
theorem dJ5_newCapacity_0f7a4_1 : decode cJ5_newCapacity_0f7a4 1 = .ok (.getfield 15, 3) := dc_180 0 15 (lxJ5_newCapacity_0f7a4 0 1 rfl) (lxJ5_newCapacity_0f7a4 0 2 rfl) (lxJ5_newCapacity_0f7a4 0 3 rfl)
set_option maxRecDepth 20000 in
theorem dJ5_newCapacity_0f7a4_4 : decode cJ5_newCapacity_0f7a4 4 = .ok (.arraylength, 1) := dc_190 (lxJ5_newCapacity_0f7a4 0 4 rfl)
set_option maxRecDepth 20000 in
theorem dJ5_newCapacity_0f7a4_5 : decode cJ5_newCapacity_0f7a4 5 = .ok (.istore_n 2, 1) := dc_61 (lxJ5_newCapacity_0f7a4 0 5 rfl)
set_option maxRecDepth 20000 in
theorem dJ5_newCapacity_0f7a4_6 : decode cJ5_newCapacity_0f7a4 6 = .ok (.iload_n 1, 1) := dc_27 (lxJ5_newCapacity_0f7a4 0 6 rfl)
set_option maxRecDepth 20000 in
theorem dJ5_newCapacity_0f7a4_7 : decode cJ5_newCapacity_0f7a4 7 = .ok (.aload_n 0, 1) := dc_42 (lxJ5_newCapacity_0f7a4 0 7 rfl)
set_option maxRecDepth 20000 in
theorem dJ5_newCapacity_0f7a4_8 : decode cJ5_newCapacity_0f7a4 8 = .ok (.getfield 22, 3) := dc_180 0 22 (lxJ5_newCapacity_0f7a4 0 8 rfl) (lxJ5_newCapacity_0f7a4 0 9 rfl) (lxJ5_newCapacity_0f7a4 0 10 rfl)
set_option maxRecDepth 20000 in
theorem dJ5_newCapacity_0f7a4_11 : decode cJ5_newCapacity_0f7a4 11 = .ok (.ishl, 1) := dc_120 (lxJ5_newCapacity_0f7a4 0 11 rfl)
set_option maxRecDepth 20000 in
theorem dJ5_newCapacity_0f7a4_12 : decode cJ5_newCapacity_0f7a4 12 = .ok (.istore_n 3, 1) := dc_62 (lxJ5_newCapacity_0f7a4 0 12 rfl)
set_option maxRecDepth 20000 in
theorem dJ5_newCapacity_0f7a4_13 : decode cJ5_newCapacity_0f7a4 13 = .ok (.iload_n 3, 1) := dc_29 (lxJ5_newCapacity_0f7a4 0 13 rfl)
set_option maxRecDepth 20000 in
theorem dJ5_newCapacity_0f7a4_14 : decode cJ5_newCapacity_0f7a4 14 = .ok (.iload_n 2, 1) := dc_28 (lxJ5_newCapacity_0f7a4 0 14 rfl)
set_option maxRecDepth 20000 in
theorem dJ5_newCapacity_0f7a4_15 : decode cJ5_newCapacity_0f7a4 15 = .ok (.isub, 1) := dc_100 (lxJ5_newCapacity_0f7a4 0 15 rfl)
set_option maxRecDepth 20000 in
theorem dJ5_newCapacity_0f7a4_16 : decode cJ5_newCapacity_0f7a4 16 = .ok (.istore 4, 2) := dc_54 4 (lxJ5_newCapacity_0f7a4 1 0 rfl) (lxJ5_newCapacity_0f7a4 1 1 rfl)
set_option maxRecDepth 20000 in
theorem dJ5_newCapacity_0f7a4_18 : decode cJ5_newCapacity_0f7a4 18 = .ok (.iload_n 2, 1) := dc_28 (lxJ5_newCapacity_0f7a4 1 2 rfl)
set_option maxRecDepth 20000 in
theorem dJ5_newCapacity_0f7a4_19 : decode cJ5_newCapacity_0f7a4 19 = .ok (.iload 4, 2) := dc_21 4 (lxJ5_newCapacity_0f7a4 1 3 rfl) (lxJ5_newCapacity_0f7a4 1 4 rfl)
set_option maxRecDepth 20000 in
theorem dJ5_newCapacity_0f7a4_21 : decode cJ5_newCapacity_0f7a4 21 = .ok (.iload_n 2, 1) := dc_28 (lxJ5_newCapacity_0f7a4 1 5 rfl)
set_option maxRecDepth 20000 in
theorem dJ5_newCapacity_0f7a4_22 : decode cJ5_newCapacity_0f7a4 22 = .ok (.iconst 2, 1) := dc_5 (lxJ5_newCapacity_0f7a4 1 6 rfl)
set_option maxRecDepth 20000 in
theorem dJ5_newCapacity_0f7a4_23 : decode cJ5_newCapacity_0f7a4 23 = .ok (.aload_n 0, 1) := dc_42 (lxJ5_newCapacity_0f7a4 1 7 rfl)
set_option maxRecDepth 20000 in
theorem dJ5_newCapacity_0f7a4_24 : decode cJ5_newCapacity_0f7a4 24 = .ok (.getfield 22, 3) := dc_180 0 22 (lxJ5_newCapacity_0f7a4 1 8 rfl) (lxJ5_newCapacity_0f7a4 1 9 rfl) (lxJ5_newCapacity_0f7a4 1 10 rfl)
set_option maxRecDepth 20000 in
theorem dJ5_newCapacity_0f7a4_27 : decode cJ5_newCapacity_0f7a4 27 = .ok (.ishl, 1) := dc_120 (lxJ5_newCapacity_0f7a4 1 11 rfl)
set_option maxRecDepth 20000 in
theorem dJ5_newCapacity_0f7a4_28 : decode cJ5_newCapacity_0f7a4 28 = .ok (.iadd, 1) := dc_96 (lxJ5_newCapacity_0f7a4 1 12 rfl)
set_option maxRecDepth 20000 in
theorem dJ5_newCapacity_0f7a4_29 : decode cJ5_newCapacity_0f7a4 29 = .ok (.invokestatic 114, 3) := dc_184 0 114 (lxJ5_newCapacity_0f7a4 1 13 rfl) (lxJ5_newCapacity_0f7a4 1 14 rfl) (lxJ5_newCapacity_0f7a4 1 15 rfl)
set_option maxRecDepth 20000 in
theorem dJ5_newCapacity_0f7a4_32 : decode cJ5_newCapacity_0f7a4 32 = .ok (.istore 5, 2) := dc_54 5 (lxJ5_newCapacity_0f7a4 2 0 rfl) (lxJ5_newCapacity_0f7a4 2 1 rfl)
set_option maxRecDepth 20000 in
theorem dJ5_newCapacity_0f7a4_34 : decode cJ5_newCapacity_0f7a4 34 = .ok (.iload 5, 2) := dc_21 5 (lxJ5_newCapacity_0f7a4 2 2 rfl) (lxJ5_newCapacity_0f7a4 2 3 rfl)
set_option maxRecDepth 20000 in
theorem dJ5_newCapacity_0f7a4_36 : decode cJ5_newCapacity_0f7a4 36 = .ok (.ldc 39, 2) := dc_18 39 (lxJ5_newCapacity_0f7a4 2 4 rfl) (lxJ5_newCapacity_0f7a4 2 5 rfl)
set_option maxRecDepth 20000 in
theorem dJ5_newCapacity_0f7a4_38 : decode cJ5_newCapacity_0f7a4 38 = .ok (.if_icmp .ne 13, 3) := dc_160 0 13 (lxJ5_newCapacity_0f7a4 2 6 rfl) (lxJ5_newCapacity_0f7a4 2 7 rfl) (lxJ5_newCapacity_0f7a4 2 8 rfl)
set_option maxRecDepth 20000 in
theorem dJ5_newCapacity_0f7a4_41 : decode cJ5_newCapacity_0f7a4 41 = .ok (.new 120, 3) := dc_187 0 120 (lxJ5_newCapacity_0f7a4 2 9 rfl) (lxJ5_newCapacity_0f7a4 2 10 rfl) (lxJ5_newCapacity_0f7a4 2 11 rfl)
set_option maxRecDepth 20000 in
theorem dJ5_newCapacity_0f7a4_44 : decode cJ5_newCapacity_0f7a4 44 = .ok (.dup, 1) := dc_89 (lxJ5_newCapacity_0f7a4 2 12 rfl)
set_option maxRecDepth 20000 in
theorem dJ5_newCapacity_0f7a4_45 : decode cJ5_newCapacity_0f7a4 45 = .ok (.ldc 122, 2) := dc_18 122 (lxJ5_newCapacity_0f7a4 2 13 rfl) (lxJ5_newCapacity_0f7a4 2 14 rfl)
set_option maxRecDepth 20000 in
theorem dJ5_newCapacity_0f7a4_47 : decode cJ5_newCapacity_0f7a4 47 = .ok (.invokespecial 124, 3) := dc_183 0 124 (lxJ5_newCapacity_0f7a4 2 15 rfl) (lxJ5_newCapacity_0f7a4 3 0 rfl) (lxJ5_newCapacity_0f7a4 3 1 rfl)
set_option maxRecDepth 20000 in
theorem dJ5_newCapacity_0f7a4_50 : decode cJ5_newCapacity_0f7a4 50 = .ok (.athrow, 1) := dc_191 (lxJ5_newCapacity_0f7a4 3 2 rfl)
set_option maxRecDepth 20000 in
theorem dJ5_newCapacity_0f7a4_51 : decode cJ5_newCapacity_0f7a4 51 = .ok (.iload 5, 2) := dc_21 5 (lxJ5_newCapacity_0f7a4 3 3 rfl) (lxJ5_newCapacity_0f7a4 3 4 rfl)
set_option maxRecDepth 20000 in
theorem dJ5_newCapacity_0f7a4_53 : decode cJ5_newCapacity_0f7a4 53 = .ok (.aload_n 0, 1) := dc_42 (lxJ5_newCapacity_0f7a4 3 5 rfl)
set_option maxRecDepth 20000 in
theorem dJ5_newCapacity_0f7a4_54 : decode cJ5_newCapacity_0f7a4 54 = .ok (.getfield 22, 3) := dc_180 0 22 (lxJ5_newCapacity_0f7a4 3 6 rfl) (lxJ5_newCapacity_0f7a4 3 7 rfl) (lxJ5_newCapacity_0f7a4 3 8 rfl)
set_option maxRecDepth 20000 in
theorem dJ5_newCapacity_0f7a4_57 : decode cJ5_newCapacity_0f7a4 57 = .ok (.ishr, 1) := dc_122 (lxJ5_newCapacity_0f7a4 3 9 rfl)
set_option maxRecDepth 20000 in
theorem dJ5_newCapacity_0f7a4_58 : decode cJ5_newCapacity_0f7a4 58 = .ok (.ireturn, 1) := dc_172 (lxJ5_newCapacity_0f7a4 3 10 rfl)
noncomputable def sgJ5_append_3fe6f : List (List Cond) := [[.code yJ5_append_3fe6f cJ5_append_3fe6f 2 (some (.object "java/lang/AbstractStringBuilder"))], wsJ5_append_3fe6f_r1, wsJ5_append_3fe6f_r2, wsJ5_append_3fe6f_r3, wsJ5_append_3fe6f_r4, wsJ5_append_3fe6f_r5, wsJ40]
theorem seJ5_append_3fe6f : sgJ5_append_3fe6f.flatten = wsJ5_append_3fe6f := by simp only [sgJ5_append_3fe6f, wsJ5_append_3fe6f, List.flatten_cons, List.flatten_nil, List.append_assoc, List.append_nil, List.cons_append, List.nil_append]
set_option maxRecDepth 20000 in
theorem ggJ5_append_3fe6f_J5_ensureCapacityInternal_d00df : GoodIn wsJ5_append_3fe6f wsJ5_ensureCapacityInternal_d00df := goodIn_s seJ5_append_3fe6f _ [pq_1_7, pq_1_1, pq_1_8, pq_1_9, pq_1_10, pq_1_11, pq_1_12, pq_1_6, pq_1_13, pq_1_14, pq_1_15, pq_1_16, pq_1_17, pq_1_18, pq_1_19, pq_1_20, pq_1_21, pq_1_22, pq_1_23, pq_2_0, pq_2_1, pq_2_2, pq_2_3, pq_2_4, pq_2_5, pq_2_6, pq_2_7, pq_2_8, pq_2_9, pq_2_10, pq_2_11, pq_2_12, pq_2_13, pq_2_14, pq_2_15, pq_2_16, pq_2_17, pq_2_18, pq_2_19, pq_2_20, pq_6_0, pq_6_1, pq_6_2, pq_6_3] (by rfl) (by decide +kernel)
set_option maxRecDepth 20000 in
theorem gJ5_append_3fe6f_J5_ensureCapacityInternal_d00df_u100J4 : GoodIn wsJ5_append_3fe6f (va_wsU RJ5 100 RJ4 "java/lang/AbstractStringBuilder" ⟨"java/lang/AbstractStringBuilder", "ensureCapacityInternal", "(I)V"⟩ yJ5_ensureCapacityInternal_d00df wsJ5_ensureCapacityInternal_d00df) := goodIn_app (goodIn_s seJ5_append_3fe6f _ [pq_1_2, pq_1_3, pq_1_4, pq_1_5, pq_1_6] (by rfl) (by decide +kernel)) ggJ5_append_3fe6f_J5_ensureCapacityInternal_d00df
set_option maxRecDepth 20000 in
theorem ggJ5_append_3fe6f_J5_isLatin1_aae02 : GoodIn wsJ5_append_3fe6f wsJ5_isLatin1_aae02 := goodIn_s seJ5_append_3fe6f _ [pq_3_1, pq_3_2, pq_1_8, pq_6_0, pq_6_1, pq_6_2, pq_6_3] (by rfl) (by decide +kernel)
set_option maxRecDepth 20000 in
theorem gJ5_append_3fe6f_J5_isLatin1_aae02_u83J4 : GoodIn wsJ5_append_3fe6f (va_wsU RJ5 83 RJ4 "java/lang/AbstractStringBuilder" ⟨"java/lang/AbstractStringBuilder", "isLatin1", "()Z"⟩ yJ5_isLatin1_aae02 wsJ5_isLatin1_aae02) := goodIn_app (goodIn_s seJ5_append_3fe6f _ [pq_2_21, pq_2_22, pq_2_23, pq_3_0, pq_1_6] (by rfl) (by decide +kernel)) ggJ5_append_3fe6f_J5_isLatin1_aae02
set_option maxRecDepth 20000 in
theorem ggJ5_append_3fe6f_J1_canEncode_fc78d : GoodIn wsJ5_append_3fe6f wsJ1_canEncode_fc78d := goodIn_s seJ5_append_3fe6f _ [pq_3_6] (by rfl) (by decide +kernel)
set_option maxRecDepth 20000 in
theorem gJ5_append_3fe6f_J1_canEncode_fc78d : GoodIn wsJ5_append_3fe6f (va_wsS RJ5 191 yJ1_canEncode_fc78d wsJ1_canEncode_fc78d) := goodIn_app (goodIn_s seJ5_append_3fe6f _ [pq_3_3, pq_3_4, pq_3_5] (by rfl) (by decide +kernel)) ggJ5_append_3fe6f_J1_canEncode_fc78d
set_option maxRecDepth 20000 in
theorem ggJ5_append_3fe6f_J5_inflate_da8c8 : GoodIn wsJ5_append_3fe6f wsJ5_inflate_da8c8 := goodIn_s seJ5_append_3fe6f _ [pq_3_11, pq_1_1, pq_1_0, pq_1_8, pq_2_21, pq_2_22, pq_2_23, pq_3_0, pq_1_6, pq_3_1, pq_3_2, pq_3_12, pq_3_13, pq_3_14, pq_3_15, pq_2_13, pq_3_16, pq_3_17, pq_3_18, pq_3_19, pq_3_20, pq_3_21, pq_3_5, pq_3_22, pq_3_23, pq_4_0, pq_4_1, pq_4_2, pq_4_3, pq_4_4, pq_4_5, pq_4_6, pq_4_7, pq_4_8, pq_4_9, pq_4_10, pq_4_11, pq_4_12, pq_4_13, pq_4_14, pq_4_15, pq_4_16, pq_4_17, pq_4_18, pq_4_19, pq_4_20, pq_4_21, pq_4_22, pq_6_0, pq_6_1, pq_6_2, pq_6_3] (by rfl) (by decide +kernel)
set_option maxRecDepth 20000 in
theorem gJ5_append_3fe6f_J5_inflate_da8c8_u195J4 : GoodIn wsJ5_append_3fe6f (va_wsU RJ5 195 RJ4 "java/lang/AbstractStringBuilder" ⟨"java/lang/AbstractStringBuilder", "inflate", "()V"⟩ yJ5_inflate_da8c8 wsJ5_inflate_da8c8) := goodIn_app (goodIn_s seJ5_append_3fe6f _ [pq_3_7, pq_3_8, pq_3_9, pq_3_10, pq_1_6] (by rfl) (by decide +kernel)) ggJ5_append_3fe6f_J5_inflate_da8c8
set_option maxRecDepth 20000 in
theorem ggJ5_append_3fe6f_J2_putCharSB_b72d1 : GoodIn wsJ5_append_3fe6f wsJ2_putCharSB_b72d1 := goodIn_s seJ5_append_3fe6f _ [pq_5_1, pq_5_2, pq_5_3, pq_3_14, pq_5_4, pq_4_5, pq_4_6, pq_4_7, pq_5_5, pq_5_6, pq_4_10, pq_5_7, pq_4_12, pq_5_8, pq_5_9, pq_4_15, pq_5_10, pq_4_17, pq_4_18, pq_4_19, pq_4_20, pq_4_21, pq_4_22] (by rfl) (by decide +kernel)
set_option maxRecDepth 20000 in
theorem gJ5_append_3fe6f_J2_putCharSB_b72d1 : GoodIn wsJ5_append_3fe6f (va_wsS RJ5 197 yJ2_putCharSB_b72d1 wsJ2_putCharSB_b72d1) := goodIn_app (goodIn_s seJ5_append_3fe6f _ [pq_4_23, pq_5_0, pq_3_14] (by rfl) (by decide +kernel)) ggJ5_append_3fe6f_J2_putCharSB_b72d1
def lb_sgJ5_append_3fe6f : List (List UInt8) := [[42, 42, 180, 0, 79, 4, 96, 182, 0, 100, 42, 182, 0, 83, 153, 0], [31, 27, 184, 0, 191, 153, 0, 24, 42, 180, 0, 15, 42, 89, 180, 0], [79, 90, 4, 96, 181, 0, 79, 27, 145, 84, 167, 0, 33, 42, 182, 0], [83, 153, 0, 7, 42, 182, 0, 195, 42, 180, 0, 15, 42, 89, 180, 0], [79, 90, 4, 96, 181, 0, 79, 27, 184, 0, 197, 42, 176]]
set_option maxRecDepth 100000 in
theorem lb_seJ5_append_3fe6f : cJ5_append_3fe6f.data.toList = lb_sgJ5_append_3fe6f.flatten := by decide +kernel
theorem lb_lnJ5_append_3fe6f : ∀ s ∈ lb_sgJ5_append_3fe6f.dropLast, s.length = 16 := by decide +kernel
theorem lxJ5_append_3fe6f (k j : Nat) {b : UInt8} (h : (lb_sgJ5_append_3fe6f[k]?).bind (fun s => s[j]?) = some b) : lb_at cJ5_append_3fe6f (16 * k + j) b := by
  unfold lb_at
  rw [lb_seJ5_append_3fe6f]
  exact lb_flat 16 lb_sgJ5_append_3fe6f k j b lb_lnJ5_append_3fe6f h
set_option maxRecDepth 20000 in
theorem dJ5_append_3fe6f_0 : decode cJ5_append_3fe6f 0 = .ok (.aload_n 0, 1) := dc_42 (lxJ5_append_3fe6f 0 0 rfl)
set_option maxRecDepth 20000 in
theorem dJ5_append_3fe6f_1 : decode cJ5_append_3fe6f 1 = .ok (.aload_n 0, 1) := dc_42 (lxJ5_append_3fe6f 0 1 rfl)
set_option maxRecDepth 20000 in
theorem dJ5_append_3fe6f_2 : decode cJ5_append_3fe6f 2 = .ok (.getfield 79, 3) := dc_180 0 79 (lxJ5_append_3fe6f 0 2 rfl) (lxJ5_append_3fe6f 0 3 rfl) (lxJ5_append_3fe6f 0 4 rfl)
set_option maxRecDepth 20000 in
theorem dJ5_append_3fe6f_5 : decode cJ5_append_3fe6f 5 = .ok (.iconst 1, 1) := dc_4 (lxJ5_append_3fe6f 0 5 rfl)
set_option maxRecDepth 20000 in
theorem dJ5_append_3fe6f_6 : decode cJ5_append_3fe6f 6 = .ok (.iadd, 1) := dc_96 (lxJ5_append_3fe6f 0 6 rfl)
set_option maxRecDepth 20000 in
theorem dJ5_append_3fe6f_7 : decode cJ5_append_3fe6f 7 = .ok (.invokevirtual 100, 3) := dc_182 0 100 (lxJ5_append_3fe6f 0 7 rfl) (lxJ5_append_3fe6f 0 8 rfl) (lxJ5_append_3fe6f 0 9 rfl)
set_option maxRecDepth 20000 in
theorem dJ5_append_3fe6f_10 : decode cJ5_append_3fe6f 10 = .ok (.aload_n 0, 1) := dc_42 (lxJ5_append_3fe6f 0 10 rfl)
set_option maxRecDepth 20000 in
theorem dJ5_append_3fe6f_11 : decode cJ5_append_3fe6f 11 = .ok (.invokevirtual 83, 3) := dc_182 0 83 (lxJ5_append_3fe6f 0 11 rfl) (lxJ5_append_3fe6f 0 12 rfl) (lxJ5_append_3fe6f 0 13 rfl)
set_option maxRecDepth 20000 in
theorem dJ5_append_3fe6f_14 : decode cJ5_append_3fe6f 14 = .ok (.ifCond .eq 31, 3) := dc_153 0 31 (lxJ5_append_3fe6f 0 14 rfl) (lxJ5_append_3fe6f 0 15 rfl) (lxJ5_append_3fe6f 1 0 rfl)
set_option maxRecDepth 20000 in
theorem dJ5_append_3fe6f_17 : decode cJ5_append_3fe6f 17 = .ok (.iload_n 1, 1) := dc_27 (lxJ5_append_3fe6f 1 1 rfl)
set_option maxRecDepth 20000 in
theorem dJ5_append_3fe6f_18 : decode cJ5_append_3fe6f 18 = .ok (.invokestatic 191, 3) := dc_184 0 191 (lxJ5_append_3fe6f 1 2 rfl) (lxJ5_append_3fe6f 1 3 rfl) (lxJ5_append_3fe6f 1 4 rfl)
set_option maxRecDepth 20000 in
theorem dJ5_append_3fe6f_21 : decode cJ5_append_3fe6f 21 = .ok (.ifCond .eq 24, 3) := dc_153 0 24 (lxJ5_append_3fe6f 1 5 rfl) (lxJ5_append_3fe6f 1 6 rfl) (lxJ5_append_3fe6f 1 7 rfl)
set_option maxRecDepth 20000 in
theorem dJ5_append_3fe6f_24 : decode cJ5_append_3fe6f 24 = .ok (.aload_n 0, 1) := dc_42 (lxJ5_append_3fe6f 1 8 rfl)
set_option maxRecDepth 20000 in
theorem dJ5_append_3fe6f_25 : decode cJ5_append_3fe6f 25 = .ok (.getfield 15, 3) := dc_180 0 15 (lxJ5_append_3fe6f 1 9 rfl) (lxJ5_append_3fe6f 1 10 rfl) (lxJ5_append_3fe6f 1 11 rfl)
set_option maxRecDepth 20000 in
theorem dJ5_append_3fe6f_28 : decode cJ5_append_3fe6f 28 = .ok (.aload_n 0, 1) := dc_42 (lxJ5_append_3fe6f 1 12 rfl)
set_option maxRecDepth 20000 in
theorem dJ5_append_3fe6f_29 : decode cJ5_append_3fe6f 29 = .ok (.dup, 1) := dc_89 (lxJ5_append_3fe6f 1 13 rfl)
set_option maxRecDepth 20000 in
theorem dJ5_append_3fe6f_30 : decode cJ5_append_3fe6f 30 = .ok (.getfield 79, 3) := dc_180 0 79 (lxJ5_append_3fe6f 1 14 rfl) (lxJ5_append_3fe6f 1 15 rfl) (lxJ5_append_3fe6f 2 0 rfl)
set_option maxRecDepth 20000 in
theorem dJ5_append_3fe6f_33 : decode cJ5_append_3fe6f 33 = .ok (.dup_x1, 1) := dc_90 (lxJ5_append_3fe6f 2 1 rfl)
set_option maxRecDepth 20000 in
theorem dJ5_append_3fe6f_34 : decode cJ5_append_3fe6f 34 = .ok (.iconst 1, 1) := dc_4 (lxJ5_append_3fe6f 2 2 rfl)
set_option maxRecDepth 20000 in
theorem dJ5_append_3fe6f_35 : decode cJ5_append_3fe6f 35 = .ok (.iadd, 1) := dc_96 (lxJ5_append_3fe6f 2 3 rfl)
set_option maxRecDepth 20000 in
theorem dJ5_append_3fe6f_36 : decode cJ5_append_3fe6f 36 = .ok (.putfield 79, 3) := dc_181 0 79 (lxJ5_append_3fe6f 2 4 rfl) (lxJ5_append_3fe6f 2 5 rfl) (lxJ5_append_3fe6f 2 6 rfl)
set_option maxRecDepth 20000 in
theorem dJ5_append_3fe6f_39 : decode cJ5_append_3fe6f 39 = .ok (.iload_n 1, 1) := dc_27 (lxJ5_append_3fe6f 2 7 rfl)
set_option maxRecDepth 20000 in
theorem dJ5_append_3fe6f_40 : decode cJ5_append_3fe6f 40 = .ok (.i2b, 1) := dc_145 (lxJ5_append_3fe6f 2 8 rfl)
set_option maxRecDepth 20000 in
theorem dJ5_append_3fe6f_41 : decode cJ5_append_3fe6f 41 = .ok (.bastore, 1) := dc_84 (lxJ5_append_3fe6f 2 9 rfl)
set_option maxRecDepth 20000 in
theorem dJ5_append_3fe6f_42 : decode cJ5_append_3fe6f 42 = .ok (.goto 33, 3) := dc_167 0 33 (lxJ5_append_3fe6f 2 10 rfl) (lxJ5_append_3fe6f 2 11 rfl) (lxJ5_append_3fe6f 2 12 rfl)
set_option maxRecDepth 20000 in
theorem dJ5_append_3fe6f_45 : decode cJ5_append_3fe6f 45 = .ok (.aload_n 0, 1) := dc_42 (lxJ5_append_3fe6f 2 13 rfl)
set_option maxRecDepth 20000 in
theorem dJ5_append_3fe6f_46 : decode cJ5_append_3fe6f 46 = .ok (.invokevirtual 83, 3) := dc_182 0 83 (lxJ5_append_3fe6f 2 14 rfl) (lxJ5_append_3fe6f 2 15 rfl) (lxJ5_append_3fe6f 3 0 rfl)
set_option maxRecDepth 20000 in
theorem dJ5_append_3fe6f_49 : decode cJ5_append_3fe6f 49 = .ok (.ifCond .eq 7, 3) := dc_153 0 7 (lxJ5_append_3fe6f 3 1 rfl) (lxJ5_append_3fe6f 3 2 rfl) (lxJ5_append_3fe6f 3 3 rfl)
set_option maxRecDepth 20000 in
theorem dJ5_append_3fe6f_52 : decode cJ5_append_3fe6f 52 = .ok (.aload_n 0, 1) := dc_42 (lxJ5_append_3fe6f 3 4 rfl)
set_option maxRecDepth 20000 in
theorem dJ5_append_3fe6f_53 : decode cJ5_append_3fe6f 53 = .ok (.invokevirtual 195, 3) := dc_182 0 195 (lxJ5_append_3fe6f 3 5 rfl) (lxJ5_append_3fe6f 3 6 rfl) (lxJ5_append_3fe6f 3 7 rfl)
set_option maxRecDepth 20000 in
theorem dJ5_append_3fe6f_56 : decode cJ5_append_3fe6f 56 = .ok (.aload_n 0, 1) := dc_42 (lxJ5_append_3fe6f 3 8 rfl)
set_option maxRecDepth 20000 in
theorem dJ5_append_3fe6f_57 : decode cJ5_append_3fe6f 57 = .ok (.getfield 15, 3) := dc_180 0 15 (lxJ5_append_3fe6f 3 9 rfl) (lxJ5_append_3fe6f 3 10 rfl) (lxJ5_append_3fe6f 3 11 rfl)
set_option maxRecDepth 20000 in
theorem dJ5_append_3fe6f_60 : decode cJ5_append_3fe6f 60 = .ok (.aload_n 0, 1) := dc_42 (lxJ5_append_3fe6f 3 12 rfl)
set_option maxRecDepth 20000 in
theorem dJ5_append_3fe6f_61 : decode cJ5_append_3fe6f 61 = .ok (.dup, 1) := dc_89 (lxJ5_append_3fe6f 3 13 rfl)
set_option maxRecDepth 20000 in
theorem dJ5_append_3fe6f_62 : decode cJ5_append_3fe6f 62 = .ok (.getfield 79, 3) := dc_180 0 79 (lxJ5_append_3fe6f 3 14 rfl) (lxJ5_append_3fe6f 3 15 rfl) (lxJ5_append_3fe6f 4 0 rfl)
set_option maxRecDepth 20000 in
theorem dJ5_append_3fe6f_65 : decode cJ5_append_3fe6f 65 = .ok (.dup_x1, 1) := dc_90 (lxJ5_append_3fe6f 4 1 rfl)
set_option maxRecDepth 20000 in
theorem dJ5_append_3fe6f_66 : decode cJ5_append_3fe6f 66 = .ok (.iconst 1, 1) := dc_4 (lxJ5_append_3fe6f 4 2 rfl)
set_option maxRecDepth 20000 in
theorem dJ5_append_3fe6f_67 : decode cJ5_append_3fe6f 67 = .ok (.iadd, 1) := dc_96 (lxJ5_append_3fe6f 4 3 rfl)
set_option maxRecDepth 20000 in
theorem dJ5_append_3fe6f_68 : decode cJ5_append_3fe6f 68 = .ok (.putfield 79, 3) := dc_181 0 79 (lxJ5_append_3fe6f 4 4 rfl) (lxJ5_append_3fe6f 4 5 rfl) (lxJ5_append_3fe6f 4 6 rfl)
set_option maxRecDepth 20000 in
theorem dJ5_append_3fe6f_71 : decode cJ5_append_3fe6f 71 = .ok (.iload_n 1, 1) := dc_27 (lxJ5_append_3fe6f 4 7 rfl)
set_option maxRecDepth 20000 in
theorem dJ5_append_3fe6f_72 : decode cJ5_append_3fe6f 72 = .ok (.invokestatic 197, 3) := dc_184 0 197 (lxJ5_append_3fe6f 4 8 rfl) (lxJ5_append_3fe6f 4 9 rfl) (lxJ5_append_3fe6f 4 10 rfl)
set_option maxRecDepth 20000 in
theorem dJ5_append_3fe6f_75 : decode cJ5_append_3fe6f 75 = .ok (.aload_n 0, 1) := dc_42 (lxJ5_append_3fe6f 4 11 rfl)
set_option maxRecDepth 20000 in
theorem dJ5_append_3fe6f_76 : decode cJ5_append_3fe6f 76 = .ok (.areturn, 1) := dc_176 (lxJ5_append_3fe6f 4 12 rfl)
noncomputable def sgJ5_append_c97b9 : List (List Cond) := [[.code yJ5_append_c97b9 cJ5_append_c97b9 4 (some (.object "java/lang/AbstractStringBuilder"))], wsJ5_append_c97b9_r1, wsJ5_append_c97b9_r2, wsJ5_append_c97b9_r3, wsJ5_append_c97b9_r4, wsJ40]
theorem seJ5_append_c97b9 : sgJ5_append_c97b9.flatten = wsJ5_append_c97b9 := by simp only [sgJ5_append_c97b9, wsJ5_append_c97b9, List.flatten_cons, List.flatten_nil, List.append_assoc, List.append_nil, List.cons_append, List.nil_append]
set_option maxRecDepth 20000 in
theorem ggJ5_append_c97b9_J6_stringSize_0f7a4 : GoodIn wsJ5_append_c97b9 wsJ6_stringSize_0f7a4 := goodIn_s seJ5_append_c97b9 _ [pq_1_5] (by rfl) (by decide +kernel)
set_option maxRecDepth 20000 in
theorem gJ5_append_c97b9_J6_stringSize_0f7a4 : GoodIn wsJ5_append_c97b9 (va_wsS RJ5 245 yJ6_stringSize_0f7a4 wsJ6_stringSize_0f7a4) := goodIn_app (goodIn_s seJ5_append_c97b9 _ [pq_1_2, pq_1_3, pq_1_4] (by rfl) (by decide +kernel)) ggJ5_append_c97b9_J6_stringSize_0f7a4
set_option maxRecDepth 20000 in
theorem ggJ5_append_c97b9_J5_ensureCapacityInternal_d00df : GoodIn wsJ5_append_c97b9 wsJ5_ensureCapacityInternal_d00df := goodIn_s seJ5_append_c97b9 _ [pq_1_11, pq_1_1, pq_1_12, pq_1_13, pq_1_14, pq_1_15, pq_1_16, pq_1_10, pq_1_17, pq_1_18, pq_1_19, pq_1_20, pq_1_21, pq_1_22, pq_1_23, pq_2_0, pq_2_1, pq_2_2, pq_2_3, pq_2_4, pq_2_5, pq_2_6, pq_2_7, pq_2_8, pq_2_9, pq_2_10, pq_2_11, pq_2_12, pq_2_13, pq_2_14, pq_2_15, pq_2_16, pq_2_17, pq_2_18, pq_2_19, pq_2_20, pq_2_21, pq_2_22, pq_2_23, pq_3_0, pq_5_0, pq_5_1, pq_5_2, pq_5_3] (by rfl) (by decide +kernel)
set_option maxRecDepth 20000 in
theorem gJ5_append_c97b9_J5_ensureCapacityInternal_d00df_u100J4 : GoodIn wsJ5_append_c97b9 (va_wsU RJ5 100 RJ4 "java/lang/AbstractStringBuilder" ⟨"java/lang/AbstractStringBuilder", "ensureCapacityInternal", "(I)V"⟩ yJ5_ensureCapacityInternal_d00df wsJ5_ensureCapacityInternal_d00df) := goodIn_app (goodIn_s seJ5_append_c97b9 _ [pq_1_6, pq_1_7, pq_1_8, pq_1_9, pq_1_10] (by rfl) (by decide +kernel)) ggJ5_append_c97b9_J5_ensureCapacityInternal_d00df
set_option maxRecDepth 20000 in
theorem ggJ5_append_c97b9_J5_isLatin1_aae02 : GoodIn wsJ5_append_c97b9 wsJ5_isLatin1_aae02 := goodIn_s seJ5_append_c97b9 _ [pq_3_5, pq_3_6, pq_1_12, pq_5_0, pq_5_1, pq_5_2, pq_5_3] (by rfl) (by decide +kernel)
set_option maxRecDepth 20000 in
theorem gJ5_append_c97b9_J5_isLatin1_aae02_u83J4 : GoodIn wsJ5_append_c97b9 (va_wsU RJ5 83 RJ4 "java/lang/AbstractStringBuilder" ⟨"java/lang/AbstractStringBuilder", "isLatin1", "()Z"⟩ yJ5_isLatin1_aae02 wsJ5_isLatin1_aae02) := goodIn_app (goodIn_s seJ5_append_c97b9 _ [pq_3_1, pq_3_2, pq_3_3, pq_3_4, pq_1_10] (by rfl) (by decide +kernel)) ggJ5_append_c97b9_J5_isLatin1_aae02
set_option maxRecDepth 20000 in
theorem ggJ5_append_c97b9_J6_getChars_ba4f3 : GoodIn wsJ5_append_c97b9 wsJ6_getChars_ba4f3 := goodIn_s seJ5_append_c97b9 _ [pq_3_9, pq_3_10, pq_3_11] (by rfl) (by decide +kernel)
set_option maxRecDepth 20000 in
theorem gJ5_append_c97b9_J6_getChars_ba4f3 : GoodIn wsJ5_append_c97b9 (va_wsS RJ5 248 yJ6_getChars_ba4f3 wsJ6_getChars_ba4f3) := goodIn_app (goodIn_s seJ5_append_c97b9 _ [pq_3_7, pq_3_8, pq_1_4] (by rfl) (by decide +kernel)) ggJ5_append_c97b9_J6_getChars_ba4f3
set_option maxRecDepth 20000 in
theorem ggJ5_append_c97b9_J2_getChars_46870 : GoodIn wsJ5_append_c97b9 wsJ2_getChars_46870 := goodIn_s seJ5_append_c97b9 _ [pq_3_15, pq_3_16, pq_3_17, pq_3_18, pq_3_14, pq_3_19, pq_3_20, pq_3_21, pq_3_22, pq_3_23, pq_4_0, pq_4_1, pq_4_2, pq_4_3, pq_4_4, pq_4_5, pq_4_6, pq_4_7, pq_4_8, pq_4_9, pq_4_10, pq_4_11, pq_4_12, pq_4_13, pq_4_14, pq_4_15, pq_4_16, pq_4_17] (by rfl) (by decide +kernel)
set_option maxRecDepth 20000 in
theorem gJ5_append_c97b9_J2_getChars_46870 : GoodIn wsJ5_append_c97b9 (va_wsS RJ5 251 yJ2_getChars_46870 wsJ2_getChars_46870) := goodIn_app (goodIn_s seJ5_append_c97b9 _ [pq_3_12, pq_3_13, pq_3_14] (by rfl) (by decide +kernel)) ggJ5_append_c97b9_J2_getChars_46870
def lb_sgJ5_append_c97b9 : List (List UInt8) := [[42, 180, 0, 79, 61, 28, 27, 184, 0, 245, 96, 62, 42, 29, 182, 0], [100, 42, 182, 0, 83, 153, 0, 16, 27, 29, 42, 180, 0, 15, 184, 0], [248, 87, 167, 0, 14, 27, 28, 29, 42, 180, 0, 15, 184, 0, 251, 87], [42, 29, 181, 0, 79, 42, 176]]
set_option maxRecDepth 100000 in
theorem lb_seJ5_append_c97b9 : cJ5_append_c97b9.data.toList = lb_sgJ5_append_c97b9.flatten := by decide +kernel
theorem lb_lnJ5_append_c97b9 : ∀ s ∈ lb_sgJ5_append_c97b9.dropLast, s.length = 16 := by decide +kernel
theorem lxJ5_append_c97b9 (k j : Nat) {b : UInt8} (h : (lb_sgJ5_append_c97b9[k]?).bind (fun s => s[j]?) = some b) : lb_at cJ5_append_c97b9 (16 * k + j) b := by
  unfold lb_at
  rw [lb_seJ5_append_c97b9]
  exact lb_flat 16 lb_sgJ5_append_c97b9 k j b lb_lnJ5_append_c97b9 h
set_option maxRecDepth 20000 in
theorem dJ5_append_c97b9_0 : decode cJ5_append_c97b9 0 = .ok (.aload_n 0, 1) := dc_42 (lxJ5_append_c97b9 0 0 rfl)
set_option maxRecDepth 20000 in
theorem dJ5_append_c97b9_1 : decode cJ5_append_c97b9 1 = .ok (.getfield 79, 3) := dc_180 0 79 (lxJ5_append_c97b9 0 1 rfl) (lxJ5_append_c97b9 0 2 rfl) (lxJ5_append_c97b9 0 3 rfl)
set_option maxRecDepth 20000 in
theorem dJ5_append_c97b9_4 : decode cJ5_append_c97b9 4 = .ok (.istore_n 2, 1) := dc_61 (lxJ5_append_c97b9 0 4 rfl)
set_option maxRecDepth 20000 in
theorem dJ5_append_c97b9_5 : decode cJ5_append_c97b9 5 = .ok (.iload_n 2, 1) := dc_28 (lxJ5_append_c97b9 0 5 rfl)
set_option maxRecDepth 20000 in
theorem dJ5_append_c97b9_6 : decode cJ5_append_c97b9 6 = .ok (.iload_n 1, 1) := dc_27 (lxJ5_append_c97b9 0 6 rfl)
set_option maxRecDepth 20000 in
theorem dJ5_append_c97b9_7 : decode cJ5_append_c97b9 7 = .ok (.invokestatic 245, 3) := dc_184 0 245 (lxJ5_append_c97b9 0 7 rfl) (lxJ5_append_c97b9 0 8 rfl) (lxJ5_append_c97b9 0 9 rfl)
set_option maxRecDepth 20000 in
theorem dJ5_append_c97b9_10 : decode cJ5_append_c97b9 10 = .ok (.iadd, 1) := dc_96 (lxJ5_append_c97b9 0 10 rfl)
set_option maxRecDepth 20000 in
theorem dJ5_append_c97b9_11 : decode cJ5_append_c97b9 11 = .ok (.istore_n 3, 1) := dc_62 (lxJ5_append_c97b9 0 11 rfl)
set_option maxRecDepth 20000 in
theorem dJ5_append_c97b9_12 : decode cJ5_append_c97b9 12 = .ok (.aload_n 0, 1) := dc_42 (lxJ5_append_c97b9 0 12 rfl)
set_option maxRecDepth 20000 in
theorem dJ5_append_c97b9_13 : decode cJ5_append_c97b9 13 = .ok (.iload_n 3, 1) := dc_29 (lxJ5_append_c97b9 0 13 rfl)
set_option maxRecDepth 20000 in
theorem dJ5_append_c97b9_14 : decode cJ5_append_c97b9 14 = .ok (.invokevirtual 100, 3) := dc_182 0 100 (lxJ5_append_c97b9 0 14 rfl) (lxJ5_append_c97b9 0 15 rfl) (lxJ5_append_c97b9 1 0 rfl)
set_option maxRecDepth 20000 in
theorem dJ5_append_c97b9_17 : decode cJ5_append_c97b9 17 = .ok (.aload_n 0, 1) := dc_42 (lxJ5_append_c97b9 1 1 rfl)
set_option maxRecDepth 20000 in
theorem dJ5_append_c97b9_18 : decode cJ5_append_c97b9 18 = .ok (.invokevirtual 83, 3) := dc_182 0 83 (lxJ5_append_c97b9 1 2 rfl) (lxJ5_append_c97b9 1 3 rfl) (lxJ5_append_c97b9 1 4 rfl)
set_option maxRecDepth 20000 in
theorem dJ5_append_c97b9_21 : decode cJ5_append_c97b9 21 = .ok (.ifCond .eq 16, 3) := dc_153 0 16 (lxJ5_append_c97b9 1 5 rfl) (lxJ5_append_c97b9 1 6 rfl) (lxJ5_append_c97b9 1 7 rfl)
set_option maxRecDepth 20000 in
theorem dJ5_append_c97b9_24 : decode cJ5_append_c97b9 24 = .ok (.iload_n 1, 1) := dc_27 (lxJ5_append_c97b9 1 8 rfl)
set_option maxRecDepth 20000 in
theorem dJ5_append_c97b9_25 : decode cJ5_append_c97b9 25 = .ok (.iload_n 3, 1) := dc_29 (lxJ5_append_c97b9 1 9 rfl)
set_option maxRecDepth 20000 in
theorem dJ5_append_c97b9_26 : decode cJ5_append_c97b9 26 = .ok (.aload_n 0, 1) := dc_42 (lxJ5_append_c97b9 1 10 rfl)
set_option maxRecDepth 20000 in
theorem dJ5_append_c97b9_27 : decode cJ5_append_c97b9 27 = .ok (.getfield 15, 3) := dc_180 0 15 (lxJ5_append_c97b9 1 11 rfl) (lxJ5_append_c97b9 1 12 rfl) (lxJ5_append_c97b9 1 13 rfl)
set_option maxRecDepth 20000 in
theorem dJ5_append_c97b9_30 : decode cJ5_append_c97b9 30 = .ok (.invokestatic 248, 3) := dc_184 0 248 (lxJ5_append_c97b9 1 14 rfl) (lxJ5_append_c97b9 1 15 rfl) (lxJ5_append_c97b9 2 0 rfl)
set_option maxRecDepth 20000 in
theorem dJ5_append_c97b9_33 : decode cJ5_append_c97b9 33 = .ok (.pop, 1) := dc_87 (lxJ5_append_c97b9 2 1 rfl)
set_option maxRecDepth 20000 in
theorem dJ5_append_c97b9_34 : decode cJ5_append_c97b9 34 = .ok (.goto 14, 3) := dc_167 0 14 (lxJ5_append_c97b9 2 2 rfl) (lxJ5_append_c97b9 2 3 rfl) (lxJ5_append_c97b9 2 4 rfl)
set_option maxRecDepth 20000 in
theorem dJ5_append_c97b9_37 : decode cJ5_append_c97b9 37 = .ok (.iload_n 1, 1) := dc_27 (lxJ5_append_c97b9 2 5 rfl)
set_option maxRecDepth 20000 in
theorem dJ5_append_c97b9_38 : decode cJ5_append_c97b9 38 = .ok (.iload_n 2, 1) := dc_28 (lxJ5_append_c97b9 2 6 rfl)
set_option maxRecDepth 20000 in
theorem dJ5_append_c97b9_39 : decode cJ5_append_c97b9 39 = .ok (.iload_n 3, 1) := dc_29 (lxJ5_append_c97b9 2 7 rfl)
set_option maxRecDepth 20000 in
theorem dJ5_append_c97b9_40 : decode cJ5_append_c97b9 40 = .ok (.aload_n 0, 1) := dc_42 (lxJ5_append_c97b9 2 8 rfl)
set_option maxRecDepth 20000 in
theorem dJ5_append_c97b9_41 : decode cJ5_append_c97b9 41 = .ok (.getfield 15, 3) := dc_180 0 15 (lxJ5_append_c97b9 2 9 rfl) (lxJ5_append_c97b9 2 10 rfl) (lxJ5_append_c97b9 2 11 rfl)
set_option maxRecDepth 20000 in
theorem dJ5_append_c97b9_44 : decode cJ5_append_c97b9 44 = .ok (.invokestatic 251, 3) := dc_184 0 251 (lxJ5_append_c97b9 2 12 rfl) (lxJ5_append_c97b9 2 13 rfl) (lxJ5_append_c97b9 2 14 rfl)
set_option maxRecDepth 20000 in
theorem dJ5_append_c97b9_47 : decode cJ5_append_c97b9 47 = .ok (.pop, 1) := dc_87 (lxJ5_append_c97b9 2 15 rfl)
set_option maxRecDepth 20000 in
theorem dJ5_append_c97b9_48 : decode cJ5_append_c97b9 48 = .ok (.aload_n 0, 1) := dc_42 (lxJ5_append_c97b9 3 0 rfl)
set_option maxRecDepth 20000 in
theorem dJ5_append_c97b9_49 : decode cJ5_append_c97b9 49 = .ok (.iload_n 3, 1) := dc_29 (lxJ5_append_c97b9 3 1 rfl)
set_option maxRecDepth 20000 in
theorem dJ5_append_c97b9_50 : decode cJ5_append_c97b9 50 = .ok (.putfield 79, 3) := dc_181 0 79 (lxJ5_append_c97b9 3 2 rfl) (lxJ5_append_c97b9 3 3 rfl) (lxJ5_append_c97b9 3 4 rfl)
set_option maxRecDepth 20000 in
theorem dJ5_append_c97b9_53 : decode cJ5_append_c97b9 53 = .ok (.aload_n 0, 1) := dc_42 (lxJ5_append_c97b9 3 5 rfl)
set_option maxRecDepth 20000 in
theorem dJ5_append_c97b9_54 : decode cJ5_append_c97b9 54 = .ok (.areturn, 1) := dc_176 (lxJ5_append_c97b9 3 6 rfl)
set_option maxRecDepth 20000 in
theorem dJ5_getValue_6d5f1_0 : decode cJ5_getValue_6d5f1 0 = .ok (.aload_n 0, 1) := dc_42 rfl
set_option maxRecDepth 20000 in
theorem dJ5_getValue_6d5f1_1 : decode cJ5_getValue_6d5f1 1 = .ok (.getfield 15, 3) := dc_180 0 15 rfl rfl rfl
set_option maxRecDepth 20000 in
theorem dJ5_getValue_6d5f1_4 : decode cJ5_getValue_6d5f1 4 = .ok (.areturn, 1) := dc_176 rfl
def lb_sgJ5_isLatin1_aae02 : List (List UInt8) := [[178, 0, 18, 153, 0, 14, 42, 180, 0, 22, 154, 0, 7, 4, 167, 0], [4, 3, 172]]
set_option maxRecDepth 100000 in
theorem lb_seJ5_isLatin1_aae02 : cJ5_isLatin1_aae02.data.toList = lb_sgJ5_isLatin1_aae02.flatten := by decide +kernel
theorem lb_lnJ5_isLatin1_aae02 : ∀ s ∈ lb_sgJ5_isLatin1_aae02.dropLast, s.length = 16 := by decide +kernel
theorem lxJ5_isLatin1_aae02 (k j : Nat) {b : UInt8} (h : (lb_sgJ5_isLatin1_aae02[k]?).bind (fun s => s[j]?) = some b) : lb_at cJ5_isLatin1_aae02 (16 * k + j) b := by
  unfold lb_at
  rw [lb_seJ5_isLatin1_aae02]
  exact lb_flat 16 lb_sgJ5_isLatin1_aae02 k j b lb_lnJ5_isLatin1_aae02 h
set_option maxRecDepth 20000 in
theorem dJ5_isLatin1_aae02_0 : decode cJ5_isLatin1_aae02 0 = .ok (.getstatic 18, 3) := dc_178 0 18 (lxJ5_isLatin1_aae02 0 0 rfl) (lxJ5_isLatin1_aae02 0 1 rfl) (lxJ5_isLatin1_aae02 0 2 rfl)
set_option maxRecDepth 20000 in
theorem dJ5_isLatin1_aae02_3 : decode cJ5_isLatin1_aae02 3 = .ok (.ifCond .eq 14, 3) := dc_153 0 14 (lxJ5_isLatin1_aae02 0 3 rfl) (lxJ5_isLatin1_aae02 0 4 rfl) (lxJ5_isLatin1_aae02 0 5 rfl)
set_option maxRecDepth 20000 in
theorem dJ5_isLatin1_aae02_6 : decode cJ5_isLatin1_aae02 6 = .ok (.aload_n 0, 1) := dc_42 (lxJ5_isLatin1_aae02 0 6 rfl)
set_option maxRecDepth 20000 in
theorem dJ5_isLatin1_aae02_7 : decode cJ5_isLatin1_aae02 7 = .ok (.getfield 22, 3) := dc_180 0 22 (lxJ5_isLatin1_aae02 0 7 rfl) (lxJ5_isLatin1_aae02 0 8 rfl) (lxJ5_isLatin1_aae02 0 9 rfl)
set_option maxRecDepth 20000 in
theorem dJ5_isLatin1_aae02_10 : decode cJ5_isLatin1_aae02 10 = .ok (.ifCond .ne 7, 3) := dc_154 0 7 (lxJ5_isLatin1_aae02 0 10 rfl) (lxJ5_isLatin1_aae02 0 11 rfl) (lxJ5_isLatin1_aae02 0 12 rfl)
set_option maxRecDepth 20000 in
theorem dJ5_isLatin1_aae02_13 : decode cJ5_isLatin1_aae02 13 = .ok (.iconst 1, 1) := dc_4 (lxJ5_isLatin1_aae02 0 13 rfl)
set_option maxRecDepth 20000 in
theorem dJ5_isLatin1_aae02_14 : decode cJ5_isLatin1_aae02 14 = .ok (.goto 4, 3) := dc_167 0 4 (lxJ5_isLatin1_aae02 0 14 rfl) (lxJ5_isLatin1_aae02 0 15 rfl) (lxJ5_isLatin1_aae02 1 0 rfl)
set_option maxRecDepth 20000 in
theorem dJ5_isLatin1_aae02_17 : decode cJ5_isLatin1_aae02 17 = .ok (.iconst 0, 1) := dc_3 (lxJ5_isLatin1_aae02 1 1 rfl)
set_option maxRecDepth 20000 in
theorem dJ5_isLatin1_aae02_18 : decode cJ5_isLatin1_aae02 18 = .ok (.ireturn, 1) := dc_172 (lxJ5_isLatin1_aae02 1 2 rfl)
def lb_sgJ6_getChars_ba4f3 : List (List UInt8) := [[27, 54, 5, 26, 156, 0, 7, 4, 167, 0, 4, 3, 54, 6, 21, 6], [154, 0, 6, 26, 116, 59, 26, 16, 156, 163, 0, 47, 26, 16, 100, 108], [62, 29, 16, 100, 104, 26, 100, 54, 4, 29, 59, 44, 132, 5, 255, 21], [5, 178, 0, 83, 21, 4, 51, 84, 44, 132, 5, 255, 21, 5, 178, 0], [87, 21, 4, 51, 84, 167, 255, 209, 44, 132, 5, 255, 21, 5, 178, 0], [83, 26, 116, 51, 84, 26, 16, 247, 162, 0, 16, 44, 132, 5, 255, 21], [5, 178, 0, 87, 26, 116, 51, 84, 21, 6, 153, 0, 12, 44, 132, 5], [255, 21, 5, 16, 45, 84, 21, 5, 172]]
set_option maxRecDepth 100000 in
theorem lb_seJ6_getChars_ba4f3 : cJ6_getChars_ba4f3.data.toList = lb_sgJ6_getChars_ba4f3.flatten := by decide +kernel
theorem lb_lnJ6_getChars_ba4f3 : ∀ s ∈ lb_sgJ6_getChars_ba4f3.dropLast, s.length = 16 := by decide +kernel
theorem lxJ6_getChars_ba4f3 (k j : Nat) {b : UInt8} (h : (lb_sgJ6_getChars_ba4f3[k]?).bind (fun s => s[j]?) = some b) : lb_at cJ6_getChars_ba4f3 (16 * k + j) b := by
  unfold lb_at
  rw [lb_seJ6_getChars_ba4f3]
  exact lb_flat 16 lb_sgJ6_getChars_ba4f3 k j b lb_lnJ6_getChars_ba4f3 h
set_option maxRecDepth 20000 in
theorem dJ6_getChars_ba4f3_0 : decode cJ6_getChars_ba4f3 0 = .ok (.iload_n 1, 1) := dc_27 (lxJ6_getChars_ba4f3 0 0 rfl)
set_option maxRecDepth 20000 in
theorem dJ6_getChars_ba4f3_1 : decode cJ6_getChars_ba4f3 1 = .ok (.istore 5, 2) := dc_54 5 (lxJ6_getChars_ba4f3 0 1 rfl) (lxJ6_getChars_ba4f3 0 2 rfl)
set_option maxRecDepth 20000 in
theorem dJ6_getChars_ba4f3_3 : decode cJ6_getChars_ba4f3 3 = .ok (.iload_n 0, 1) := dc_26 (lxJ6_getChars_ba4f3 0 3 rfl)
set_option maxRecDepth 20000 in
theorem dJ6_getChars_ba4f3_4 : decode cJ6_getChars_ba4f3 4 = .ok (.ifCond .ge 7, 3) := dc_156 0 7 (lxJ6_getChars_ba4f3 0 4 rfl) (lxJ6_getChars_ba4f3 0 5 rfl) (lxJ6_getChars_ba4f3 0 6 rfl)
set_option maxRecDepth 20000 in
theorem dJ6_getChars_ba4f3_7 : decode cJ6_getChars_ba4f3 7 = .ok (.iconst 1, 1) := dc_4 (lxJ6_getChars_ba4f3 0 7 rfl)
set_option maxRecDepth 20000 in
theorem dJ6_getChars_ba4f3_8 : decode cJ6_getChars_ba4f3 8 = .ok (.goto 4, 3) := dc_167 0 4 (lxJ6_getChars_ba4f3 0 8 rfl) (lxJ6_getChars_ba4f3 0 9 rfl) (lxJ6_getChars_ba4f3 0 10 rfl)
set_option maxRecDepth 20000 in
theorem dJ6_getChars_ba4f3_11 : decode cJ6_getChars_ba4f3 11 = .ok (.iconst 0, 1) := dc_3 (lxJ6_getChars_ba4f3 0 11 rfl)
set_option maxRecDepth 20000 in
theorem dJ6_getChars_ba4f3_12 : decode cJ6_getChars_ba4f3 12 = .ok (.istore 6, 2) := dc_54 6 (lxJ6_getChars_ba4f3 0 12 rfl) (lxJ6_getChars_ba4f3 0 13 rfl)
set_option maxRecDepth 20000 in
theorem dJ6_getChars_ba4f3_14 : decode cJ6_getChars_ba4f3 14 = .ok (.iload 6, 2) := dc_21 6 (lxJ6_getChars_ba4f3 0 14 rfl) (lxJ6_getChars_ba4f3 0 15 rfl)
set_option maxRecDepth 20000 in
theorem dJ6_getChars_ba4f3_16 : decode cJ6_getChars_ba4f3 16 = .ok (.ifCond .ne 6, 3) := dc_154 0 6 (lxJ6_getChars_ba4f3 1 0 rfl) (lxJ6_getChars_ba4f3 1 1 rfl) (lxJ6_getChars_ba4f3 1 2 rfl)
set_option maxRecDepth 20000 in
theorem dJ6_getChars_ba4f3_19 : decode cJ6_getChars_ba4f3 19 = .ok (.iload_n 0, 1) := dc_26 (lxJ6_getChars_ba4f3 1 3 rfl)
set_option maxRecDepth 20000 in
theorem dJ6_getChars_ba4f3_20 : decode cJ6_getChars_ba4f3 20 = .ok (.ineg, 1) := dc_116 (lxJ6_getChars_ba4f3 1 4 rfl)
set_option maxRecDepth 20000 in
theorem dJ6_getChars_ba4f3_21 : decode cJ6_getChars_ba4f3 21 = .ok (.istore_n 0, 1) := dc_59 (lxJ6_getChars_ba4f3 1 5 rfl)
set_option maxRecDepth 20000 in
theorem dJ6_getChars_ba4f3_22 : decode cJ6_getChars_ba4f3 22 = .ok (.iload_n 0, 1) := dc_26 (lxJ6_getChars_ba4f3 1 6 rfl)
set_option maxRecDepth 20000 in
theorem dJ6_getChars_ba4f3_23 : decode cJ6_getChars_ba4f3 23 = .ok (.bipush (-100), 2) := dc_16 156 (lxJ6_getChars_ba4f3 1 7 rfl) (lxJ6_getChars_ba4f3 1 8 rfl)
set_option maxRecDepth 20000 in
theorem dJ6_getChars_ba4f3_25 : decode cJ6_getChars_ba4f3 25 = .ok (.if_icmp .gt 47, 3) := dc_163 0 47 (lxJ6_getChars_ba4f3 1 9 rfl) (lxJ6_getChars_ba4f3 1 10 rfl) (lxJ6_getChars_ba4f3 1 11 rfl)
set_option maxRecDepth 20000 in
theorem dJ6_getChars_ba4f3_28 : decode cJ6_getChars_ba4f3 28 = .ok (.iload_n 0, 1) := dc_26 (lxJ6_getChars_ba4f3 1 12 rfl)
set_option maxRecDepth 20000 in
theorem dJ6_getChars_ba4f3_29 : decode cJ6_getChars_ba4f3 29 = .ok (.bipush 100, 2) := dc_16 100 (lxJ6_getChars_ba4f3 1 13 rfl) (lxJ6_getChars_ba4f3 1 14 rfl)
set_option maxRecDepth 20000 in
theorem dJ6_getChars_ba4f3_31 : decode cJ6_getChars_ba4f3 31 = .ok (.idiv, 1) := dc_108 (lxJ6_getChars_ba4f3 1 15 rfl)
set_option maxRecDepth 20000 in
theorem dJ6_getChars_ba4f3_32 : decode cJ6_getChars_ba4f3 32 = .ok (.istore_n 3, 1) := dc_62 (lxJ6_getChars_ba4f3 2 0 rfl)
set_option maxRecDepth 20000 in
theorem dJ6_getChars_ba4f3_33 : decode cJ6_getChars_ba4f3 33 = .ok (.iload_n 3, 1) := dc_29 (lxJ6_getChars_ba4f3 2 1 rfl)
set_option maxRecDepth 20000 in
theorem dJ6_getChars_ba4f3_34 : decode cJ6_getChars_ba4f3 34 = .ok (.bipush 100, 2) := dc_16 100 (lxJ6_getChars_ba4f3 2 2 rfl) (lxJ6_getChars_ba4f3 2 3 rfl)
set_option maxRecDepth 20000 in
theorem dJ6_getChars_ba4f3_36 : decode cJ6_getChars_ba4f3 36 = .ok (.imul, 1) := dc_104 (lxJ6_getChars_ba4f3 2 4 rfl)
set_option maxRecDepth 20000 in
theorem dJ6_getChars_ba4f3_37 : decode cJ6_getChars_ba4f3 37 = .ok (.iload_n 0, 1) := dc_26 (lxJ6_getChars_ba4f3 2 5 rfl)
set_option maxRecDepth 20000 in
theorem dJ6_getChars_ba4f3_38 : decode cJ6_getChars_ba4f3 38 = .ok (.isub, 1) := dc_100 (lxJ6_getChars_ba4f3 2 6 rfl)
set_option maxRecDepth 20000 in
theorem dJ6_getChars_ba4f3_39 : decode cJ6_getChars_ba4f3 39 = .ok (.istore 4, 2) := dc_54 4 (lxJ6_getChars_ba4f3 2 7 rfl) (lxJ6_getChars_ba4f3 2 8 rfl)
set_option maxRecDepth 20000 in
theorem dJ6_getChars_ba4f3_41 : decode cJ6_getChars_ba4f3 41 = .ok (.iload_n 3, 1) := dc_29 (lxJ6_getChars_ba4f3 2 9 rfl)
set_option maxRecDepth 20000 in
theorem dJ6_getChars_ba4f3_42 : decode cJ6_getChars_ba4f3 42 = .ok (.istore_n 0, 1) := dc_59 (lxJ6_getChars_ba4f3 2 10 rfl)
set_option maxRecDepth 20000 in
theorem dJ6_getChars_ba4f3_43 : decode cJ6_getChars_ba4f3 43 = .ok (.aload_n 2, 1) := dc_44 (lxJ6_getChars_ba4f3 2 11 rfl)
set_option maxRecDepth 20000 in
theorem dJ6_getChars_ba4f3_44 : decode cJ6_getChars_ba4f3 44 = .ok (.iinc 5 (-1), 3) := dc_132 5 255 (lxJ6_getChars_ba4f3 2 12 rfl) (lxJ6_getChars_ba4f3 2 13 rfl) (lxJ6_getChars_ba4f3 2 14 rfl)
set_option maxRecDepth 20000 in
theorem dJ6_getChars_ba4f3_47 : decode cJ6_getChars_ba4f3 47 = .ok (.iload 5, 2) := dc_21 5 (lxJ6_getChars_ba4f3 2 15 rfl) (lxJ6_getChars_ba4f3 3 0 rfl)
set_option maxRecDepth 20000 in
theorem dJ6_getChars_ba4f3_49 : decode cJ6_getChars_ba4f3 49 = .ok (.getstatic 83, 3) := dc_178 0 83 (lxJ6_getChars_ba4f3 3 1 rfl) (lxJ6_getChars_ba4f3 3 2 rfl) (lxJ6_getChars_ba4f3 3 3 rfl)
set_option maxRecDepth 20000 in
theorem dJ6_getChars_ba4f3_52 : decode cJ6_getChars_ba4f3 52 = .ok (.iload 4, 2) := dc_21 4 (lxJ6_getChars_ba4f3 3 4 rfl) (lxJ6_getChars_ba4f3 3 5 rfl)
set_option maxRecDepth 20000 in
theorem dJ6_getChars_ba4f3_54 : decode cJ6_getChars_ba4f3 54 = .ok (.baload, 1) := dc_51 (lxJ6_getChars_ba4f3 3 6 rfl)
set_option maxRecDepth 20000 in
theorem dJ6_getChars_ba4f3_55 : decode cJ6_getChars_ba4f3 55 = .ok (.bastore, 1) := dc_84 (lxJ6_getChars_ba4f3 3 7 rfl)
set_option maxRecDepth 20000 in
theorem dJ6_getChars_ba4f3_56 : decode cJ6_getChars_ba4f3 56 = .ok (.aload_n 2, 1) := dc_44 (lxJ6_getChars_ba4f3 3 8 rfl)
set_option maxRecDepth 20000 in
theorem dJ6_getChars_ba4f3_57 : decode cJ6_getChars_ba4f3 57 = .ok (.iinc 5 (-1), 3) := dc_132 5 255 (lxJ6_getChars_ba4f3 3 9 rfl) (lxJ6_getChars_ba4f3 3 10 rfl) (lxJ6_getChars_ba4f3 3 11 rfl)
set_option maxRecDepth 20000 in
theorem dJ6_getChars_ba4f3_60 : decode cJ6_getChars_ba4f3 60 = .ok (.iload 5, 2) := dc_21 5 (lxJ6_getChars_ba4f3 3 12 rfl) (lxJ6_getChars_ba4f3 3 13 rfl)
set_option maxRecDepth 20000 in
theorem dJ6_getChars_ba4f3_62 : decode cJ6_getChars_ba4f3 62 = .ok (.getstatic 87, 3) := dc_178 0 87 (lxJ6_getChars_ba4f3 3 14 rfl) (lxJ6_getChars_ba4f3 3 15 rfl) (lxJ6_getChars_ba4f3 4 0 rfl)
set_option maxRecDepth 20000 in
theorem dJ6_getChars_ba4f3_65 : decode cJ6_getChars_ba4f3 65 = .ok (.iload 4, 2) := dc_21 4 (lxJ6_getChars_ba4f3 4 1 rfl) (lxJ6_getChars_ba4f3 4 2 rfl)
set_option maxRecDepth 20000 in
theorem dJ6_getChars_ba4f3_67 : decode cJ6_getChars_ba4f3 67 = .ok (.baload, 1) := dc_51 (lxJ6_getChars_ba4f3 4 3 rfl)
set_option maxRecDepth 20000 in
theorem dJ6_getChars_ba4f3_68 : decode cJ6_getChars_ba4f3 68 = .ok (.bastore, 1) := dc_84 (lxJ6_getChars_ba4f3 4 4 rfl)
set_option maxRecDepth 20000 in
theorem dJ6_getChars_ba4f3_69 : decode cJ6_getChars_ba4f3 69 = .ok (.goto (-47), 3) := dc_167 255 209 (lxJ6_getChars_ba4f3 4 5 rfl) (lxJ6_getChars_ba4f3 4 6 rfl) (lxJ6_getChars_ba4f3 4 7 rfl)
set_option maxRecDepth 20000 in
theorem dJ6_getChars_ba4f3_72 : decode cJ6_getChars_ba4f3 72 = .ok (.aload_n 2, 1) := dc_44 (lxJ6_getChars_ba4f3 4 8 rfl)
set_option maxRecDepth 20000 in
theorem dJ6_getChars_ba4f3_73 : decode cJ6_getChars_ba4f3 73 = .ok (.iinc 5 (-1), 3) := dc_132 5 255 (lxJ6_getChars_ba4f3 4 9 rfl) (lxJ6_getChars_ba4f3 4 10 rfl) (lxJ6_getChars_ba4f3 4 11 rfl)
set_option maxRecDepth 20000 in
theorem dJ6_getChars_ba4f3_76 : decode cJ6_getChars_ba4f3 76 = .ok (.iload 5, 2) := dc_21 5 (lxJ6_getChars_ba4f3 4 12 rfl) (lxJ6_getChars_ba4f3 4 13 rfl)
set_option maxRecDepth 20000 in
theorem dJ6_getChars_ba4f3_78 : decode cJ6_getChars_ba4f3 78 = .ok (.getstatic 83, 3) := dc_178 0 83 (lxJ6_getChars_ba4f3 4 14 rfl) (lxJ6_getChars_ba4f3 4 15 rfl) (lxJ6_getChars_ba4f3 5 0 rfl)
set_option maxRecDepth 20000 in
theorem dJ6_getChars_ba4f3_81 : decode cJ6_getChars_ba4f3 81 = .ok (.iload_n 0, 1) := dc_26 (lxJ6_getChars_ba4f3 5 1 rfl)
set_option maxRecDepth 20000 in
theorem dJ6_getChars_ba4f3_82 : decode cJ6_getChars_ba4f3 82 = .ok (.ineg, 1) := dc_116 (lxJ6_getChars_ba4f3 5 2 rfl)
set_option maxRecDepth 20000 in
theorem dJ6_getChars_ba4f3_83 : decode cJ6_getChars_ba4f3 83 = .ok (.baload, 1) := dc_51 (lxJ6_getChars_ba4f3 5 3 rfl)
set_option maxRecDepth 20000 in
theorem dJ6_getChars_ba4f3_84 : decode cJ6_getChars_ba4f3 84 = .ok (.bastore, 1) := dc_84 (lxJ6_getChars_ba4f3 5 4 rfl)
set_option maxRecDepth 20000 in
theorem dJ6_getChars_ba4f3_85 : decode cJ6_getChars_ba4f3 85 = .ok (.iload_n 0, 1) := dc_26 (lxJ6_getChars_ba4f3 5 5 rfl)
set_option maxRecDepth 20000 in
theorem dJ6_getChars_ba4f3_86 : decode cJ6_getChars_ba4f3 86 = .ok (.bipush (-9), 2) := dc_16 247 (lxJ6_getChars_ba4f3 5 6 rfl) (lxJ6_getChars_ba4f3 5 7 rfl)
set_option maxRecDepth 20000 in
theorem dJ6_getChars_ba4f3_88 : decode cJ6_getChars_ba4f3 88 = .ok (.if_icmp .ge 16, 3) := dc_162 0 16 (lxJ6_getChars_ba4f3 5 8 rfl) (lxJ6_getChars_ba4f3 5 9 rfl) (lxJ6_getChars_ba4f3 5 10 rfl)
set_option maxRecDepth 20000 in
theorem dJ6_getChars_ba4f3_91 : decode cJ6_getChars_ba4f3 91 = .ok (.aload_n 2, 1) := dc_44 (lxJ6_getChars_ba4f3 5 11 rfl)
set_option maxRecDepth 20000 in
theorem dJ6_getChars_ba4f3_92 : decode cJ6_getChars_ba4f3 92 = .ok (.iinc 5 (-1), 3) := dc_132 5 255 (lxJ6_getChars_ba4f3 5 12 rfl) (lxJ6_getChars_ba4f3 5 13 rfl) (lxJ6_getChars_ba4f3 5 14 rfl)
set_option maxRecDepth 20000 in
theorem dJ6_getChars_ba4f3_95 : decode cJ6_getChars_ba4f3 95 = .ok (.iload 5, 2) := dc_21 5 (lxJ6_getChars_ba4f3 5 15 rfl) (lxJ6_getChars_ba4f3 6 0 rfl)
set_option maxRecDepth 20000 in
theorem dJ6_getChars_ba4f3_97 : decode cJ6_getChars_ba4f3 97 = .ok (.getstatic 87, 3) := dc_178 0 87 (lxJ6_getChars_ba4f3 6 1 rfl) (lxJ6_getChars_ba4f3 6 2 rfl) (lxJ6_getChars_ba4f3 6 3 rfl)
set_option maxRecDepth 20000 in
theorem dJ6_getChars_ba4f3_100 : decode cJ6_getChars_ba4f3 100 = .ok (.iload_n 0, 1) := dc_26 (lxJ6_getChars_ba4f3 6 4 rfl)
set_option maxRecDepth 20000 in
theorem dJ6_getChars_ba4f3_101 : decode cJ6_getChars_ba4f3 101 = .ok (.ineg, 1) := dc_116 (lxJ6_getChars_ba4f3 6 5 rfl)
set_option maxRecDepth 20000 in
theorem dJ6_getChars_ba4f3_102 : decode cJ6_getChars_ba4f3 102 = .ok (.baload, 1) := dc_51 (lxJ6_getChars_ba4f3 6 6 rfl)
set_option maxRecDepth 20000 in
theorem dJ6_getChars_ba4f3_103 : decode cJ6_getChars_ba4f3 103 = .ok (.bastore, 1) := dc_84 (lxJ6_getChars_ba4f3 6 7 rfl)
set_option maxRecDepth 20000 in
theorem dJ6_getChars_ba4f3_104 : decode cJ6_getChars_ba4f3 104 = .ok (.iload 6, 2) := dc_21 6 (lxJ6_getChars_ba4f3 6 8 rfl) (lxJ6_getChars_ba4f3 6 9 rfl)
set_option maxRecDepth 20000 in
theorem dJ6_getChars_ba4f3_106 : decode cJ6_getChars_ba4f3 106 = .ok (.ifCond .eq 12, 3) := dc_153 0 12 (lxJ6_getChars_ba4f3 6 10 rfl) (lxJ6_getChars_ba4f3 6 11 rfl) (lxJ6_getChars_ba4f3 6 12 rfl)
set_option maxRecDepth 20000 in
theorem dJ6_getChars_ba4f3_109 : decode cJ6_getChars_ba4f3 109 = .ok (.aload_n 2, 1) := dc_44 (lxJ6_getChars_ba4f3 6 13 rfl)
set_option maxRecDepth 20000 in
theorem dJ6_getChars_ba4f3_110 : decode cJ6_getChars_ba4f3 110 = .ok (.iinc 5 (-1), 3) := dc_132 5 255 (lxJ6_getChars_ba4f3 6 14 rfl) (lxJ6_getChars_ba4f3 6 15 rfl) (lxJ6_getChars_ba4f3 7 0 rfl)
set_option maxRecDepth 20000 in
theorem dJ6_getChars_ba4f3_113 : decode cJ6_getChars_ba4f3 113 = .ok (.iload 5, 2) := dc_21 5 (lxJ6_getChars_ba4f3 7 1 rfl) (lxJ6_getChars_ba4f3 7 2 rfl)
set_option maxRecDepth 20000 in
theorem dJ6_getChars_ba4f3_115 : decode cJ6_getChars_ba4f3 115 = .ok (.bipush 45, 2) := dc_16 45 (lxJ6_getChars_ba4f3 7 3 rfl) (lxJ6_getChars_ba4f3 7 4 rfl)
set_option maxRecDepth 20000 in
theorem dJ6_getChars_ba4f3_117 : decode cJ6_getChars_ba4f3 117 = .ok (.bastore, 1) := dc_84 (lxJ6_getChars_ba4f3 7 5 rfl)
set_option maxRecDepth 20000 in
theorem dJ6_getChars_ba4f3_118 : decode cJ6_getChars_ba4f3 118 = .ok (.iload 5, 2) := dc_21 5 (lxJ6_getChars_ba4f3 7 6 rfl) (lxJ6_getChars_ba4f3 7 7 rfl)
set_option maxRecDepth 20000 in
theorem dJ6_getChars_ba4f3_120 : decode cJ6_getChars_ba4f3 120 = .ok (.ireturn, 1) := dc_172 (lxJ6_getChars_ba4f3 7 8 rfl)
def lb_sgJ6_stringSize_0f7a4 : List (List UInt8) := [[4, 60, 26, 155, 0, 8, 3, 60, 26, 116, 59, 16, 246, 61, 4, 62], [29, 16, 10, 162, 0, 23, 26, 28, 164, 0, 7, 29, 27, 96, 172, 16], [10, 28, 104, 61, 132, 3, 1, 167, 255, 233, 16, 10, 27, 96, 172]]
set_option maxRecDepth 100000 in
theorem lb_seJ6_stringSize_0f7a4 : cJ6_stringSize_0f7a4.data.toList = lb_sgJ6_stringSize_0f7a4.flatten := by decide +kernel
theorem lb_lnJ6_stringSize_0f7a4 : ∀ s ∈ lb_sgJ6_stringSize_0f7a4.dropLast, s.length = 16 := by decide +kernel
theorem lxJ6_stringSize_0f7a4 (k j : Nat) {b : UInt8} (h : (lb_sgJ6_stringSize_0f7a4[k]?).bind (fun s => s[j]?) = some b) : lb_at cJ6_stringSize_0f7a4 (16 * k + j) b := by
  unfold lb_at
  rw [lb_seJ6_stringSize_0f7a4]
  exact lb_flat 16 lb_sgJ6_stringSize_0f7a4 k j b lb_lnJ6_stringSize_0f7a4 h
set_option maxRecDepth 20000 in
theorem dJ6_stringSize_0f7a4_0 : decode cJ6_stringSize_0f7a4 0 = .ok (.iconst 1, 1) := dc_4 (lxJ6_stringSize_0f7a4 0 0 rfl)
set_option maxRecDepth 20000 in
theorem dJ6_stringSize_0f7a4_1 : decode cJ6_stringSize_0f7a4 1 = .ok (.istore_n 1, 1) := dc_60 (lxJ6_stringSize_0f7a4 0 1 rfl)
set_option maxRecDepth 20000 in
theorem dJ6_stringSize_0f7a4_2 : decode cJ6_stringSize_0f7a4 2 = .ok (.iload_n 0, 1) := dc_26 (lxJ6_stringSize_0f7a4 0 2 rfl)
set_option maxRecDepth 20000 in
theorem dJ6_stringSize_0f7a4_3 : decode cJ6_stringSize_0f7a4 3 = .ok (.ifCond .lt 8, 3) := dc_155 0 8 (lxJ6_stringSize_0f7a4 0 3 rfl) (lxJ6_stringSize_0f7a4 0 4 rfl) (lxJ6_stringSize_0f7a4 0 5 rfl)
set_option maxRecDepth 20000 in
theorem dJ6_stringSize_0f7a4_6 : decode cJ6_stringSize_0f7a4 6 = .ok (.iconst 0, 1) := dc_3 (lxJ6_stringSize_0f7a4 0 6 rfl)
set_option maxRecDepth 20000 in
theorem dJ6_stringSize_0f7a4_7 : decode cJ6_stringSize_0f7a4 7 = .ok (.istore_n 1, 1) := dc_60 (lxJ6_stringSize_0f7a4 0 7 rfl)
set_option maxRecDepth 20000 in
theorem dJ6_stringSize_0f7a4_8 : decode cJ6_stringSize_0f7a4 8 = .ok (.iload_n 0, 1) := dc_26 (lxJ6_stringSize_0f7a4 0 8 rfl)
set_option maxRecDepth 20000 in
theorem dJ6_stringSize_0f7a4_9 : decode cJ6_stringSize_0f7a4 9 = .ok (.ineg, 1) := dc_116 (lxJ6_stringSize_0f7a4 0 9 rfl)
set_option maxRecDepth 20000 in
theorem dJ6_stringSize_0f7a4_10 : decode cJ6_stringSize_0f7a4 10 = .ok (.istore_n 0, 1) := dc_59 (lxJ6_stringSize_0f7a4 0 10 rfl)
set_option maxRecDepth 20000 in
theorem dJ6_stringSize_0f7a4_11 : decode cJ6_stringSize_0f7a4 11 = .ok (.bipush (-10), 2) := dc_16 246 (lxJ6_stringSize_0f7a4 0 11 rfl) (lxJ6_stringSize_0f7a4 0 12 rfl)
set_option maxRecDepth 20000 in
theorem dJ6_stringSize_0f7a4_13 : decode cJ6_stringSize_0f7a4 13 = .ok (.istore_n 2, 1) := dc_61 (lxJ6_stringSize_0f7a4 0 13 rfl)
set_option maxRecDepth 20000 in
theorem dJ6_stringSize_0f7a4_14 : decode cJ6_stringSize_0f7a4 14 = .ok (.iconst 1, 1) := dc_4 (lxJ6_stringSize_0f7a4 0 14 rfl)
set_option maxRecDepth 20000 in
theorem dJ6_stringSize_0f7a4_15 : decode cJ6_stringSize_0f7a4 15 = .ok (.istore_n 3, 1) := dc_62 (lxJ6_stringSize_0f7a4 0 15 rfl)
set_option maxRecDepth 20000 in
theorem dJ6_stringSize_0f7a4_16 : decode cJ6_stringSize_0f7a4 16 = .ok (.iload_n 3, 1) := dc_29 (lxJ6_stringSize_0f7a4 1 0 rfl)
set_option maxRecDepth 20000 in
theorem dJ6_stringSize_0f7a4_17 : decode cJ6_stringSize_0f7a4 17 = .ok (.bipush 10, 2) := dc_16 10 (lxJ6_stringSize_0f7a4 1 1 rfl) (lxJ6_stringSize_0f7a4 1 2 rfl)
set_option maxRecDepth 20000 in
theorem dJ6_stringSize_0f7a4_19 : decode cJ6_stringSize_0f7a4 19 = .ok (.if_icmp .ge 23, 3) := dc_162 0 23 (lxJ6_stringSize_0f7a4 1 3 rfl) (lxJ6_stringSize_0f7a4 1 4 rfl) (lxJ6_stringSize_0f7a4 1 5 rfl)
set_option maxRecDepth 20000 in
theorem dJ6_stringSize_0f7a4_22 : decode cJ6_stringSize_0f7a4 22 = .ok (.iload_n 0, 1) := dc_26 (lxJ6_stringSize_0f7a4 1 6 rfl)
set_option maxRecDepth 20000 in
theorem dJ6_stringSize_0f7a4_23 : decode cJ6_stringSize_0f7a4 23 = .ok (.iload_n 2, 1) := dc_28 (lxJ6_stringSize_0f7a4 1 7 rfl)
set_option maxRecDepth 20000 in
theorem dJ6_stringSize_0f7a4_24 : decode cJ6_stringSize_0f7a4 24 = .ok (.if_icmp .le 7, 3) := dc_164 0 7 (lxJ6_stringSize_0f7a4 1 8 rfl) (lxJ6_stringSize_0f7a4 1 9 rfl) (lxJ6_stringSize_0f7a4 1 10 rfl)
set_option maxRecDepth 20000 in
theorem dJ6_stringSize_0f7a4_27 : decode cJ6_stringSize_0f7a4 27 = .ok (.iload_n 3, 1) := dc_29 (lxJ6_stringSize_0f7a4 1 11 rfl)
set_option maxRecDepth 20000 in
theorem dJ6_stringSize_0f7a4_28 : decode cJ6_stringSize_0f7a4 28 = .ok (.iload_n 1, 1) := dc_27 (lxJ6_stringSize_0f7a4 1 12 rfl)
set_option maxRecDepth 20000 in
theorem dJ6_stringSize_0f7a4_29 : decode cJ6_stringSize_0f7a4 29 = .ok (.iadd, 1) := dc_96 (lxJ6_stringSize_0f7a4 1 13 rfl)
set_option maxRecDepth 20000 in
theorem dJ6_stringSize_0f7a4_30 : decode cJ6_stringSize_0f7a4 30 = .ok (.ireturn, 1) := dc_172 (lxJ6_stringSize_0f7a4 1 14 rfl)
set_option maxRecDepth 20000 in
theorem dJ6_stringSize_0f7a4_31 : decode cJ6_stringSize_0f7a4 31 = .ok (.bipush 10, 2) := dc_16 10 (lxJ6_stringSize_0f7a4 1 15 rfl) (lxJ6_stringSize_0f7a4 2 0 rfl)
set_option maxRecDepth 20000 in
theorem dJ6_stringSize_0f7a4_33 : decode cJ6_stringSize_0f7a4 33 = .ok (.iload_n 2, 1) := dc_28 (lxJ6_stringSize_0f7a4 2 1 rfl)
set_option maxRecDepth 20000 in
theorem dJ6_stringSize_0f7a4_34 : decode cJ6_stringSize_0f7a4 34 = .ok (.imul, 1) := dc_104 (lxJ6_stringSize_0f7a4 2 2 rfl)
set_option maxRecDepth 20000 in
theorem dJ6_stringSize_0f7a4_35 : decode cJ6_stringSize_0f7a4 35 = .ok (.istore_n 2, 1) := dc_61 (lxJ6_stringSize_0f7a4 2 3 rfl)
set_option maxRecDepth 20000 in
theorem dJ6_stringSize_0f7a4_36 : decode cJ6_stringSize_0f7a4 36 = .ok (.iinc 3 1, 3) := dc_132 3 1 (lxJ6_stringSize_0f7a4 2 4 rfl) (lxJ6_stringSize_0f7a4 2 5 rfl) (lxJ6_stringSize_0f7a4 2 6 rfl)
set_option maxRecDepth 20000 in
theorem dJ6_stringSize_0f7a4_39 : decode cJ6_stringSize_0f7a4 39 = .ok (.goto (-23), 3) := dc_167 255 233 (lxJ6_stringSize_0f7a4 2 7 rfl) (lxJ6_stringSize_0f7a4 2 8 rfl) (lxJ6_stringSize_0f7a4 2 9 rfl)
set_option maxRecDepth 20000 in
theorem dJ6_stringSize_0f7a4_42 : decode cJ6_stringSize_0f7a4 42 = .ok (.bipush 10, 2) := dc_16 10 (lxJ6_stringSize_0f7a4 2 10 rfl) (lxJ6_stringSize_0f7a4 2 11 rfl)
set_option maxRecDepth 20000 in
theorem dJ6_stringSize_0f7a4_44 : decode cJ6_stringSize_0f7a4 44 = .ok (.iload_n 1, 1) := dc_27 (lxJ6_stringSize_0f7a4 2 12 rfl)
set_option maxRecDepth 20000 in
theorem dJ6_stringSize_0f7a4_45 : decode cJ6_stringSize_0f7a4 45 = .ok (.iadd, 1) := dc_96 (lxJ6_stringSize_0f7a4 2 13 rfl)
set_option maxRecDepth 20000 in
theorem dJ6_stringSize_0f7a4_46 : decode cJ6_stringSize_0f7a4 46 = .ok (.ireturn, 1) := dc_172 (lxJ6_stringSize_0f7a4 2 14 rfl)
noncomputable def sgJ0_init_81219 : List (List Cond) := [[.code yJ0_init_81219 cJ0_init_81219 2 none], wsJ0_init_81219_r1, wsJ0_init_81219_r2, wsJ0_init_81219_r3, wsJ0_init_81219_r4, wsJ0_init_81219_r5, wsJ00, wsJ40]
theorem seJ0_init_81219 : sgJ0_init_81219.flatten = wsJ0_init_81219 := by simp only [sgJ0_init_81219, wsJ0_init_81219, List.flatten_cons, List.flatten_nil, List.append_assoc, List.append_nil, List.cons_append, List.nil_append]
set_option maxRecDepth 20000 in
theorem ggJ0_init_81219_J0_init_db425 : GoodIn wsJ0_init_81219 wsJ0_init_db425 := goodIn_s seJ0_init_81219 _ [pq_1_3, pq_1_4, pq_1_5, pq_1_6, pq_1_7, pq_1_8, pq_1_9, pq_1_10, pq_1_11, pq_1_12, pq_1_13, pq_1_14, pq_1_15, pq_1_16, pq_1_17, pq_1_18, pq_1_19, pq_1_20, pq_1_21, pq_1_22, pq_1_23, pq_2_0, pq_2_1, pq_2_2, pq_2_3, pq_2_4, pq_2_5, pq_2_6, pq_2_7, pq_2_8, pq_2_9, pq_2_10, pq_2_11, pq_2_12, pq_2_13, pq_2_14, pq_2_15, pq_2_16, pq_2_17, pq_2_18, pq_2_19, pq_2_20, pq_2_21, pq_2_22, pq_2_23, pq_3_0, pq_3_1, pq_3_2, pq_3_3, pq_3_4, pq_3_5, pq_3_6, pq_3_7, pq_3_8, pq_3_9, pq_3_10, pq_3_11, pq_3_12, pq_3_13, pq_3_14, pq_3_15, pq_3_16, pq_3_17, pq_3_18, pq_3_19, pq_3_20, pq_3_21, pq_3_22, pq_3_23, pq_4_0, pq_4_1, pq_4_2, pq_4_3, pq_4_4, pq_4_5, pq_4_6, pq_1_2, pq_4_7, pq_4_8, pq_4_9, pq_4_10, pq_4_11, pq_4_12, pq_4_13, pq_4_14, pq_4_15, pq_4_16, pq_4_17, pq_4_18, pq_4_19, pq_4_20, pq_4_21, pq_4_22, pq_4_23, pq_5_0, pq_5_1, pq_5_2, pq_6_0, pq_6_1, pq_6_2, pq_6_3, pq_7_0, pq_7_1, pq_7_2, pq_7_3] (by rfl) (by decide +kernel)
set_option maxRecDepth 20000 in
theorem gJ0_init_81219_J0_init_db425 : GoodIn wsJ0_init_81219 (wsJ0_init_db425) := ggJ0_init_81219_J0_init_db425
set_option maxRecDepth 20000 in
theorem dJ0_init_81219_0 : decode cJ0_init_81219 0 = .ok (.aload_n 0, 1) := dc_42 rfl
set_option maxRecDepth 20000 in
theorem dJ0_init_81219_1 : decode cJ0_init_81219 1 = .ok (.aload_n 1, 1) := dc_43 rfl
set_option maxRecDepth 20000 in
theorem dJ0_init_81219_2 : decode cJ0_init_81219 2 = .ok (.aconst_null, 1) := dc_1 rfl
set_option maxRecDepth 20000 in
theorem dJ0_init_81219_3 : decode cJ0_init_81219 3 = .ok (.invokespecial 489, 3) := dc_183 1 233 rfl rfl rfl
set_option maxRecDepth 20000 in
theorem dJ0_init_81219_6 : decode cJ0_init_81219 6 = .ok (.return_, 1) := dc_177 rfl
noncomputable def sgJ0_init_db425 : List (List Cond) := [[.code yJ0_init_db425 cJ0_init_db425 5 none], wsJ0_init_db425_r1, wsJ0_init_db425_r2, wsJ0_init_db425_r3, wsJ0_init_db425_r4, wsJ00, wsJ40]
theorem seJ0_init_db425 : sgJ0_init_db425.flatten = wsJ0_init_db425 := by simp only [sgJ0_init_db425, wsJ0_init_db425, List.flatten_cons, List.flatten_nil, List.append_assoc, List.append_nil, List.cons_append, List.nil_append]
set_option maxRecDepth 20000 in
theorem ggJ0_init_db425_J5_getValue_6d5f1 : GoodIn wsJ0_init_db425 wsJ5_getValue_6d5f1 := goodIn_s seJ0_init_db425 _ [pq_1_12, pq_1_13, pq_6_0, pq_6_1, pq_6_2, pq_6_3] (by rfl) (by decide +kernel)
set_option maxRecDepth 20000 in
theorem gJ0_init_db425_J5_getValue_6d5f1_u552J4 : GoodIn wsJ0_init_db425 (va_wsU RJ0 552 RJ4 "java/lang/AbstractStringBuilder" ⟨"java/lang/AbstractStringBuilder", "getValue", "()[B"⟩ yJ5_getValue_6d5f1 wsJ5_getValue_6d5f1) := goodIn_app (goodIn_s seJ0_init_db425 _ [pq_1_7, pq_1_8, pq_1_9, pq_1_10, pq_1_11] (by rfl) (by decide +kernel)) ggJ0_init_db425_J5_getValue_6d5f1
set_option maxRecDepth 20000 in
theorem ggJ0_init_db425_J4_length_8abf5 : GoodIn wsJ0_init_db425 wsJ4_length_8abf5 := goodIn_s seJ0_init_db425 _ [pq_1_20, pq_1_21, pq_1_15, pq_1_22, pq_1_23, pq_1_11, pq_2_0, pq_2_1, pq_6_0, pq_6_1, pq_6_2, pq_6_3] (by rfl) (by decide +kernel)
set_option maxRecDepth 20000 in
theorem gJ0_init_db425_J4_length_8abf5_u549J4 : GoodIn wsJ0_init_db425 (va_wsO RJ0 549 RJ4 "java/lang/AbstractStringBuilder" ⟨"java/lang/AbstractStringBuilder", "length", "()I"⟩ yJ4_length_8abf5 wsJ4_length_8abf5) := goodIn_app (goodIn_s seJ0_init_db425 _ [pq_1_14, pq_1_15, pq_1_16, pq_1_17, pq_1_18, pq_1_19] (by rfl) (by decide +kernel)) ggJ0_init_db425_J4_length_8abf5
set_option maxRecDepth 20000 in
theorem ggJ0_init_db425_J5_isLatin1_aae02 : GoodIn wsJ0_init_db425 wsJ5_isLatin1_aae02 := goodIn_s seJ0_init_db425 _ [pq_2_6, pq_2_7, pq_2_8, pq_6_0, pq_6_1, pq_6_2, pq_6_3] (by rfl) (by decide +kernel)
set_option maxRecDepth 20000 in
theorem gJ0_init_db425_J5_isLatin1_aae02_u1047J4 : GoodIn wsJ0_init_db425 (va_wsU RJ0 1047 RJ4 "java/lang/AbstractStringBuilder" ⟨"java/lang/AbstractStringBuilder", "isLatin1", "()Z"⟩ yJ5_isLatin1_aae02 wsJ5_isLatin1_aae02) := goodIn_app (goodIn_s seJ0_init_db425 _ [pq_2_2, pq_2_3, pq_2_4, pq_2_5, pq_1_11] (by rfl) (by decide +kernel)) ggJ0_init_db425_J5_isLatin1_aae02
set_option maxRecDepth 20000 in
theorem ggJ0_init_db425_J7_copyOfRange_39247 : GoodIn wsJ0_init_db425 wsJ7_copyOfRange_39247 := goodIn_s seJ0_init_db425 _ [pq_2_12, pq_2_13, pq_2_14, pq_2_15, pq_2_16, pq_2_17, pq_2_18, pq_2_19, pq_2_20, pq_2_11, pq_2_21, pq_2_22, pq_2_23, pq_3_0, pq_3_1, pq_3_2, pq_3_3, pq_3_4, pq_3_5, pq_3_6, pq_3_7, pq_3_8, pq_3_9, pq_3_10, pq_3_11, pq_1_19, pq_6_0, pq_6_1, pq_6_2, pq_6_3] (by rfl) (by decide +kernel)
set_option maxRecDepth 20000 in
theorem gJ0_init_db425_J7_copyOfRange_39247 : GoodIn wsJ0_init_db425 (va_wsS RJ0 54 yJ7_copyOfRange_39247 wsJ7_copyOfRange_39247) := goodIn_app (goodIn_s seJ0_init_db425 _ [pq_2_9, pq_2_10, pq_2_11] (by rfl) (by decide +kernel)) ggJ0_init_db425_J7_copyOfRange_39247
set_option maxRecDepth 20000 in
theorem ggJ0_init_db425_J2_compress_39247 : GoodIn wsJ0_init_db425 wsJ2_compress_39247 := goodIn_s seJ0_init_db425 _ [pq_3_15, pq_2_22, pq_3_16, pq_3_17, pq_3_14, pq_3_18, pq_3_19, pq_3_20, pq_3_21, pq_3_22, pq_3_23, pq_4_0, pq_4_1, pq_4_2, pq_4_3, pq_4_4, pq_4_5, pq_4_6, pq_4_7, pq_4_8, pq_4_9, pq_4_10, pq_4_11, pq_4_12, pq_4_13, pq_4_14, pq_4_15, pq_4_16, pq_4_17, pq_4_18, pq_4_19, pq_4_20, pq_2_10, pq_2_11, pq_2_12, pq_2_13, pq_2_14, pq_2_15, pq_2_16, pq_2_17, pq_2_18, pq_2_19, pq_2_20, pq_2_21, pq_2_23, pq_3_0, pq_3_1, pq_3_2, pq_3_3, pq_3_4, pq_3_5, pq_3_6, pq_3_7, pq_3_8, pq_3_9, pq_3_10, pq_3_11, pq_1_19, pq_6_0, pq_6_1, pq_6_2, pq_6_3] (by rfl) (by decide +kernel)
set_option maxRecDepth 20000 in
theorem gJ0_init_db425_J2_compress_39247 : GoodIn wsJ0_init_db425 (va_wsS RJ0 1051 yJ2_compress_39247 wsJ2_compress_39247) := goodIn_app (goodIn_s seJ0_init_db425 _ [pq_3_12, pq_3_13, pq_3_14] (by rfl) (by decide +kernel)) ggJ0_init_db425_J2_compress_39247
set_option maxRecDepth 20000 in
theorem ggJ0_init_db425_J2_coderFromArrayLen_85cad : GoodIn wsJ0_init_db425 wsJ2_coderFromArrayLen_85cad := goodIn_s seJ0_init_db425 _ [pq_4_23] (by rfl) (by decide +kernel)
set_option maxRecDepth 20000 in
theorem gJ0_init_db425_J2_coderFromArrayLen_85cad : GoodIn wsJ0_init_db425 (va_wsS RJ0 47 yJ2_coderFromArrayLen_85cad wsJ2_coderFromArrayLen_85cad) := goodIn_app (goodIn_s seJ0_init_db425 _ [pq_4_21, pq_4_22, pq_3_14] (by rfl) (by decide +kernel)) ggJ0_init_db425_J2_coderFromArrayLen_85cad
def lb_sgJ0_init_db425 : List (List UInt8) := [[42, 183, 0, 1, 43, 182, 2, 40, 78, 43, 182, 2, 37, 54, 4, 43], [182, 4, 23, 153, 0, 22, 42, 3, 181, 0, 15, 42, 45, 3, 21, 4], [184, 0, 54, 181, 0, 9, 167, 0, 59, 178, 0, 38, 153, 0, 35, 43], [180, 4, 24, 153, 0, 28, 42, 45, 3, 21, 4, 184, 4, 27, 181, 0], [9, 42, 42, 180, 0, 9, 21, 4, 184, 0, 47, 181, 0, 15, 177, 42], [4, 181, 0, 15, 42, 45, 3, 21, 4, 4, 120, 184, 0, 54, 181, 0], [9, 177]]
set_option maxRecDepth 100000 in
theorem lb_seJ0_init_db425 : cJ0_init_db425.data.toList = lb_sgJ0_init_db425.flatten := by decide +kernel
theorem lb_lnJ0_init_db425 : ∀ s ∈ lb_sgJ0_init_db425.dropLast, s.length = 16 := by decide +kernel
theorem lxJ0_init_db425 (k j : Nat) {b : UInt8} (h : (lb_sgJ0_init_db425[k]?).bind (fun s => s[j]?) = some b) : lb_at cJ0_init_db425 (16 * k + j) b := by
  unfold lb_at
  rw [lb_seJ0_init_db425]
  exact lb_flat 16 lb_sgJ0_init_db425 k j b lb_lnJ0_init_db425 h
set_option maxRecDepth 20000 in
theorem dJ0_init_db425_0 : decode cJ0_init_db425 0 = .ok (.aload_n 0, 1) := dc_42 (lxJ0_init_db425 0 0 rfl)
set_option maxRecDepth 20000 in
theorem dJ0_init_db425_1 : decode cJ0_init_db425 1 = .ok (.invokespecial 1, 3) := dc_183 0 1 (lxJ0_init_db425 0 1 rfl) (lxJ0_init_db425 0 2 rfl) (lxJ0_init_db425 0 3 rfl)
set_option maxRecDepth 20000 in
theorem dJ0_init_db425_4 : decode cJ0_init_db425 4 = .ok (.aload_n 1, 1) := dc_43 (lxJ0_init_db425 0 4 rfl)
set_option maxRecDepth 20000 in
theorem dJ0_init_db425_5 : decode cJ0_init_db425 5 = .ok (.invokevirtual 552, 3) := dc_182 2 40 (lxJ0_init_db425 0 5 rfl) (lxJ0_init_db425 0 6 rfl) (lxJ0_init_db425 0 7 rfl)
set_option maxRecDepth 20000 in
theorem dJ0_init_db425_8 : decode cJ0_init_db425 8 = .ok (.astore_n 3, 1) := dc_78 (lxJ0_init_db425 0 8 rfl)
set_option maxRecDepth 20000 in
theorem dJ0_init_db425_9 : decode cJ0_init_db425 9 = .ok (.aload_n 1, 1) := dc_43 (lxJ0_init_db425 0 9 rfl)
set_option maxRecDepth 20000 in
theorem dJ0_init_db425_10 : decode cJ0_init_db425 10 = .ok (.invokevirtual 549, 3) := dc_182 2 37 (lxJ0_init_db425 0 10 rfl) (lxJ0_init_db425 0 11 rfl) (lxJ0_init_db425 0 12 rfl)
set_option maxRecDepth 20000 in
theorem dJ0_init_db425_13 : decode cJ0_init_db425 13 = .ok (.istore 4, 2) := dc_54 4 (lxJ0_init_db425 0 13 rfl) (lxJ0_init_db425 0 14 rfl)
set_option maxRecDepth 20000 in
theorem dJ0_init_db425_15 : decode cJ0_init_db425 15 = .ok (.aload_n 1, 1) := dc_43 (lxJ0_init_db425 0 15 rfl)
set_option maxRecDepth 20000 in
theorem dJ0_init_db425_16 : decode cJ0_init_db425 16 = .ok (.invokevirtual 1047, 3) := dc_182 4 23 (lxJ0_init_db425 1 0 rfl) (lxJ0_init_db425 1 1 rfl) (lxJ0_init_db425 1 2 rfl)
set_option maxRecDepth 20000 in
theorem dJ0_init_db425_19 : decode cJ0_init_db425 19 = .ok (.ifCond .eq 22, 3) := dc_153 0 22 (lxJ0_init_db425 1 3 rfl) (lxJ0_init_db425 1 4 rfl) (lxJ0_init_db425 1 5 rfl)
set_option maxRecDepth 20000 in
theorem dJ0_init_db425_22 : decode cJ0_init_db425 22 = .ok (.aload_n 0, 1) := dc_42 (lxJ0_init_db425 1 6 rfl)
set_option maxRecDepth 20000 in
theorem dJ0_init_db425_23 : decode cJ0_init_db425 23 = .ok (.iconst 0, 1) := dc_3 (lxJ0_init_db425 1 7 rfl)
set_option maxRecDepth 20000 in
theorem dJ0_init_db425_24 : decode cJ0_init_db425 24 = .ok (.putfield 15, 3) := dc_181 0 15 (lxJ0_init_db425 1 8 rfl) (lxJ0_init_db425 1 9 rfl) (lxJ0_init_db425 1 10 rfl)
set_option maxRecDepth 20000 in
theorem dJ0_init_db425_27 : decode cJ0_init_db425 27 = .ok (.aload_n 0, 1) := dc_42 (lxJ0_init_db425 1 11 rfl)
set_option maxRecDepth 20000 in
theorem dJ0_init_db425_28 : decode cJ0_init_db425 28 = .ok (.aload_n 3, 1) := dc_45 (lxJ0_init_db425 1 12 rfl)
set_option maxRecDepth 20000 in
theorem dJ0_init_db425_29 : decode cJ0_init_db425 29 = .ok (.iconst 0, 1) := dc_3 (lxJ0_init_db425 1 13 rfl)
set_option maxRecDepth 20000 in
theorem dJ0_init_db425_30 : decode cJ0_init_db425 30 = .ok (.iload 4, 2) := dc_21 4 (lxJ0_init_db425 1 14 rfl) (lxJ0_init_db425 1 15 rfl)
set_option maxRecDepth 20000 in
theorem dJ0_init_db425_32 : decode cJ0_init_db425 32 = .ok (.invokestatic 54, 3) := dc_184 0 54 (lxJ0_init_db425 2 0 rfl) (lxJ0_init_db425 2 1 rfl) (lxJ0_init_db425 2 2 rfl)
set_option maxRecDepth 20000 in
theorem dJ0_init_db425_35 : decode cJ0_init_db425 35 = .ok (.putfield 9, 3) := dc_181 0 9 (lxJ0_init_db425 2 3 rfl) (lxJ0_init_db425 2 4 rfl) (lxJ0_init_db425 2 5 rfl)
set_option maxRecDepth 20000 in
theorem dJ0_init_db425_38 : decode cJ0_init_db425 38 = .ok (.goto 59, 3) := dc_167 0 59 (lxJ0_init_db425 2 6 rfl) (lxJ0_init_db425 2 7 rfl) (lxJ0_init_db425 2 8 rfl)
set_option maxRecDepth 20000 in
theorem dJ0_init_db425_41 : decode cJ0_init_db425 41 = .ok (.getstatic 38, 3) := dc_178 0 38 (lxJ0_init_db425 2 9 rfl) (lxJ0_init_db425 2 10 rfl) (lxJ0_init_db425 2 11 rfl)
set_option maxRecDepth 20000 in
theorem dJ0_init_db425_44 : decode cJ0_init_db425 44 = .ok (.ifCond .eq 35, 3) := dc_153 0 35 (lxJ0_init_db425 2 12 rfl) (lxJ0_init_db425 2 13 rfl) (lxJ0_init_db425 2 14 rfl)
set_option maxRecDepth 20000 in
theorem dJ0_init_db425_47 : decode cJ0_init_db425 47 = .ok (.aload_n 1, 1) := dc_43 (lxJ0_init_db425 2 15 rfl)
set_option maxRecDepth 20000 in
theorem dJ0_init_db425_48 : decode cJ0_init_db425 48 = .ok (.getfield 1048, 3) := dc_180 4 24 (lxJ0_init_db425 3 0 rfl) (lxJ0_init_db425 3 1 rfl) (lxJ0_init_db425 3 2 rfl)
set_option maxRecDepth 20000 in
theorem dJ0_init_db425_51 : decode cJ0_init_db425 51 = .ok (.ifCond .eq 28, 3) := dc_153 0 28 (lxJ0_init_db425 3 3 rfl) (lxJ0_init_db425 3 4 rfl) (lxJ0_init_db425 3 5 rfl)
set_option maxRecDepth 20000 in
theorem dJ0_init_db425_54 : decode cJ0_init_db425 54 = .ok (.aload_n 0, 1) := dc_42 (lxJ0_init_db425 3 6 rfl)
set_option maxRecDepth 20000 in
theorem dJ0_init_db425_55 : decode cJ0_init_db425 55 = .ok (.aload_n 3, 1) := dc_45 (lxJ0_init_db425 3 7 rfl)
set_option maxRecDepth 20000 in
theorem dJ0_init_db425_56 : decode cJ0_init_db425 56 = .ok (.iconst 0, 1) := dc_3 (lxJ0_init_db425 3 8 rfl)
set_option maxRecDepth 20000 in
theorem dJ0_init_db425_57 : decode cJ0_init_db425 57 = .ok (.iload 4, 2) := dc_21 4 (lxJ0_init_db425 3 9 rfl) (lxJ0_init_db425 3 10 rfl)
set_option maxRecDepth 20000 in
theorem dJ0_init_db425_59 : decode cJ0_init_db425 59 = .ok (.invokestatic 1051, 3) := dc_184 4 27 (lxJ0_init_db425 3 11 rfl) (lxJ0_init_db425 3 12 rfl) (lxJ0_init_db425 3 13 rfl)
set_option maxRecDepth 20000 in
theorem dJ0_init_db425_62 : decode cJ0_init_db425 62 = .ok (.putfield 9, 3) := dc_181 0 9 (lxJ0_init_db425 3 14 rfl) (lxJ0_init_db425 3 15 rfl) (lxJ0_init_db425 4 0 rfl)
set_option maxRecDepth 20000 in
theorem dJ0_init_db425_65 : decode cJ0_init_db425 65 = .ok (.aload_n 0, 1) := dc_42 (lxJ0_init_db425 4 1 rfl)
set_option maxRecDepth 20000 in
theorem dJ0_init_db425_66 : decode cJ0_init_db425 66 = .ok (.aload_n 0, 1) := dc_42 (lxJ0_init_db425 4 2 rfl)
set_option maxRecDepth 20000 in
theorem dJ0_init_db425_67 : decode cJ0_init_db425 67 = .ok (.getfield 9, 3) := dc_180 0 9 (lxJ0_init_db425 4 3 rfl) (lxJ0_init_db425 4 4 rfl) (lxJ0_init_db425 4 5 rfl)
set_option maxRecDepth 20000 in
theorem dJ0_init_db425_70 : decode cJ0_init_db425 70 = .ok (.iload 4, 2) := dc_21 4 (lxJ0_init_db425 4 6 rfl) (lxJ0_init_db425 4 7 rfl)
set_option maxRecDepth 20000 in
theorem dJ0_init_db425_72 : decode cJ0_init_db425 72 = .ok (.invokestatic 47, 3) := dc_184 0 47 (lxJ0_init_db425 4 8 rfl) (lxJ0_init_db425 4 9 rfl) (lxJ0_init_db425 4 10 rfl)
set_option maxRecDepth 20000 in
theorem dJ0_init_db425_75 : decode cJ0_init_db425 75 = .ok (.putfield 15, 3) := dc_181 0 15 (lxJ0_init_db425 4 11 rfl) (lxJ0_init_db425 4 12 rfl) (lxJ0_init_db425 4 13 rfl)
set_option maxRecDepth 20000 in
theorem dJ0_init_db425_78 : decode cJ0_init_db425 78 = .ok (.return_, 1) := dc_177 (lxJ0_init_db425 4 14 rfl)
set_option maxRecDepth 20000 in
theorem dJ0_init_db425_79 : decode cJ0_init_db425 79 = .ok (.aload_n 0, 1) := dc_42 (lxJ0_init_db425 4 15 rfl)
set_option maxRecDepth 20000 in
theorem dJ0_init_db425_80 : decode cJ0_init_db425 80 = .ok (.iconst 1, 1) := dc_4 (lxJ0_init_db425 5 0 rfl)
set_option maxRecDepth 20000 in
theorem dJ0_init_db425_81 : decode cJ0_init_db425 81 = .ok (.putfield 15, 3) := dc_181 0 15 (lxJ0_init_db425 5 1 rfl) (lxJ0_init_db425 5 2 rfl) (lxJ0_init_db425 5 3 rfl)
set_option maxRecDepth 20000 in
theorem dJ0_init_db425_84 : decode cJ0_init_db425 84 = .ok (.aload_n 0, 1) := dc_42 (lxJ0_init_db425 5 4 rfl)
set_option maxRecDepth 20000 in
theorem dJ0_init_db425_85 : decode cJ0_init_db425 85 = .ok (.aload_n 3, 1) := dc_45 (lxJ0_init_db425 5 5 rfl)
set_option maxRecDepth 20000 in
theorem dJ0_init_db425_86 : decode cJ0_init_db425 86 = .ok (.iconst 0, 1) := dc_3 (lxJ0_init_db425 5 6 rfl)
set_option maxRecDepth 20000 in
theorem dJ0_init_db425_87 : decode cJ0_init_db425 87 = .ok (.iload 4, 2) := dc_21 4 (lxJ0_init_db425 5 7 rfl) (lxJ0_init_db425 5 8 rfl)
set_option maxRecDepth 20000 in
theorem dJ0_init_db425_89 : decode cJ0_init_db425 89 = .ok (.iconst 1, 1) := dc_4 (lxJ0_init_db425 5 9 rfl)
set_option maxRecDepth 20000 in
theorem dJ0_init_db425_90 : decode cJ0_init_db425 90 = .ok (.ishl, 1) := dc_120 (lxJ0_init_db425 5 10 rfl)
set_option maxRecDepth 20000 in
theorem dJ0_init_db425_91 : decode cJ0_init_db425 91 = .ok (.invokestatic 54, 3) := dc_184 0 54 (lxJ0_init_db425 5 11 rfl) (lxJ0_init_db425 5 12 rfl) (lxJ0_init_db425 5 13 rfl)
set_option maxRecDepth 20000 in
theorem dJ0_init_db425_94 : decode cJ0_init_db425 94 = .ok (.putfield 9, 3) := dc_181 0 9 (lxJ0_init_db425 5 14 rfl) (lxJ0_init_db425 5 15 rfl) (lxJ0_init_db425 6 0 rfl)
set_option maxRecDepth 20000 in
theorem dJ0_init_db425_97 : decode cJ0_init_db425 97 = .ok (.return_, 1) := dc_177 (lxJ0_init_db425 6 1 rfl)
noncomputable def sgJ4_init_da8c8 : List (List Cond) := [[.code yJ4_init_da8c8 cJ4_init_da8c8 1 none], [.methodLink RJ4 1 yJ5_init_d00df, .instanceMethod yJ5_init_d00df, .initialized RJ5, .code yJ5_init_d00df cJ5_init_d00df 2 none, .methodLink RJ5 3 objectInit, .instanceMethod objectInit, .code objectInit ⟨#[0xb1]⟩ 1 none, .fieldLink RJ5 18 "java/lang/String" "COMPACT_STRINGS" "Z", .arrayClass .byte, .fieldLink RJ5 15 "java/lang/AbstractStringBuilder" "value" "[B", .fieldLink RJ5 22 "java/lang/AbstractStringBuilder" "coder" "B", .methodLink RJ5 26 yJ2_newBytesFor_77867, .static yJ2_newBytesFor_77867, .initialized RJ2, .code yJ2_newBytesFor_77867 cJ2_newBytesFor_77867 1 (some (.array .byte)), .methodLink RJ2 11 yJ2_newBytesLength_0f7a4, .static yJ2_newBytesLength_0f7a4, .code yJ2_newBytesLength_0f7a4 cJ2_newBytesLength_0f7a4 1 (some .int), .constant RJ2 20 (1073741823)], wsJ40]
theorem seJ4_init_da8c8 : sgJ4_init_da8c8.flatten = wsJ4_init_da8c8 := by simp only [sgJ4_init_da8c8, wsJ4_init_da8c8, List.flatten_cons, List.flatten_nil, List.append_assoc, List.append_nil, List.cons_append, List.nil_append]
set_option maxRecDepth 20000 in
theorem ggJ4_init_da8c8_J5_init_d00df : GoodIn wsJ4_init_da8c8 wsJ5_init_d00df := goodIn_s seJ4_init_da8c8 _ [pq_1_3, pq_1_4, pq_1_5, pq_1_6, pq_1_7, pq_1_8, pq_1_9, pq_1_10, pq_1_11, pq_1_12, pq_1_13, pq_1_14, pq_1_15, pq_1_16, pq_1_17, pq_1_18, pq_2_0, pq_2_1, pq_2_2, pq_2_3] (by rfl) (by decide +kernel)
set_option maxRecDepth 20000 in
theorem gJ4_init_da8c8_J5_init_d00df : GoodIn wsJ4_init_da8c8 (wsJ5_init_d00df) := ggJ4_init_da8c8_J5_init_d00df
set_option maxRecDepth 20000 in
theorem dJ4_init_da8c8_0 : decode cJ4_init_da8c8 0 = .ok (.aload_n 0, 1) := dc_42 rfl
set_option maxRecDepth 20000 in
theorem dJ4_init_da8c8_1 : decode cJ4_init_da8c8 1 = .ok (.bipush 16, 2) := dc_16 16 rfl rfl
set_option maxRecDepth 20000 in
theorem dJ4_init_da8c8_3 : decode cJ4_init_da8c8 3 = .ok (.invokespecial 1, 3) := dc_183 0 1 rfl rfl rfl
set_option maxRecDepth 20000 in
theorem dJ4_init_da8c8_6 : decode cJ4_init_da8c8 6 = .ok (.return_, 1) := dc_177 rfl
noncomputable def sgJ4_append_cf468 : List (List Cond) := [[.code yJ4_append_cf468 cJ4_append_cf468 2 (some (.object "java/lang/StringBuilder"))], wsJ4_append_cf468_r1, wsJ4_append_cf468_r2, wsJ4_append_cf468_r3, wsJ4_append_cf468_r4, wsJ4_append_cf468_r5, wsJ40]
theorem seJ4_append_cf468 : sgJ4_append_cf468.flatten = wsJ4_append_cf468 := by simp only [sgJ4_append_cf468, wsJ4_append_cf468, List.flatten_cons, List.flatten_nil, List.append_assoc, List.append_nil, List.cons_append, List.nil_append]
set_option maxRecDepth 20000 in
theorem ggJ4_append_cf468_J5_append_3fe6f : GoodIn wsJ4_append_cf468 wsJ5_append_3fe6f := goodIn_s seJ4_append_cf468 _ [pq_1_5, pq_1_6, pq_1_7, pq_1_8, pq_1_9, pq_1_10, pq_1_11, pq_1_4, pq_1_12, pq_1_13, pq_1_14, pq_1_15, pq_1_16, pq_1_17, pq_1_18, pq_1_19, pq_1_20, pq_1_21, pq_1_22, pq_1_23, pq_2_0, pq_2_1, pq_2_2, pq_2_3, pq_2_4, pq_2_5, pq_2_6, pq_2_7, pq_2_8, pq_2_9, pq_2_10, pq_2_11, pq_2_12, pq_2_13, pq_2_14, pq_2_15, pq_2_16, pq_2_17, pq_2_18, pq_2_19, pq_2_20, pq_2_21, pq_2_22, pq_2_23, pq_3_0, pq_3_1, pq_3_2, pq_3_3, pq_3_4, pq_3_5, pq_3_6, pq_3_7, pq_3_8, pq_3_9, pq_3_10, pq_3_11, pq_3_12, pq_3_13, pq_3_14, pq_3_15, pq_3_16, pq_3_17, pq_3_18, pq_3_19, pq_3_20, pq_3_21, pq_3_22, pq_3_23, pq_4_0, pq_4_1, pq_4_2, pq_4_3, pq_4_4, pq_4_5, pq_4_6, pq_4_7, pq_4_8, pq_4_9, pq_4_10, pq_4_11, pq_4_12, pq_4_13, pq_4_14, pq_4_15, pq_4_16, pq_4_17, pq_4_18, pq_4_19, pq_4_20, pq_4_21, pq_4_22, pq_4_23, pq_5_0, pq_5_1, pq_5_2, pq_5_3, pq_5_4, pq_5_5, pq_5_6, pq_5_7, pq_5_8, pq_5_9, pq_5_10, pq_5_11, pq_5_12, pq_5_13, pq_5_14, pq_5_15, pq_6_0, pq_6_1, pq_6_2, pq_6_3] (by rfl) (by decide +kernel)
set_option maxRecDepth 20000 in
theorem gJ4_append_cf468_J5_append_3fe6f_s50 : GoodIn wsJ4_append_cf468 (va_wsSU RJ4 50 yJ5_append_3fe6f wsJ5_append_3fe6f) := goodIn_app (goodIn_s seJ4_append_cf468 _ [pq_1_0, pq_1_1, pq_1_2, pq_1_3, pq_1_4] (by rfl) (by decide +kernel)) ggJ4_append_cf468_J5_append_3fe6f
set_option maxRecDepth 20000 in
theorem dJ4_append_cf468_0 : decode cJ4_append_cf468 0 = .ok (.aload_n 0, 1) := dc_42 rfl
set_option maxRecDepth 20000 in
theorem dJ4_append_cf468_1 : decode cJ4_append_cf468 1 = .ok (.iload_n 1, 1) := dc_27 rfl
set_option maxRecDepth 20000 in
theorem dJ4_append_cf468_2 : decode cJ4_append_cf468 2 = .ok (.invokespecial 50, 3) := dc_183 0 50 rfl rfl rfl
set_option maxRecDepth 20000 in
theorem dJ4_append_cf468_5 : decode cJ4_append_cf468 5 = .ok (.pop, 1) := dc_87 rfl
set_option maxRecDepth 20000 in
theorem dJ4_append_cf468_6 : decode cJ4_append_cf468 6 = .ok (.aload_n 0, 1) := dc_42 rfl
set_option maxRecDepth 20000 in
theorem dJ4_append_cf468_7 : decode cJ4_append_cf468 7 = .ok (.areturn, 1) := dc_176 rfl
noncomputable def sgJ4_append_bf812 : List (List Cond) := [[.code yJ4_append_bf812 cJ4_append_bf812 2 (some (.object "java/lang/StringBuilder"))], wsJ4_append_bf812_r1, wsJ4_append_bf812_r2, wsJ4_append_bf812_r3, wsJ4_append_bf812_r4, wsJ40]
theorem seJ4_append_bf812 : sgJ4_append_bf812.flatten = wsJ4_append_bf812 := by simp only [sgJ4_append_bf812, wsJ4_append_bf812, List.flatten_cons, List.flatten_nil, List.append_assoc, List.append_nil, List.cons_append, List.nil_append]
set_option maxRecDepth 20000 in
theorem ggJ4_append_bf812_J5_append_c97b9 : GoodIn wsJ4_append_bf812 wsJ5_append_c97b9 := goodIn_s seJ4_append_bf812 _ [pq_1_5, pq_1_6, pq_1_7, pq_1_8, pq_1_9, pq_1_10, pq_1_11, pq_1_12, pq_1_13, pq_1_14, pq_1_15, pq_1_4, pq_1_16, pq_1_17, pq_1_18, pq_1_19, pq_1_20, pq_1_21, pq_1_22, pq_1_23, pq_2_0, pq_2_1, pq_2_2, pq_2_3, pq_2_4, pq_2_5, pq_2_6, pq_2_7, pq_2_8, pq_2_9, pq_2_10, pq_2_11, pq_2_12, pq_2_13, pq_2_14, pq_2_15, pq_2_16, pq_2_17, pq_2_18, pq_2_19, pq_2_20, pq_2_21, pq_2_22, pq_2_23, pq_3_0, pq_3_1, pq_3_2, pq_3_3, pq_3_4, pq_3_5, pq_3_6, pq_3_7, pq_3_8, pq_3_9, pq_3_10, pq_3_11, pq_3_12, pq_3_13, pq_3_14, pq_3_15, pq_3_16, pq_3_17, pq_3_18, pq_3_19, pq_3_20, pq_3_21, pq_3_22, pq_3_23, pq_4_0, pq_4_1, pq_4_2, pq_4_3, pq_4_4, pq_4_5, pq_4_6, pq_4_7, pq_4_8, pq_4_9, pq_4_10, pq_4_11, pq_4_12, pq_4_13, pq_4_14, pq_4_15, pq_4_16, pq_4_17, pq_4_18, pq_4_19, pq_4_20, pq_4_21, pq_4_22, pq_5_0, pq_5_1, pq_5_2, pq_5_3] (by rfl) (by decide +kernel)
set_option maxRecDepth 20000 in
theorem gJ4_append_bf812_J5_append_c97b9_s53 : GoodIn wsJ4_append_bf812 (va_wsSU RJ4 53 yJ5_append_c97b9 wsJ5_append_c97b9) := goodIn_app (goodIn_s seJ4_append_bf812 _ [pq_1_0, pq_1_1, pq_1_2, pq_1_3, pq_1_4] (by rfl) (by decide +kernel)) ggJ4_append_bf812_J5_append_c97b9
set_option maxRecDepth 20000 in
theorem dJ4_append_bf812_0 : decode cJ4_append_bf812 0 = .ok (.aload_n 0, 1) := dc_42 rfl
set_option maxRecDepth 20000 in
theorem dJ4_append_bf812_1 : decode cJ4_append_bf812 1 = .ok (.iload_n 1, 1) := dc_27 rfl
set_option maxRecDepth 20000 in
theorem dJ4_append_bf812_2 : decode cJ4_append_bf812 2 = .ok (.invokespecial 53, 3) := dc_183 0 53 rfl rfl rfl
set_option maxRecDepth 20000 in
theorem dJ4_append_bf812_5 : decode cJ4_append_bf812 5 = .ok (.pop, 1) := dc_87 rfl
set_option maxRecDepth 20000 in
theorem dJ4_append_bf812_6 : decode cJ4_append_bf812 6 = .ok (.aload_n 0, 1) := dc_42 rfl
set_option maxRecDepth 20000 in
theorem dJ4_append_bf812_7 : decode cJ4_append_bf812 7 = .ok (.areturn, 1) := dc_176 rfl
noncomputable def sgJ4_toString_0e30d : List (List Cond) := [[.code yJ4_toString_0e30d cJ4_toString_0e30d 1 (some (.object "java/lang/String"))], wsJ4_toString_0e30d_r1, wsJ4_toString_0e30d_r2, wsJ4_toString_0e30d_r3, wsJ4_toString_0e30d_r4, wsJ4_toString_0e30d_r5, wsJ00, wsJ40]
theorem seJ4_toString_0e30d : sgJ4_toString_0e30d.flatten = wsJ4_toString_0e30d := by simp only [sgJ4_toString_0e30d, wsJ4_toString_0e30d, List.flatten_cons, List.flatten_nil, List.append_assoc, List.append_nil, List.cons_append, List.nil_append]
set_option maxRecDepth 20000 in
theorem ggJ4_toString_0e30d_J0_init_81219 : GoodIn wsJ4_toString_0e30d wsJ0_init_81219 := goodIn_s seJ4_toString_0e30d _ [pq_1_5, pq_1_6, pq_1_7, pq_1_2, pq_1_8, pq_1_9, pq_1_10, pq_1_11, pq_1_12, pq_1_13, pq_1_14, pq_1_15, pq_1_16, pq_1_17, pq_1_18, pq_1_19, pq_1_20, pq_1_21, pq_1_22, pq_1_23, pq_2_0, pq_2_1, pq_2_2, pq_2_3, pq_2_4, pq_2_5, pq_2_6, pq_2_7, pq_2_8, pq_2_9, pq_2_10, pq_2_11, pq_2_12, pq_2_13, pq_2_14, pq_2_15, pq_2_16, pq_2_17, pq_2_18, pq_2_19, pq_2_20, pq_2_21, pq_2_22, pq_2_23, pq_3_0, pq_3_1, pq_3_2, pq_3_3, pq_3_4, pq_3_5, pq_3_6, pq_3_7, pq_3_8, pq_3_9, pq_3_10, pq_3_11, pq_3_12, pq_3_13, pq_3_14, pq_3_15, pq_3_16, pq_3_17, pq_3_18, pq_3_19, pq_3_20, pq_3_21, pq_3_22, pq_3_23, pq_4_0, pq_4_1, pq_4_2, pq_4_3, pq_4_4, pq_4_5, pq_4_6, pq_4_7, pq_4_8, pq_4_9, pq_4_10, pq_4_11, pq_4_12, pq_4_13, pq_4_14, pq_4_15, pq_4_16, pq_4_17, pq_4_18, pq_4_19, pq_4_20, pq_4_21, pq_4_22, pq_4_23, pq_5_0, pq_5_1, pq_5_2, pq_5_3, pq_5_4, pq_5_5, pq_5_6, pq_5_7, pq_6_0, pq_6_1, pq_6_2, pq_6_3, pq_7_0, pq_7_1, pq_7_2, pq_7_3] (by rfl) (by decide +kernel)
set_option maxRecDepth 20000 in
theorem gJ4_toString_0e30d_J0_init_81219 : GoodIn wsJ4_toString_0e30d (wsJ0_init_81219) := ggJ4_toString_0e30d_J0_init_81219
set_option maxRecDepth 20000 in
theorem dJ4_toString_0e30d_0 : decode cJ4_toString_0e30d 0 = .ok (.new 18, 3) := dc_187 0 18 rfl rfl rfl
set_option maxRecDepth 20000 in
theorem dJ4_toString_0e30d_3 : decode cJ4_toString_0e30d 3 = .ok (.dup, 1) := dc_89 rfl
set_option maxRecDepth 20000 in
theorem dJ4_toString_0e30d_4 : decode cJ4_toString_0e30d 4 = .ok (.aload_n 0, 1) := dc_42 rfl
set_option maxRecDepth 20000 in
theorem dJ4_toString_0e30d_5 : decode cJ4_toString_0e30d 5 = .ok (.invokespecial 137, 3) := dc_183 0 137 rfl rfl rfl
set_option maxRecDepth 20000 in
theorem dJ4_toString_0e30d_8 : decode cJ4_toString_0e30d 8 = .ok (.areturn, 1) := dc_176 rfl
noncomputable def sgJ4_length_8abf5 : List (List Cond) := [[.code yJ4_length_8abf5 cJ4_length_8abf5 1 (some .int)], [.methodLink RJ4 343 yJ5_length_8abf5, .sameMethod "java/lang/AbstractStringBuilder" "java/lang/AbstractStringBuilder" "length" "()I", .superclass RJ4 RJ5, .instanceMethod yJ5_length_8abf5, .initialized RJ5, .code yJ5_length_8abf5 cJ5_length_8abf5 1 (some .int), .fieldLink RJ5 79 "java/lang/AbstractStringBuilder" "count" "I"], wsJ40]
theorem seJ4_length_8abf5 : sgJ4_length_8abf5.flatten = wsJ4_length_8abf5 := by simp only [sgJ4_length_8abf5, wsJ4_length_8abf5, List.flatten_cons, List.flatten_nil, List.append_assoc, List.append_nil, List.cons_append, List.nil_append]
set_option maxRecDepth 20000 in
theorem ggJ4_length_8abf5_J5_length_8abf5 : GoodIn wsJ4_length_8abf5 wsJ5_length_8abf5 := goodIn_s seJ4_length_8abf5 _ [pq_1_5, pq_1_6, pq_2_0, pq_2_1, pq_2_2, pq_2_3] (by rfl) (by decide +kernel)
set_option maxRecDepth 20000 in
theorem gJ4_length_8abf5_J5_length_8abf5_s343 : GoodIn wsJ4_length_8abf5 (va_wsSU RJ4 343 yJ5_length_8abf5 wsJ5_length_8abf5) := goodIn_app (goodIn_s seJ4_length_8abf5 _ [pq_1_0, pq_1_1, pq_1_2, pq_1_3, pq_1_4] (by rfl) (by decide +kernel)) ggJ4_length_8abf5_J5_length_8abf5
set_option maxRecDepth 20000 in
theorem dJ4_length_8abf5_0 : decode cJ4_length_8abf5 0 = .ok (.aload_n 0, 1) := dc_42 rfl
set_option maxRecDepth 20000 in
theorem dJ4_length_8abf5_1 : decode cJ4_length_8abf5 1 = .ok (.invokespecial 343, 3) := dc_183 1 87 rfl rfl rfl
set_option maxRecDepth 20000 in
theorem dJ4_length_8abf5_4 : decode cJ4_length_8abf5 4 = .ok (.ireturn, 1) := dc_172 rfl
def lb_sgJ1_canEncode_fc78d : List (List UInt8) := [[26, 17, 0, 255, 163, 0, 7, 4, 167, 0, 4, 3, 172]]
set_option maxRecDepth 100000 in
theorem lb_seJ1_canEncode_fc78d : cJ1_canEncode_fc78d.data.toList = lb_sgJ1_canEncode_fc78d.flatten := by decide +kernel
theorem lb_lnJ1_canEncode_fc78d : ∀ s ∈ lb_sgJ1_canEncode_fc78d.dropLast, s.length = 16 := by decide +kernel
theorem lxJ1_canEncode_fc78d (k j : Nat) {b : UInt8} (h : (lb_sgJ1_canEncode_fc78d[k]?).bind (fun s => s[j]?) = some b) : lb_at cJ1_canEncode_fc78d (16 * k + j) b := by
  unfold lb_at
  rw [lb_seJ1_canEncode_fc78d]
  exact lb_flat 16 lb_sgJ1_canEncode_fc78d k j b lb_lnJ1_canEncode_fc78d h
set_option maxRecDepth 20000 in
theorem dJ1_canEncode_fc78d_0 : decode cJ1_canEncode_fc78d 0 = .ok (.iload_n 0, 1) := dc_26 (lxJ1_canEncode_fc78d 0 0 rfl)
set_option maxRecDepth 20000 in
theorem dJ1_canEncode_fc78d_1 : decode cJ1_canEncode_fc78d 1 = .ok (.sipush 255, 3) := dc_17 0 255 (lxJ1_canEncode_fc78d 0 1 rfl) (lxJ1_canEncode_fc78d 0 2 rfl) (lxJ1_canEncode_fc78d 0 3 rfl)
set_option maxRecDepth 20000 in
theorem dJ1_canEncode_fc78d_4 : decode cJ1_canEncode_fc78d 4 = .ok (.if_icmp .gt 7, 3) := dc_163 0 7 (lxJ1_canEncode_fc78d 0 4 rfl) (lxJ1_canEncode_fc78d 0 5 rfl) (lxJ1_canEncode_fc78d 0 6 rfl)
set_option maxRecDepth 20000 in
theorem dJ1_canEncode_fc78d_7 : decode cJ1_canEncode_fc78d 7 = .ok (.iconst 1, 1) := dc_4 (lxJ1_canEncode_fc78d 0 7 rfl)
set_option maxRecDepth 20000 in
theorem dJ1_canEncode_fc78d_8 : decode cJ1_canEncode_fc78d 8 = .ok (.goto 4, 3) := dc_167 0 4 (lxJ1_canEncode_fc78d 0 8 rfl) (lxJ1_canEncode_fc78d 0 9 rfl) (lxJ1_canEncode_fc78d 0 10 rfl)
set_option maxRecDepth 20000 in
theorem dJ1_canEncode_fc78d_11 : decode cJ1_canEncode_fc78d 11 = .ok (.iconst 0, 1) := dc_3 (lxJ1_canEncode_fc78d 0 11 rfl)
set_option maxRecDepth 20000 in
theorem dJ1_canEncode_fc78d_12 : decode cJ1_canEncode_fc78d 12 = .ok (.ireturn, 1) := dc_172 (lxJ1_canEncode_fc78d 0 12 rfl)
def lb_sgJ7_copyOf_9075b : List (List UInt8) := [[27, 42, 190, 160, 0, 11, 42, 182, 1, 54, 192, 1, 55, 176, 27, 188], [8, 77, 42, 3, 44, 3, 42, 190, 27, 184, 1, 48, 184, 0, 150, 44], [176]]
set_option maxRecDepth 100000 in
theorem lb_seJ7_copyOf_9075b : cJ7_copyOf_9075b.data.toList = lb_sgJ7_copyOf_9075b.flatten := by decide +kernel
theorem lb_lnJ7_copyOf_9075b : ∀ s ∈ lb_sgJ7_copyOf_9075b.dropLast, s.length = 16 := by decide +kernel
theorem lxJ7_copyOf_9075b (k j : Nat) {b : UInt8} (h : (lb_sgJ7_copyOf_9075b[k]?).bind (fun s => s[j]?) = some b) : lb_at cJ7_copyOf_9075b (16 * k + j) b := by
  unfold lb_at
  rw [lb_seJ7_copyOf_9075b]
  exact lb_flat 16 lb_sgJ7_copyOf_9075b k j b lb_lnJ7_copyOf_9075b h
set_option maxRecDepth 20000 in
theorem dJ7_copyOf_9075b_0 : decode cJ7_copyOf_9075b 0 = .ok (.iload_n 1, 1) := dc_27 (lxJ7_copyOf_9075b 0 0 rfl)
set_option maxRecDepth 20000 in
theorem dJ7_copyOf_9075b_1 : decode cJ7_copyOf_9075b 1 = .ok (.aload_n 0, 1) := dc_42 (lxJ7_copyOf_9075b 0 1 rfl)
set_option maxRecDepth 20000 in
theorem dJ7_copyOf_9075b_2 : decode cJ7_copyOf_9075b 2 = .ok (.arraylength, 1) := dc_190 (lxJ7_copyOf_9075b 0 2 rfl)
set_option maxRecDepth 20000 in
theorem dJ7_copyOf_9075b_3 : decode cJ7_copyOf_9075b 3 = .ok (.if_icmp .ne 11, 3) := dc_160 0 11 (lxJ7_copyOf_9075b 0 3 rfl) (lxJ7_copyOf_9075b 0 4 rfl) (lxJ7_copyOf_9075b 0 5 rfl)
set_option maxRecDepth 20000 in
theorem dJ7_copyOf_9075b_6 : decode cJ7_copyOf_9075b 6 = .ok (.aload_n 0, 1) := dc_42 (lxJ7_copyOf_9075b 0 6 rfl)
set_option maxRecDepth 20000 in
theorem dJ7_copyOf_9075b_7 : decode cJ7_copyOf_9075b 7 = .ok (.invokevirtual 310, 3) := dc_182 1 54 (lxJ7_copyOf_9075b 0 7 rfl) (lxJ7_copyOf_9075b 0 8 rfl) (lxJ7_copyOf_9075b 0 9 rfl)
set_option maxRecDepth 20000 in
theorem dJ7_copyOf_9075b_10 : decode cJ7_copyOf_9075b 10 = .ok (.checkcast 311, 3) := dc_192 1 55 (lxJ7_copyOf_9075b 0 10 rfl) (lxJ7_copyOf_9075b 0 11 rfl) (lxJ7_copyOf_9075b 0 12 rfl)
set_option maxRecDepth 20000 in
theorem dJ7_copyOf_9075b_13 : decode cJ7_copyOf_9075b 13 = .ok (.areturn, 1) := dc_176 (lxJ7_copyOf_9075b 0 13 rfl)
set_option maxRecDepth 20000 in
theorem dJ7_copyOf_9075b_14 : decode cJ7_copyOf_9075b 14 = .ok (.iload_n 1, 1) := dc_27 (lxJ7_copyOf_9075b 0 14 rfl)
theorem dJ7_copyOf_9075b_15 : decode cJ7_copyOf_9075b 15 = .ok (.newarray .byte, 2) := by decide +kernel
set_option maxRecDepth 20000 in
theorem dJ7_copyOf_9075b_17 : decode cJ7_copyOf_9075b 17 = .ok (.astore_n 2, 1) := dc_77 (lxJ7_copyOf_9075b 1 1 rfl)
set_option maxRecDepth 20000 in
theorem dJ7_copyOf_9075b_18 : decode cJ7_copyOf_9075b 18 = .ok (.aload_n 0, 1) := dc_42 (lxJ7_copyOf_9075b 1 2 rfl)
set_option maxRecDepth 20000 in
theorem dJ7_copyOf_9075b_19 : decode cJ7_copyOf_9075b 19 = .ok (.iconst 0, 1) := dc_3 (lxJ7_copyOf_9075b 1 3 rfl)
set_option maxRecDepth 20000 in
theorem dJ7_copyOf_9075b_20 : decode cJ7_copyOf_9075b 20 = .ok (.aload_n 2, 1) := dc_44 (lxJ7_copyOf_9075b 1 4 rfl)
set_option maxRecDepth 20000 in
theorem dJ7_copyOf_9075b_21 : decode cJ7_copyOf_9075b 21 = .ok (.iconst 0, 1) := dc_3 (lxJ7_copyOf_9075b 1 5 rfl)
set_option maxRecDepth 20000 in
theorem dJ7_copyOf_9075b_22 : decode cJ7_copyOf_9075b 22 = .ok (.aload_n 0, 1) := dc_42 (lxJ7_copyOf_9075b 1 6 rfl)
set_option maxRecDepth 20000 in
theorem dJ7_copyOf_9075b_23 : decode cJ7_copyOf_9075b 23 = .ok (.arraylength, 1) := dc_190 (lxJ7_copyOf_9075b 1 7 rfl)
set_option maxRecDepth 20000 in
theorem dJ7_copyOf_9075b_24 : decode cJ7_copyOf_9075b 24 = .ok (.iload_n 1, 1) := dc_27 (lxJ7_copyOf_9075b 1 8 rfl)
set_option maxRecDepth 20000 in
theorem dJ7_copyOf_9075b_25 : decode cJ7_copyOf_9075b 25 = .ok (.invokestatic 304, 3) := dc_184 1 48 (lxJ7_copyOf_9075b 1 9 rfl) (lxJ7_copyOf_9075b 1 10 rfl) (lxJ7_copyOf_9075b 1 11 rfl)
set_option maxRecDepth 20000 in
theorem dJ7_copyOf_9075b_28 : decode cJ7_copyOf_9075b 28 = .ok (.invokestatic 150, 3) := dc_184 0 150 (lxJ7_copyOf_9075b 1 12 rfl) (lxJ7_copyOf_9075b 1 13 rfl) (lxJ7_copyOf_9075b 1 14 rfl)
set_option maxRecDepth 20000 in
theorem dJ7_copyOf_9075b_31 : decode cJ7_copyOf_9075b 31 = .ok (.aload_n 2, 1) := dc_44 (lxJ7_copyOf_9075b 1 15 rfl)
set_option maxRecDepth 20000 in
theorem dJ7_copyOf_9075b_32 : decode cJ7_copyOf_9075b 32 = .ok (.areturn, 1) := dc_176 (lxJ7_copyOf_9075b 2 0 rfl)
def lb_sgJ7_checkLength_df160 : List (List UInt8) := [[27, 26, 162, 0, 35, 187, 0, 43, 89, 187, 0, 45, 89, 183, 0, 47], [26, 182, 0, 54, 19, 1, 81, 182, 0, 50, 27, 182, 0, 54, 182, 0], [61, 183, 0, 65, 191, 177]]
set_option maxRecDepth 100000 in
theorem lb_seJ7_checkLength_df160 : cJ7_checkLength_df160.data.toList = lb_sgJ7_checkLength_df160.flatten := by decide +kernel
theorem lb_lnJ7_checkLength_df160 : ∀ s ∈ lb_sgJ7_checkLength_df160.dropLast, s.length = 16 := by decide +kernel
theorem lxJ7_checkLength_df160 (k j : Nat) {b : UInt8} (h : (lb_sgJ7_checkLength_df160[k]?).bind (fun s => s[j]?) = some b) : lb_at cJ7_checkLength_df160 (16 * k + j) b := by
  unfold lb_at
  rw [lb_seJ7_checkLength_df160]
  exact lb_flat 16 lb_sgJ7_checkLength_df160 k j b lb_lnJ7_checkLength_df160 h
set_option maxRecDepth 20000 in
theorem dJ7_checkLength_df160_0 : decode cJ7_checkLength_df160 0 = .ok (.iload_n 1, 1) := dc_27 (lxJ7_checkLength_df160 0 0 rfl)
set_option maxRecDepth 20000 in
theorem dJ7_checkLength_df160_1 : decode cJ7_checkLength_df160 1 = .ok (.iload_n 0, 1) := dc_26 (lxJ7_checkLength_df160 0 1 rfl)
set_option maxRecDepth 20000 in
theorem dJ7_checkLength_df160_2 : decode cJ7_checkLength_df160 2 = .ok (.if_icmp .ge 35, 3) := dc_162 0 35 (lxJ7_checkLength_df160 0 2 rfl) (lxJ7_checkLength_df160 0 3 rfl) (lxJ7_checkLength_df160 0 4 rfl)
set_option maxRecDepth 20000 in
theorem dJ7_checkLength_df160_5 : decode cJ7_checkLength_df160 5 = .ok (.new 43, 3) := dc_187 0 43 (lxJ7_checkLength_df160 0 5 rfl) (lxJ7_checkLength_df160 0 6 rfl) (lxJ7_checkLength_df160 0 7 rfl)
set_option maxRecDepth 20000 in
theorem dJ7_checkLength_df160_8 : decode cJ7_checkLength_df160 8 = .ok (.dup, 1) := dc_89 (lxJ7_checkLength_df160 0 8 rfl)
set_option maxRecDepth 20000 in
theorem dJ7_checkLength_df160_9 : decode cJ7_checkLength_df160 9 = .ok (.new 45, 3) := dc_187 0 45 (lxJ7_checkLength_df160 0 9 rfl) (lxJ7_checkLength_df160 0 10 rfl) (lxJ7_checkLength_df160 0 11 rfl)
set_option maxRecDepth 20000 in
theorem dJ7_checkLength_df160_12 : decode cJ7_checkLength_df160 12 = .ok (.dup, 1) := dc_89 (lxJ7_checkLength_df160 0 12 rfl)
set_option maxRecDepth 20000 in
theorem dJ7_checkLength_df160_13 : decode cJ7_checkLength_df160 13 = .ok (.invokespecial 47, 3) := dc_183 0 47 (lxJ7_checkLength_df160 0 13 rfl) (lxJ7_checkLength_df160 0 14 rfl) (lxJ7_checkLength_df160 0 15 rfl)
set_option maxRecDepth 20000 in
theorem dJ7_checkLength_df160_16 : decode cJ7_checkLength_df160 16 = .ok (.iload_n 0, 1) := dc_26 (lxJ7_checkLength_df160 1 0 rfl)
set_option maxRecDepth 20000 in
theorem dJ7_checkLength_df160_17 : decode cJ7_checkLength_df160 17 = .ok (.invokevirtual 54, 3) := dc_182 0 54 (lxJ7_checkLength_df160 1 1 rfl) (lxJ7_checkLength_df160 1 2 rfl) (lxJ7_checkLength_df160 1 3 rfl)
set_option maxRecDepth 20000 in
theorem dJ7_checkLength_df160_20 : decode cJ7_checkLength_df160 20 = .ok (.ldc_w 337, 3) := dc_19 1 81 (lxJ7_checkLength_df160 1 4 rfl) (lxJ7_checkLength_df160 1 5 rfl) (lxJ7_checkLength_df160 1 6 rfl)
set_option maxRecDepth 20000 in
theorem dJ7_checkLength_df160_23 : decode cJ7_checkLength_df160 23 = .ok (.invokevirtual 50, 3) := dc_182 0 50 (lxJ7_checkLength_df160 1 7 rfl) (lxJ7_checkLength_df160 1 8 rfl) (lxJ7_checkLength_df160 1 9 rfl)
set_option maxRecDepth 20000 in
theorem dJ7_checkLength_df160_26 : decode cJ7_checkLength_df160 26 = .ok (.iload_n 1, 1) := dc_27 (lxJ7_checkLength_df160 1 10 rfl)
set_option maxRecDepth 20000 in
theorem dJ7_checkLength_df160_27 : decode cJ7_checkLength_df160 27 = .ok (.invokevirtual 54, 3) := dc_182 0 54 (lxJ7_checkLength_df160 1 11 rfl) (lxJ7_checkLength_df160 1 12 rfl) (lxJ7_checkLength_df160 1 13 rfl)
set_option maxRecDepth 20000 in
theorem dJ7_checkLength_df160_30 : decode cJ7_checkLength_df160 30 = .ok (.invokevirtual 61, 3) := dc_182 0 61 (lxJ7_checkLength_df160 1 14 rfl) (lxJ7_checkLength_df160 1 15 rfl) (lxJ7_checkLength_df160 2 0 rfl)
set_option maxRecDepth 20000 in
theorem dJ7_checkLength_df160_33 : decode cJ7_checkLength_df160 33 = .ok (.invokespecial 65, 3) := dc_183 0 65 (lxJ7_checkLength_df160 2 1 rfl) (lxJ7_checkLength_df160 2 2 rfl) (lxJ7_checkLength_df160 2 3 rfl)
set_option maxRecDepth 20000 in
theorem dJ7_checkLength_df160_36 : decode cJ7_checkLength_df160 36 = .ok (.athrow, 1) := dc_191 (lxJ7_checkLength_df160 2 4 rfl)
set_option maxRecDepth 20000 in
theorem dJ7_checkLength_df160_37 : decode cJ7_checkLength_df160 37 = .ok (.return_, 1) := dc_177 (lxJ7_checkLength_df160 2 5 rfl)
noncomputable def sgJ7_copyOfRange_39247 : List (List Cond) := [[.code yJ7_copyOfRange_39247 cJ7_copyOfRange_39247 3 (some (.array .byte))], wsJ7_copyOfRange_39247_r1, wsJ7_copyOfRange_39247_r2, wsJ40]
theorem seJ7_copyOfRange_39247 : sgJ7_copyOfRange_39247.flatten = wsJ7_copyOfRange_39247 := by simp only [sgJ7_copyOfRange_39247, wsJ7_copyOfRange_39247, List.flatten_cons, List.flatten_nil, List.append_assoc, List.append_nil, List.cons_append, List.nil_append]
set_option maxRecDepth 20000 in
theorem ggJ7_copyOfRange_39247_J7_copyOfRangeByte_39247 : GoodIn wsJ7_copyOfRange_39247 wsJ7_copyOfRangeByte_39247 := goodIn_s seJ7_copyOfRange_39247 _ [pq_1_9, pq_1_10, pq_1_11, pq_1_12, pq_1_13, pq_1_14, pq_1_15, pq_1_16, pq_1_17, pq_1_18, pq_1_19, pq_1_20, pq_1_8, pq_1_21, pq_1_22, pq_1_23, pq_2_0, pq_3_0, pq_3_1, pq_3_2, pq_3_3] (by rfl) (by decide +kernel)
set_option maxRecDepth 20000 in
theorem gJ7_copyOfRange_39247_J7_copyOfRangeByte_39247 : GoodIn wsJ7_copyOfRange_39247 (va_wsS RJ7 339 yJ7_copyOfRangeByte_39247 wsJ7_copyOfRangeByte_39247) := goodIn_app (goodIn_s seJ7_copyOfRange_39247 _ [pq_1_6, pq_1_7, pq_1_8] (by rfl) (by decide +kernel)) ggJ7_copyOfRange_39247_J7_copyOfRangeByte_39247
def lb_sgJ7_copyOfRange_39247 : List (List UInt8) := [[27, 154, 0, 9, 28, 42, 190, 159, 0, 10, 42, 27, 28, 184, 1, 83], [176, 42, 182, 1, 54, 192, 1, 55, 176]]
set_option maxRecDepth 100000 in
theorem lb_seJ7_copyOfRange_39247 : cJ7_copyOfRange_39247.data.toList = lb_sgJ7_copyOfRange_39247.flatten := by decide +kernel
theorem lb_lnJ7_copyOfRange_39247 : ∀ s ∈ lb_sgJ7_copyOfRange_39247.dropLast, s.length = 16 := by decide +kernel
theorem lxJ7_copyOfRange_39247 (k j : Nat) {b : UInt8} (h : (lb_sgJ7_copyOfRange_39247[k]?).bind (fun s => s[j]?) = some b) : lb_at cJ7_copyOfRange_39247 (16 * k + j) b := by
  unfold lb_at
  rw [lb_seJ7_copyOfRange_39247]
  exact lb_flat 16 lb_sgJ7_copyOfRange_39247 k j b lb_lnJ7_copyOfRange_39247 h
set_option maxRecDepth 20000 in
theorem dJ7_copyOfRange_39247_0 : decode cJ7_copyOfRange_39247 0 = .ok (.iload_n 1, 1) := dc_27 (lxJ7_copyOfRange_39247 0 0 rfl)
set_option maxRecDepth 20000 in
theorem dJ7_copyOfRange_39247_1 : decode cJ7_copyOfRange_39247 1 = .ok (.ifCond .ne 9, 3) := dc_154 0 9 (lxJ7_copyOfRange_39247 0 1 rfl) (lxJ7_copyOfRange_39247 0 2 rfl) (lxJ7_copyOfRange_39247 0 3 rfl)
set_option maxRecDepth 20000 in
theorem dJ7_copyOfRange_39247_4 : decode cJ7_copyOfRange_39247 4 = .ok (.iload_n 2, 1) := dc_28 (lxJ7_copyOfRange_39247 0 4 rfl)
set_option maxRecDepth 20000 in
theorem dJ7_copyOfRange_39247_5 : decode cJ7_copyOfRange_39247 5 = .ok (.aload_n 0, 1) := dc_42 (lxJ7_copyOfRange_39247 0 5 rfl)
set_option maxRecDepth 20000 in
theorem dJ7_copyOfRange_39247_6 : decode cJ7_copyOfRange_39247 6 = .ok (.arraylength, 1) := dc_190 (lxJ7_copyOfRange_39247 0 6 rfl)
set_option maxRecDepth 20000 in
theorem dJ7_copyOfRange_39247_7 : decode cJ7_copyOfRange_39247 7 = .ok (.if_icmp .eq 10, 3) := dc_159 0 10 (lxJ7_copyOfRange_39247 0 7 rfl) (lxJ7_copyOfRange_39247 0 8 rfl) (lxJ7_copyOfRange_39247 0 9 rfl)
set_option maxRecDepth 20000 in
theorem dJ7_copyOfRange_39247_10 : decode cJ7_copyOfRange_39247 10 = .ok (.aload_n 0, 1) := dc_42 (lxJ7_copyOfRange_39247 0 10 rfl)
set_option maxRecDepth 20000 in
theorem dJ7_copyOfRange_39247_11 : decode cJ7_copyOfRange_39247 11 = .ok (.iload_n 1, 1) := dc_27 (lxJ7_copyOfRange_39247 0 11 rfl)
set_option maxRecDepth 20000 in
theorem dJ7_copyOfRange_39247_12 : decode cJ7_copyOfRange_39247 12 = .ok (.iload_n 2, 1) := dc_28 (lxJ7_copyOfRange_39247 0 12 rfl)
set_option maxRecDepth 20000 in
theorem dJ7_copyOfRange_39247_13 : decode cJ7_copyOfRange_39247 13 = .ok (.invokestatic 339, 3) := dc_184 1 83 (lxJ7_copyOfRange_39247 0 13 rfl) (lxJ7_copyOfRange_39247 0 14 rfl) (lxJ7_copyOfRange_39247 0 15 rfl)
set_option maxRecDepth 20000 in
theorem dJ7_copyOfRange_39247_16 : decode cJ7_copyOfRange_39247 16 = .ok (.areturn, 1) := dc_176 (lxJ7_copyOfRange_39247 1 0 rfl)
set_option maxRecDepth 20000 in
theorem dJ7_copyOfRange_39247_17 : decode cJ7_copyOfRange_39247 17 = .ok (.aload_n 0, 1) := dc_42 (lxJ7_copyOfRange_39247 1 1 rfl)
set_option maxRecDepth 20000 in
theorem dJ7_copyOfRange_39247_18 : decode cJ7_copyOfRange_39247 18 = .ok (.invokevirtual 310, 3) := dc_182 1 54 (lxJ7_copyOfRange_39247 1 2 rfl) (lxJ7_copyOfRange_39247 1 3 rfl) (lxJ7_copyOfRange_39247 1 4 rfl)
set_option maxRecDepth 20000 in
theorem dJ7_copyOfRange_39247_21 : decode cJ7_copyOfRange_39247 21 = .ok (.checkcast 311, 3) := dc_192 1 55 (lxJ7_copyOfRange_39247 1 5 rfl) (lxJ7_copyOfRange_39247 1 6 rfl) (lxJ7_copyOfRange_39247 1 7 rfl)
set_option maxRecDepth 20000 in
theorem dJ7_copyOfRange_39247_24 : decode cJ7_copyOfRange_39247 24 = .ok (.areturn, 1) := dc_176 (lxJ7_copyOfRange_39247 1 8 rfl)
noncomputable def sgJ7_copyOfRangeByte_39247 : List (List Cond) := [[.code yJ7_copyOfRangeByte_39247 cJ7_copyOfRangeByte_39247 5 (some (.array .byte))], [.arrayClass .byte, .methodLink RJ7 304 Lib.Math.min.name, .static Lib.Math.min.name, .initialized "java/lang/Math", .code Lib.Math.min.name Lib.Math.min.code 2 (some .int), .methodLink RJ7 150 arraycopyName, .native arraycopyName, .static arraycopyName, .initialized "java/lang/System", .methodLink RJ7 343 yJ7_checkLength_df160, .static yJ7_checkLength_df160, .initialized RJ7, .code yJ7_checkLength_df160 cJ7_checkLength_df160 2 none, .classLink RJ7 45 RJ4, .instantiable RJ4 4, .initialized RJ4], wsJ40]
theorem seJ7_copyOfRangeByte_39247 : sgJ7_copyOfRangeByte_39247.flatten = wsJ7_copyOfRangeByte_39247 := by simp only [sgJ7_copyOfRangeByte_39247, wsJ7_copyOfRangeByte_39247, List.flatten_cons, List.flatten_nil, List.append_assoc, List.append_nil, List.cons_append, List.nil_append]
set_option maxRecDepth 20000 in
theorem ggJ7_copyOfRangeByte_39247_J7_checkLength_df160 : GoodIn wsJ7_copyOfRangeByte_39247 wsJ7_checkLength_df160 := goodIn_s seJ7_copyOfRangeByte_39247 _ [pq_1_12, pq_1_13, pq_1_14, pq_1_15, pq_2_0, pq_2_1, pq_2_2, pq_2_3] (by rfl) (by decide +kernel)
set_option maxRecDepth 20000 in
theorem gJ7_copyOfRangeByte_39247_J7_checkLength_df160 : GoodIn wsJ7_copyOfRangeByte_39247 (va_wsS RJ7 343 yJ7_checkLength_df160 wsJ7_checkLength_df160) := goodIn_app (goodIn_s seJ7_copyOfRangeByte_39247 _ [pq_1_9, pq_1_10, pq_1_11] (by rfl) (by decide +kernel)) ggJ7_copyOfRangeByte_39247_J7_checkLength_df160
def lb_sgJ7_copyOfRangeByte_39247 : List (List UInt8) := [[27, 28, 184, 1, 87, 28, 27, 100, 62, 29, 188, 8, 58, 4, 42, 27], [25, 4, 3, 42, 190, 27, 100, 29, 184, 1, 48, 184, 0, 150, 25, 4], [176]]
set_option maxRecDepth 100000 in
theorem lb_seJ7_copyOfRangeByte_39247 : cJ7_copyOfRangeByte_39247.data.toList = lb_sgJ7_copyOfRangeByte_39247.flatten := by decide +kernel
theorem lb_lnJ7_copyOfRangeByte_39247 : ∀ s ∈ lb_sgJ7_copyOfRangeByte_39247.dropLast, s.length = 16 := by decide +kernel
theorem lxJ7_copyOfRangeByte_39247 (k j : Nat) {b : UInt8} (h : (lb_sgJ7_copyOfRangeByte_39247[k]?).bind (fun s => s[j]?) = some b) : lb_at cJ7_copyOfRangeByte_39247 (16 * k + j) b := by
  unfold lb_at
  rw [lb_seJ7_copyOfRangeByte_39247]
  exact lb_flat 16 lb_sgJ7_copyOfRangeByte_39247 k j b lb_lnJ7_copyOfRangeByte_39247 h
set_option maxRecDepth 20000 in
theorem dJ7_copyOfRangeByte_39247_0 : decode cJ7_copyOfRangeByte_39247 0 = .ok (.iload_n 1, 1) := dc_27 (lxJ7_copyOfRangeByte_39247 0 0 rfl)
set_option maxRecDepth 20000 in
theorem dJ7_copyOfRangeByte_39247_1 : decode cJ7_copyOfRangeByte_39247 1 = .ok (.iload_n 2, 1) := dc_28 (lxJ7_copyOfRangeByte_39247 0 1 rfl)
set_option maxRecDepth 20000 in
theorem dJ7_copyOfRangeByte_39247_2 : decode cJ7_copyOfRangeByte_39247 2 = .ok (.invokestatic 343, 3) := dc_184 1 87 (lxJ7_copyOfRangeByte_39247 0 2 rfl) (lxJ7_copyOfRangeByte_39247 0 3 rfl) (lxJ7_copyOfRangeByte_39247 0 4 rfl)
set_option maxRecDepth 20000 in
theorem dJ7_copyOfRangeByte_39247_5 : decode cJ7_copyOfRangeByte_39247 5 = .ok (.iload_n 2, 1) := dc_28 (lxJ7_copyOfRangeByte_39247 0 5 rfl)
set_option maxRecDepth 20000 in
theorem dJ7_copyOfRangeByte_39247_6 : decode cJ7_copyOfRangeByte_39247 6 = .ok (.iload_n 1, 1) := dc_27 (lxJ7_copyOfRangeByte_39247 0 6 rfl)
set_option maxRecDepth 20000 in
theorem dJ7_copyOfRangeByte_39247_7 : decode cJ7_copyOfRangeByte_39247 7 = .ok (.isub, 1) := dc_100 (lxJ7_copyOfRangeByte_39247 0 7 rfl)
set_option maxRecDepth 20000 in
theorem dJ7_copyOfRangeByte_39247_8 : decode cJ7_copyOfRangeByte_39247 8 = .ok (.istore_n 3, 1) := dc_62 (lxJ7_copyOfRangeByte_39247 0 8 rfl)
set_option maxRecDepth 20000 in
theorem dJ7_copyOfRangeByte_39247_9 : decode cJ7_copyOfRangeByte_39247 9 = .ok (.iload_n 3, 1) := dc_29 (lxJ7_copyOfRangeByte_39247 0 9 rfl)
theorem dJ7_copyOfRangeByte_39247_10 : decode cJ7_copyOfRangeByte_39247 10 = .ok (.newarray .byte, 2) := by decide +kernel
set_option maxRecDepth 20000 in
theorem dJ7_copyOfRangeByte_39247_12 : decode cJ7_copyOfRangeByte_39247 12 = .ok (.astore 4, 2) := dc_58 4 (lxJ7_copyOfRangeByte_39247 0 12 rfl) (lxJ7_copyOfRangeByte_39247 0 13 rfl)
set_option maxRecDepth 20000 in
theorem dJ7_copyOfRangeByte_39247_14 : decode cJ7_copyOfRangeByte_39247 14 = .ok (.aload_n 0, 1) := dc_42 (lxJ7_copyOfRangeByte_39247 0 14 rfl)
set_option maxRecDepth 20000 in
theorem dJ7_copyOfRangeByte_39247_15 : decode cJ7_copyOfRangeByte_39247 15 = .ok (.iload_n 1, 1) := dc_27 (lxJ7_copyOfRangeByte_39247 0 15 rfl)
set_option maxRecDepth 20000 in
theorem dJ7_copyOfRangeByte_39247_16 : decode cJ7_copyOfRangeByte_39247 16 = .ok (.aload 4, 2) := dc_25 4 (lxJ7_copyOfRangeByte_39247 1 0 rfl) (lxJ7_copyOfRangeByte_39247 1 1 rfl)
set_option maxRecDepth 20000 in
theorem dJ7_copyOfRangeByte_39247_18 : decode cJ7_copyOfRangeByte_39247 18 = .ok (.iconst 0, 1) := dc_3 (lxJ7_copyOfRangeByte_39247 1 2 rfl)
set_option maxRecDepth 20000 in
theorem dJ7_copyOfRangeByte_39247_19 : decode cJ7_copyOfRangeByte_39247 19 = .ok (.aload_n 0, 1) := dc_42 (lxJ7_copyOfRangeByte_39247 1 3 rfl)
set_option maxRecDepth 20000 in
theorem dJ7_copyOfRangeByte_39247_20 : decode cJ7_copyOfRangeByte_39247 20 = .ok (.arraylength, 1) := dc_190 (lxJ7_copyOfRangeByte_39247 1 4 rfl)
set_option maxRecDepth 20000 in
theorem dJ7_copyOfRangeByte_39247_21 : decode cJ7_copyOfRangeByte_39247 21 = .ok (.iload_n 1, 1) := dc_27 (lxJ7_copyOfRangeByte_39247 1 5 rfl)
set_option maxRecDepth 20000 in
theorem dJ7_copyOfRangeByte_39247_22 : decode cJ7_copyOfRangeByte_39247 22 = .ok (.isub, 1) := dc_100 (lxJ7_copyOfRangeByte_39247 1 6 rfl)
set_option maxRecDepth 20000 in
theorem dJ7_copyOfRangeByte_39247_23 : decode cJ7_copyOfRangeByte_39247 23 = .ok (.iload_n 3, 1) := dc_29 (lxJ7_copyOfRangeByte_39247 1 7 rfl)
set_option maxRecDepth 20000 in
theorem dJ7_copyOfRangeByte_39247_24 : decode cJ7_copyOfRangeByte_39247 24 = .ok (.invokestatic 304, 3) := dc_184 1 48 (lxJ7_copyOfRangeByte_39247 1 8 rfl) (lxJ7_copyOfRangeByte_39247 1 9 rfl) (lxJ7_copyOfRangeByte_39247 1 10 rfl)
set_option maxRecDepth 20000 in
theorem dJ7_copyOfRangeByte_39247_27 : decode cJ7_copyOfRangeByte_39247 27 = .ok (.invokestatic 150, 3) := dc_184 0 150 (lxJ7_copyOfRangeByte_39247 1 11 rfl) (lxJ7_copyOfRangeByte_39247 1 12 rfl) (lxJ7_copyOfRangeByte_39247 1 13 rfl)
set_option maxRecDepth 20000 in
theorem dJ7_copyOfRangeByte_39247_30 : decode cJ7_copyOfRangeByte_39247 30 = .ok (.aload 4, 2) := dc_25 4 (lxJ7_copyOfRangeByte_39247 1 14 rfl) (lxJ7_copyOfRangeByte_39247 1 15 rfl)
set_option maxRecDepth 20000 in
theorem dJ7_copyOfRangeByte_39247_32 : decode cJ7_copyOfRangeByte_39247 32 = .ok (.areturn, 1) := dc_176 (lxJ7_copyOfRangeByte_39247 2 0 rfl)
noncomputable def sgJ8_newLength_cabcc : List (List Cond) := [[.code yJ8_newLength_cabcc cJ8_newLength_cabcc 4 (some .int)], [.methodLink RJ8 194 Lib.Math.max.name, .static Lib.Math.max.name, .initialized "java/lang/Math", .code Lib.Math.max.name Lib.Math.max.code 2 (some .int), .constant RJ8 200 (2147483639), .methodLink RJ8 201 yJ8_hugeLength_7cf53, .static yJ8_hugeLength_7cf53, .initialized RJ8, .code yJ8_hugeLength_7cf53 cJ8_hugeLength_7cf53 3 (some .int)]]
theorem seJ8_newLength_cabcc : sgJ8_newLength_cabcc.flatten = wsJ8_newLength_cabcc := by simp only [sgJ8_newLength_cabcc, wsJ8_newLength_cabcc, List.flatten_cons, List.flatten_nil, List.append_assoc, List.append_nil, List.cons_append, List.nil_append]
set_option maxRecDepth 20000 in
theorem ggJ8_newLength_cabcc_J8_hugeLength_7cf53 : GoodIn wsJ8_newLength_cabcc wsJ8_hugeLength_7cf53 := goodIn_s seJ8_newLength_cabcc _ [pq_1_8, pq_1_4] (by rfl) (by decide +kernel)
set_option maxRecDepth 20000 in
theorem gJ8_newLength_cabcc_J8_hugeLength_7cf53 : GoodIn wsJ8_newLength_cabcc (va_wsS RJ8 201 yJ8_hugeLength_7cf53 wsJ8_hugeLength_7cf53) := goodIn_app (goodIn_s seJ8_newLength_cabcc _ [pq_1_5, pq_1_6, pq_1_7] (by rfl) (by decide +kernel)) ggJ8_newLength_cabcc_J8_hugeLength_7cf53
def lb_sgJ8_newLength_cabcc : List (List UInt8) := [[26, 27, 28, 184, 0, 194, 96, 62, 3, 29, 162, 0, 11, 29, 18, 200], [163, 0, 5, 29, 172, 26, 27, 184, 0, 201, 172]]
set_option maxRecDepth 100000 in
theorem lb_seJ8_newLength_cabcc : cJ8_newLength_cabcc.data.toList = lb_sgJ8_newLength_cabcc.flatten := by decide +kernel
theorem lb_lnJ8_newLength_cabcc : ∀ s ∈ lb_sgJ8_newLength_cabcc.dropLast, s.length = 16 := by decide +kernel
theorem lxJ8_newLength_cabcc (k j : Nat) {b : UInt8} (h : (lb_sgJ8_newLength_cabcc[k]?).bind (fun s => s[j]?) = some b) : lb_at cJ8_newLength_cabcc (16 * k + j) b := by
  unfold lb_at
  rw [lb_seJ8_newLength_cabcc]
  exact lb_flat 16 lb_sgJ8_newLength_cabcc k j b lb_lnJ8_newLength_cabcc h
set_option maxRecDepth 20000 in
theorem dJ8_newLength_cabcc_0 : decode cJ8_newLength_cabcc 0 = .ok (.iload_n 0, 1) := dc_26 (lxJ8_newLength_cabcc 0 0 rfl)
set_option maxRecDepth 20000 in
theorem dJ8_newLength_cabcc_1 : decode cJ8_newLength_cabcc 1 = .ok (.iload_n 1, 1) := dc_27 (lxJ8_newLength_cabcc 0 1 rfl)
set_option maxRecDepth 20000 in
theorem dJ8_newLength_cabcc_2 : decode cJ8_newLength_cabcc 2 = .ok (.iload_n 2, 1) := dc_28 (lxJ8_newLength_cabcc 0 2 rfl)
set_option maxRecDepth 20000 in
theorem dJ8_newLength_cabcc_3 : decode cJ8_newLength_cabcc 3 = .ok (.invokestatic 194, 3) := dc_184 0 194 (lxJ8_newLength_cabcc 0 3 rfl) (lxJ8_newLength_cabcc 0 4 rfl) (lxJ8_newLength_cabcc 0 5 rfl)
set_option maxRecDepth 20000 in
theorem dJ8_newLength_cabcc_6 : decode cJ8_newLength_cabcc 6 = .ok (.iadd, 1) := dc_96 (lxJ8_newLength_cabcc 0 6 rfl)
set_option maxRecDepth 20000 in
theorem dJ8_newLength_cabcc_7 : decode cJ8_newLength_cabcc 7 = .ok (.istore_n 3, 1) := dc_62 (lxJ8_newLength_cabcc 0 7 rfl)
set_option maxRecDepth 20000 in
theorem dJ8_newLength_cabcc_8 : decode cJ8_newLength_cabcc 8 = .ok (.iconst 0, 1) := dc_3 (lxJ8_newLength_cabcc 0 8 rfl)
set_option maxRecDepth 20000 in
theorem dJ8_newLength_cabcc_9 : decode cJ8_newLength_cabcc 9 = .ok (.iload_n 3, 1) := dc_29 (lxJ8_newLength_cabcc 0 9 rfl)
set_option maxRecDepth 20000 in
theorem dJ8_newLength_cabcc_10 : decode cJ8_newLength_cabcc 10 = .ok (.if_icmp .ge 11, 3) := dc_162 0 11 (lxJ8_newLength_cabcc 0 10 rfl) (lxJ8_newLength_cabcc 0 11 rfl) (lxJ8_newLength_cabcc 0 12 rfl)
set_option maxRecDepth 20000 in
theorem dJ8_newLength_cabcc_13 : decode cJ8_newLength_cabcc 13 = .ok (.iload_n 3, 1) := dc_29 (lxJ8_newLength_cabcc 0 13 rfl)
set_option maxRecDepth 20000 in
theorem dJ8_newLength_cabcc_14 : decode cJ8_newLength_cabcc 14 = .ok (.ldc 200, 2) := dc_18 200 (lxJ8_newLength_cabcc 0 14 rfl) (lxJ8_newLength_cabcc 0 15 rfl)
set_option maxRecDepth 20000 in
theorem dJ8_newLength_cabcc_16 : decode cJ8_newLength_cabcc 16 = .ok (.if_icmp .gt 5, 3) := dc_163 0 5 (lxJ8_newLength_cabcc 1 0 rfl) (lxJ8_newLength_cabcc 1 1 rfl) (lxJ8_newLength_cabcc 1 2 rfl)
set_option maxRecDepth 20000 in
theorem dJ8_newLength_cabcc_19 : decode cJ8_newLength_cabcc 19 = .ok (.iload_n 3, 1) := dc_29 (lxJ8_newLength_cabcc 1 3 rfl)
set_option maxRecDepth 20000 in
theorem dJ8_newLength_cabcc_20 : decode cJ8_newLength_cabcc 20 = .ok (.ireturn, 1) := dc_172 (lxJ8_newLength_cabcc 1 4 rfl)
set_option maxRecDepth 20000 in
theorem dJ8_newLength_cabcc_21 : decode cJ8_newLength_cabcc 21 = .ok (.iload_n 0, 1) := dc_26 (lxJ8_newLength_cabcc 1 5 rfl)
set_option maxRecDepth 20000 in
theorem dJ8_newLength_cabcc_22 : decode cJ8_newLength_cabcc 22 = .ok (.iload_n 1, 1) := dc_27 (lxJ8_newLength_cabcc 1 6 rfl)
set_option maxRecDepth 20000 in
theorem dJ8_newLength_cabcc_23 : decode cJ8_newLength_cabcc 23 = .ok (.invokestatic 201, 3) := dc_184 0 201 (lxJ8_newLength_cabcc 1 7 rfl) (lxJ8_newLength_cabcc 1 8 rfl) (lxJ8_newLength_cabcc 1 9 rfl)
set_option maxRecDepth 20000 in
theorem dJ8_newLength_cabcc_26 : decode cJ8_newLength_cabcc 26 = .ok (.ireturn, 1) := dc_172 (lxJ8_newLength_cabcc 1 10 rfl)
end
section
def lb_sgX0_init : List (List UInt8) := [[42, 183, 0, 3, 42, 16, 81, 188, 10, 181, 0, 9, 42, 16, 80, 188], [10, 181, 0, 15, 177]]
set_option maxRecDepth 100000 in
theorem lb_seX0_init : cX0_init.data.toList = lb_sgX0_init.flatten := by decide +kernel
theorem lb_lnX0_init : ∀ s ∈ lb_sgX0_init.dropLast, s.length = 16 := by decide +kernel
theorem lxX0_init (k j : Nat) {b : UInt8} (h : (lb_sgX0_init[k]?).bind (fun s => s[j]?) = some b) : lb_at cX0_init (16 * k + j) b := by
  unfold lb_at
  rw [lb_seX0_init]
  exact lb_flat 16 lb_sgX0_init k j b lb_lnX0_init h
set_option maxRecDepth 20000 in
theorem dX0_init_0 : decode cX0_init 0 = .ok (.aload_n 0, 1) := dc_42 (lxX0_init 0 0 rfl)
set_option maxRecDepth 20000 in
theorem dX0_init_1 : decode cX0_init 1 = .ok (.invokespecial 3, 3) := dc_183 0 3 (lxX0_init 0 1 rfl) (lxX0_init 0 2 rfl) (lxX0_init 0 3 rfl)
set_option maxRecDepth 20000 in
theorem dX0_init_4 : decode cX0_init 4 = .ok (.aload_n 0, 1) := dc_42 (lxX0_init 0 4 rfl)
set_option maxRecDepth 20000 in
theorem dX0_init_5 : decode cX0_init 5 = .ok (.bipush 81, 2) := dc_16 81 (lxX0_init 0 5 rfl) (lxX0_init 0 6 rfl)
theorem dX0_init_7 : decode cX0_init 7 = .ok (.newarray .int, 2) := by decide +kernel
set_option maxRecDepth 20000 in
theorem dX0_init_9 : decode cX0_init 9 = .ok (.putfield 9, 3) := dc_181 0 9 (lxX0_init 0 9 rfl) (lxX0_init 0 10 rfl) (lxX0_init 0 11 rfl)
set_option maxRecDepth 20000 in
theorem dX0_init_12 : decode cX0_init 12 = .ok (.aload_n 0, 1) := dc_42 (lxX0_init 0 12 rfl)
set_option maxRecDepth 20000 in
theorem dX0_init_13 : decode cX0_init 13 = .ok (.bipush 80, 2) := dc_16 80 (lxX0_init 0 13 rfl) (lxX0_init 0 14 rfl)
theorem dX0_init_15 : decode cX0_init 15 = .ok (.newarray .int, 2) := by decide +kernel
set_option maxRecDepth 20000 in
theorem dX0_init_17 : decode cX0_init 17 = .ok (.putfield 15, 3) := dc_181 0 15 (lxX0_init 1 1 rfl) (lxX0_init 1 2 rfl) (lxX0_init 1 3 rfl)
set_option maxRecDepth 20000 in
theorem dX0_init_20 : decode cX0_init 20 = .ok (.return_, 1) := dc_177 (lxX0_init 1 4 rfl)
noncomputable def sgX0_measure : List (List Cond) := [[.code yX0_measure cX0_measure 4 none], wsX0_measure_r1, wsX0_measure_r2, wsX00, wsX20, wsX50]
theorem seX0_measure : sgX0_measure.flatten = wsX0_measure := by simp only [sgX0_measure, wsX0_measure, List.flatten_cons, List.flatten_nil, List.append_assoc, List.append_nil, List.cons_append, List.nil_append]
set_option maxRecDepth 20000 in
theorem ggX0_measure_X2_size : GoodIn wsX0_measure wsX2_size := goodIn_s seX0_measure _ [pq_1_6, pq_1_7, pq_4_0, pq_4_1] (by rfl) (by decide +kernel)
set_option maxRecDepth 20000 in
theorem gX0_measure_X2_size_u18X2 : GoodIn wsX0_measure (va_wsU RX0 18 RX2 "Sashwords$Text" ⟨"Sashwords$Text", "size", "()I"⟩ yX2_size wsX2_size) := goodIn_app (goodIn_s seX0_measure _ [pq_1_1, pq_1_2, pq_1_3, pq_1_4, pq_1_5] (by rfl) (by decide +kernel)) ggX0_measure_X2_size
set_option maxRecDepth 20000 in
theorem ggX0_measure_X5_size : GoodIn wsX0_measure wsX5_size := goodIn_s seX0_measure _ [pq_1_11, pq_1_12, pq_1_13, pq_5_0, pq_5_1, pq_5_2, pq_5_3, pq_5_4, pq_5_5] (by rfl) (by decide +kernel)
set_option maxRecDepth 20000 in
theorem gX0_measure_X5_size_u18X5 : GoodIn wsX0_measure (va_wsU RX0 18 RX5 "Sashwords$Text" ⟨"Sashwords$Text", "size", "()I"⟩ yX5_size wsX5_size) := goodIn_app (goodIn_s seX0_measure _ [pq_1_1, pq_1_2, pq_1_8, pq_1_9, pq_1_10] (by rfl) (by decide +kernel)) ggX0_measure_X5_size
set_option maxRecDepth 20000 in
theorem ggX0_measure_X2_at : GoodIn wsX0_measure wsX2_at := goodIn_s seX0_measure _ [pq_1_18, pq_1_7, pq_1_19, pq_4_0, pq_4_1] (by rfl) (by decide +kernel)
set_option maxRecDepth 20000 in
theorem gX0_measure_X2_at_u24X2 : GoodIn wsX0_measure (va_wsU RX0 24 RX2 "Sashwords$Text" ⟨"Sashwords$Text", "at", "(I)I"⟩ yX2_at wsX2_at) := goodIn_app (goodIn_s seX0_measure _ [pq_1_14, pq_1_15, pq_1_16, pq_1_17, pq_1_5] (by rfl) (by decide +kernel)) ggX0_measure_X2_at
set_option maxRecDepth 20000 in
theorem ggX0_measure_X5_at : GoodIn wsX0_measure wsX5_at := goodIn_s seX0_measure _ [pq_1_22, pq_1_12, pq_1_13, pq_1_23, pq_2_0, pq_2_1, pq_1_10, pq_2_2, pq_2_3, pq_2_4, pq_5_0, pq_5_1, pq_5_2, pq_5_3, pq_5_4, pq_5_5] (by rfl) (by decide +kernel)
set_option maxRecDepth 20000 in
theorem gX0_measure_X5_at_u24X5 : GoodIn wsX0_measure (va_wsU RX0 24 RX5 "Sashwords$Text" ⟨"Sashwords$Text", "at", "(I)I"⟩ yX5_at wsX5_at) := goodIn_app (goodIn_s seX0_measure _ [pq_1_14, pq_1_15, pq_1_20, pq_1_21, pq_1_10] (by rfl) (by decide +kernel)) ggX0_measure_X5_at
set_option maxRecDepth 20000 in
theorem ggX0_measure_X0_grown : GoodIn wsX0_measure wsX0_grown := goodIn_s seX0_measure _ [pq_2_9, pq_1_14, pq_1_15, pq_1_16, pq_1_17, pq_1_5, pq_1_18, pq_1_7, pq_1_19, pq_1_20, pq_1_21, pq_1_10, pq_1_22, pq_1_12, pq_1_13, pq_1_23, pq_2_0, pq_2_1, pq_2_2, pq_2_3, pq_2_4, pq_2_10, pq_2_11, pq_2_12, pq_2_8, pq_2_13, pq_1_0, pq_4_0, pq_4_1, pq_5_0, pq_5_1, pq_5_2, pq_5_3, pq_5_4, pq_5_5, pq_3_0, pq_3_1, pq_3_2] (by rfl) (by decide +kernel)
set_option maxRecDepth 20000 in
theorem gX0_measure_X0_grown : GoodIn wsX0_measure (wsV RX0 28 RX0 yX0_grown wsX0_grown) := goodIn_app (goodIn_s seX0_measure _ [pq_2_5, pq_2_6, pq_2_7, pq_2_8] (by rfl) (by decide +kernel)) ggX0_measure_X0_grown
def lb_sgX0_measure : List (List UInt8) := [[3, 61, 4, 62, 29, 43, 182, 0, 18, 162, 0, 41, 29, 4, 96, 42], [180, 0, 9, 190, 162, 0, 30, 42, 43, 28, 43, 29, 182, 0, 24, 182], [0, 28, 61, 42, 180, 0, 9, 29, 4, 96, 28, 79, 132, 3, 1, 167], [255, 213, 177]]
set_option maxRecDepth 100000 in
theorem lb_seX0_measure : cX0_measure.data.toList = lb_sgX0_measure.flatten := by decide +kernel
theorem lb_lnX0_measure : ∀ s ∈ lb_sgX0_measure.dropLast, s.length = 16 := by decide +kernel
theorem lxX0_measure (k j : Nat) {b : UInt8} (h : (lb_sgX0_measure[k]?).bind (fun s => s[j]?) = some b) : lb_at cX0_measure (16 * k + j) b := by
  unfold lb_at
  rw [lb_seX0_measure]
  exact lb_flat 16 lb_sgX0_measure k j b lb_lnX0_measure h
set_option maxRecDepth 20000 in
theorem dX0_measure_0 : decode cX0_measure 0 = .ok (.iconst 0, 1) := dc_3 (lxX0_measure 0 0 rfl)
set_option maxRecDepth 20000 in
theorem dX0_measure_1 : decode cX0_measure 1 = .ok (.istore_n 2, 1) := dc_61 (lxX0_measure 0 1 rfl)
set_option maxRecDepth 20000 in
theorem dX0_measure_2 : decode cX0_measure 2 = .ok (.iconst 1, 1) := dc_4 (lxX0_measure 0 2 rfl)
set_option maxRecDepth 20000 in
theorem dX0_measure_3 : decode cX0_measure 3 = .ok (.istore_n 3, 1) := dc_62 (lxX0_measure 0 3 rfl)
set_option maxRecDepth 20000 in
theorem dX0_measure_4 : decode cX0_measure 4 = .ok (.iload_n 3, 1) := dc_29 (lxX0_measure 0 4 rfl)
set_option maxRecDepth 20000 in
theorem dX0_measure_5 : decode cX0_measure 5 = .ok (.aload_n 1, 1) := dc_43 (lxX0_measure 0 5 rfl)
set_option maxRecDepth 20000 in
theorem dX0_measure_6 : decode cX0_measure 6 = .ok (.invokevirtual 18, 3) := dc_182 0 18 (lxX0_measure 0 6 rfl) (lxX0_measure 0 7 rfl) (lxX0_measure 0 8 rfl)
set_option maxRecDepth 20000 in
theorem dX0_measure_9 : decode cX0_measure 9 = .ok (.if_icmp .ge 41, 3) := dc_162 0 41 (lxX0_measure 0 9 rfl) (lxX0_measure 0 10 rfl) (lxX0_measure 0 11 rfl)
set_option maxRecDepth 20000 in
theorem dX0_measure_12 : decode cX0_measure 12 = .ok (.iload_n 3, 1) := dc_29 (lxX0_measure 0 12 rfl)
set_option maxRecDepth 20000 in
theorem dX0_measure_13 : decode cX0_measure 13 = .ok (.iconst 1, 1) := dc_4 (lxX0_measure 0 13 rfl)
set_option maxRecDepth 20000 in
theorem dX0_measure_14 : decode cX0_measure 14 = .ok (.iadd, 1) := dc_96 (lxX0_measure 0 14 rfl)
set_option maxRecDepth 20000 in
theorem dX0_measure_15 : decode cX0_measure 15 = .ok (.aload_n 0, 1) := dc_42 (lxX0_measure 0 15 rfl)
set_option maxRecDepth 20000 in
theorem dX0_measure_16 : decode cX0_measure 16 = .ok (.getfield 9, 3) := dc_180 0 9 (lxX0_measure 1 0 rfl) (lxX0_measure 1 1 rfl) (lxX0_measure 1 2 rfl)
set_option maxRecDepth 20000 in
theorem dX0_measure_19 : decode cX0_measure 19 = .ok (.arraylength, 1) := dc_190 (lxX0_measure 1 3 rfl)
set_option maxRecDepth 20000 in
theorem dX0_measure_20 : decode cX0_measure 20 = .ok (.if_icmp .ge 30, 3) := dc_162 0 30 (lxX0_measure 1 4 rfl) (lxX0_measure 1 5 rfl) (lxX0_measure 1 6 rfl)
set_option maxRecDepth 20000 in
theorem dX0_measure_23 : decode cX0_measure 23 = .ok (.aload_n 0, 1) := dc_42 (lxX0_measure 1 7 rfl)
set_option maxRecDepth 20000 in
theorem dX0_measure_24 : decode cX0_measure 24 = .ok (.aload_n 1, 1) := dc_43 (lxX0_measure 1 8 rfl)
set_option maxRecDepth 20000 in
theorem dX0_measure_25 : decode cX0_measure 25 = .ok (.iload_n 2, 1) := dc_28 (lxX0_measure 1 9 rfl)
set_option maxRecDepth 20000 in
theorem dX0_measure_26 : decode cX0_measure 26 = .ok (.aload_n 1, 1) := dc_43 (lxX0_measure 1 10 rfl)
set_option maxRecDepth 20000 in
theorem dX0_measure_27 : decode cX0_measure 27 = .ok (.iload_n 3, 1) := dc_29 (lxX0_measure 1 11 rfl)
set_option maxRecDepth 20000 in
theorem dX0_measure_28 : decode cX0_measure 28 = .ok (.invokevirtual 24, 3) := dc_182 0 24 (lxX0_measure 1 12 rfl) (lxX0_measure 1 13 rfl) (lxX0_measure 1 14 rfl)
set_option maxRecDepth 20000 in
theorem dX0_measure_31 : decode cX0_measure 31 = .ok (.invokevirtual 28, 3) := dc_182 0 28 (lxX0_measure 1 15 rfl) (lxX0_measure 2 0 rfl) (lxX0_measure 2 1 rfl)
set_option maxRecDepth 20000 in
theorem dX0_measure_34 : decode cX0_measure 34 = .ok (.istore_n 2, 1) := dc_61 (lxX0_measure 2 2 rfl)
set_option maxRecDepth 20000 in
theorem dX0_measure_35 : decode cX0_measure 35 = .ok (.aload_n 0, 1) := dc_42 (lxX0_measure 2 3 rfl)
set_option maxRecDepth 20000 in
theorem dX0_measure_36 : decode cX0_measure 36 = .ok (.getfield 9, 3) := dc_180 0 9 (lxX0_measure 2 4 rfl) (lxX0_measure 2 5 rfl) (lxX0_measure 2 6 rfl)
set_option maxRecDepth 20000 in
theorem dX0_measure_39 : decode cX0_measure 39 = .ok (.iload_n 3, 1) := dc_29 (lxX0_measure 2 7 rfl)
set_option maxRecDepth 20000 in
theorem dX0_measure_40 : decode cX0_measure 40 = .ok (.iconst 1, 1) := dc_4 (lxX0_measure 2 8 rfl)
set_option maxRecDepth 20000 in
theorem dX0_measure_41 : decode cX0_measure 41 = .ok (.iadd, 1) := dc_96 (lxX0_measure 2 9 rfl)
set_option maxRecDepth 20000 in
theorem dX0_measure_42 : decode cX0_measure 42 = .ok (.iload_n 2, 1) := dc_28 (lxX0_measure 2 10 rfl)
set_option maxRecDepth 20000 in
theorem dX0_measure_43 : decode cX0_measure 43 = .ok (.iastore, 1) := dc_79 (lxX0_measure 2 11 rfl)
set_option maxRecDepth 20000 in
theorem dX0_measure_44 : decode cX0_measure 44 = .ok (.iinc 3 1, 3) := dc_132 3 1 (lxX0_measure 2 12 rfl) (lxX0_measure 2 13 rfl) (lxX0_measure 2 14 rfl)
set_option maxRecDepth 20000 in
theorem dX0_measure_47 : decode cX0_measure 47 = .ok (.goto (-43), 3) := dc_167 255 213 (lxX0_measure 2 15 rfl) (lxX0_measure 3 0 rfl) (lxX0_measure 3 1 rfl)
set_option maxRecDepth 20000 in
theorem dX0_measure_50 : decode cX0_measure 50 = .ok (.return_, 1) := dc_177 (lxX0_measure 3 2 rfl)
def lb_sgX0_greatestOf : List (List UInt8) := [[27, 155, 0, 12, 27, 42, 180, 0, 9, 190, 161, 0, 7, 3, 167, 0], [9, 42, 180, 0, 9, 27, 46, 172]]
set_option maxRecDepth 100000 in
theorem lb_seX0_greatestOf : cX0_greatestOf.data.toList = lb_sgX0_greatestOf.flatten := by decide +kernel
theorem lb_lnX0_greatestOf : ∀ s ∈ lb_sgX0_greatestOf.dropLast, s.length = 16 := by decide +kernel
theorem lxX0_greatestOf (k j : Nat) {b : UInt8} (h : (lb_sgX0_greatestOf[k]?).bind (fun s => s[j]?) = some b) : lb_at cX0_greatestOf (16 * k + j) b := by
  unfold lb_at
  rw [lb_seX0_greatestOf]
  exact lb_flat 16 lb_sgX0_greatestOf k j b lb_lnX0_greatestOf h
set_option maxRecDepth 20000 in
theorem dX0_greatestOf_0 : decode cX0_greatestOf 0 = .ok (.iload_n 1, 1) := dc_27 (lxX0_greatestOf 0 0 rfl)
set_option maxRecDepth 20000 in
theorem dX0_greatestOf_1 : decode cX0_greatestOf 1 = .ok (.ifCond .lt 12, 3) := dc_155 0 12 (lxX0_greatestOf 0 1 rfl) (lxX0_greatestOf 0 2 rfl) (lxX0_greatestOf 0 3 rfl)
set_option maxRecDepth 20000 in
theorem dX0_greatestOf_4 : decode cX0_greatestOf 4 = .ok (.iload_n 1, 1) := dc_27 (lxX0_greatestOf 0 4 rfl)
set_option maxRecDepth 20000 in
theorem dX0_greatestOf_5 : decode cX0_greatestOf 5 = .ok (.aload_n 0, 1) := dc_42 (lxX0_greatestOf 0 5 rfl)
set_option maxRecDepth 20000 in
theorem dX0_greatestOf_6 : decode cX0_greatestOf 6 = .ok (.getfield 9, 3) := dc_180 0 9 (lxX0_greatestOf 0 6 rfl) (lxX0_greatestOf 0 7 rfl) (lxX0_greatestOf 0 8 rfl)
set_option maxRecDepth 20000 in
theorem dX0_greatestOf_9 : decode cX0_greatestOf 9 = .ok (.arraylength, 1) := dc_190 (lxX0_greatestOf 0 9 rfl)
set_option maxRecDepth 20000 in
theorem dX0_greatestOf_10 : decode cX0_greatestOf 10 = .ok (.if_icmp .lt 7, 3) := dc_161 0 7 (lxX0_greatestOf 0 10 rfl) (lxX0_greatestOf 0 11 rfl) (lxX0_greatestOf 0 12 rfl)
set_option maxRecDepth 20000 in
theorem dX0_greatestOf_13 : decode cX0_greatestOf 13 = .ok (.iconst 0, 1) := dc_3 (lxX0_greatestOf 0 13 rfl)
set_option maxRecDepth 20000 in
theorem dX0_greatestOf_14 : decode cX0_greatestOf 14 = .ok (.goto 9, 3) := dc_167 0 9 (lxX0_greatestOf 0 14 rfl) (lxX0_greatestOf 0 15 rfl) (lxX0_greatestOf 1 0 rfl)
set_option maxRecDepth 20000 in
theorem dX0_greatestOf_17 : decode cX0_greatestOf 17 = .ok (.aload_n 0, 1) := dc_42 (lxX0_greatestOf 1 1 rfl)
set_option maxRecDepth 20000 in
theorem dX0_greatestOf_18 : decode cX0_greatestOf 18 = .ok (.getfield 9, 3) := dc_180 0 9 (lxX0_greatestOf 1 2 rfl) (lxX0_greatestOf 1 3 rfl) (lxX0_greatestOf 1 4 rfl)
set_option maxRecDepth 20000 in
theorem dX0_greatestOf_21 : decode cX0_greatestOf 21 = .ok (.iload_n 1, 1) := dc_27 (lxX0_greatestOf 1 5 rfl)
set_option maxRecDepth 20000 in
theorem dX0_greatestOf_22 : decode cX0_greatestOf 22 = .ok (.iaload, 1) := dc_46 (lxX0_greatestOf 1 6 rfl)
set_option maxRecDepth 20000 in
theorem dX0_greatestOf_23 : decode cX0_greatestOf 23 = .ok (.ireturn, 1) := dc_172 (lxX0_greatestOf 1 7 rfl)
noncomputable def sgX0_grown : List (List Cond) := [[.code yX0_grown cX0_grown 6 (some .int)], wsX0_grown_r1, wsX0_grown_r2, wsX20, wsX50, wsX00]
theorem seX0_grown : sgX0_grown.flatten = wsX0_grown := by simp only [sgX0_grown, wsX0_grown, List.flatten_cons, List.flatten_nil, List.append_assoc, List.append_nil, List.cons_append, List.nil_append]
set_option maxRecDepth 20000 in
theorem ggX0_grown_X2_at : GoodIn wsX0_grown wsX2_at := goodIn_s seX0_grown _ [pq_1_5, pq_1_6, pq_1_7, pq_3_0, pq_3_1] (by rfl) (by decide +kernel)
set_option maxRecDepth 20000 in
theorem gX0_grown_X2_at_u24X2 : GoodIn wsX0_grown (va_wsU RX0 24 RX2 "Sashwords$Text" ⟨"Sashwords$Text", "at", "(I)I"⟩ yX2_at wsX2_at) := goodIn_app (goodIn_s seX0_grown _ [pq_1_0, pq_1_1, pq_1_2, pq_1_3, pq_1_4] (by rfl) (by decide +kernel)) ggX0_grown_X2_at
set_option maxRecDepth 20000 in
theorem ggX0_grown_X5_at : GoodIn wsX0_grown wsX5_at := goodIn_s seX0_grown _ [pq_1_11, pq_1_12, pq_1_13, pq_1_14, pq_1_15, pq_1_16, pq_1_10, pq_1_17, pq_1_18, pq_1_19, pq_4_0, pq_4_1, pq_4_2, pq_4_3, pq_4_4, pq_4_5] (by rfl) (by decide +kernel)
set_option maxRecDepth 20000 in
theorem gX0_grown_X5_at_u24X5 : GoodIn wsX0_grown (va_wsU RX0 24 RX5 "Sashwords$Text" ⟨"Sashwords$Text", "at", "(I)I"⟩ yX5_at wsX5_at) := goodIn_app (goodIn_s seX0_grown _ [pq_1_0, pq_1_1, pq_1_8, pq_1_9, pq_1_10] (by rfl) (by decide +kernel)) ggX0_grown_X5_at
set_option maxRecDepth 20000 in
theorem ggX0_grown_X0_greatestOf : GoodIn wsX0_grown wsX0_greatestOf := goodIn_s seX0_grown _ [pq_2_0, pq_2_1, pq_5_0, pq_5_1, pq_5_2] (by rfl) (by decide +kernel)
set_option maxRecDepth 20000 in
theorem gX0_grown_X0_greatestOf : GoodIn wsX0_grown (wsV RX0 32 RX0 yX0_greatestOf wsX0_greatestOf) := goodIn_app (goodIn_s seX0_grown _ [pq_1_20, pq_1_21, pq_1_22, pq_1_23] (by rfl) (by decide +kernel)) ggX0_grown_X0_greatestOf
def lb_sgX0_grown : List (List UInt8) := [[28, 54, 4, 28, 54, 5, 21, 5, 158, 0, 32, 21, 4, 158, 0, 27], [43, 21, 4, 182, 0, 24, 29, 159, 0, 17, 42, 21, 4, 182, 0, 32], [54, 4, 132, 5, 255, 167, 255, 225, 43, 21, 4, 182, 0, 24, 29, 160], [0, 10, 21, 4, 4, 96, 167, 0, 4, 3, 172]]
set_option maxRecDepth 100000 in
theorem lb_seX0_grown : cX0_grown.data.toList = lb_sgX0_grown.flatten := by decide +kernel
theorem lb_lnX0_grown : ∀ s ∈ lb_sgX0_grown.dropLast, s.length = 16 := by decide +kernel
theorem lxX0_grown (k j : Nat) {b : UInt8} (h : (lb_sgX0_grown[k]?).bind (fun s => s[j]?) = some b) : lb_at cX0_grown (16 * k + j) b := by
  unfold lb_at
  rw [lb_seX0_grown]
  exact lb_flat 16 lb_sgX0_grown k j b lb_lnX0_grown h
set_option maxRecDepth 20000 in
theorem dX0_grown_0 : decode cX0_grown 0 = .ok (.iload_n 2, 1) := dc_28 (lxX0_grown 0 0 rfl)
set_option maxRecDepth 20000 in
theorem dX0_grown_1 : decode cX0_grown 1 = .ok (.istore 4, 2) := dc_54 4 (lxX0_grown 0 1 rfl) (lxX0_grown 0 2 rfl)
set_option maxRecDepth 20000 in
theorem dX0_grown_3 : decode cX0_grown 3 = .ok (.iload_n 2, 1) := dc_28 (lxX0_grown 0 3 rfl)
set_option maxRecDepth 20000 in
theorem dX0_grown_4 : decode cX0_grown 4 = .ok (.istore 5, 2) := dc_54 5 (lxX0_grown 0 4 rfl) (lxX0_grown 0 5 rfl)
set_option maxRecDepth 20000 in
theorem dX0_grown_6 : decode cX0_grown 6 = .ok (.iload 5, 2) := dc_21 5 (lxX0_grown 0 6 rfl) (lxX0_grown 0 7 rfl)
set_option maxRecDepth 20000 in
theorem dX0_grown_8 : decode cX0_grown 8 = .ok (.ifCond .le 32, 3) := dc_158 0 32 (lxX0_grown 0 8 rfl) (lxX0_grown 0 9 rfl) (lxX0_grown 0 10 rfl)
set_option maxRecDepth 20000 in
theorem dX0_grown_11 : decode cX0_grown 11 = .ok (.iload 4, 2) := dc_21 4 (lxX0_grown 0 11 rfl) (lxX0_grown 0 12 rfl)
set_option maxRecDepth 20000 in
theorem dX0_grown_13 : decode cX0_grown 13 = .ok (.ifCond .le 27, 3) := dc_158 0 27 (lxX0_grown 0 13 rfl) (lxX0_grown 0 14 rfl) (lxX0_grown 0 15 rfl)
set_option maxRecDepth 20000 in
theorem dX0_grown_16 : decode cX0_grown 16 = .ok (.aload_n 1, 1) := dc_43 (lxX0_grown 1 0 rfl)
set_option maxRecDepth 20000 in
theorem dX0_grown_17 : decode cX0_grown 17 = .ok (.iload 4, 2) := dc_21 4 (lxX0_grown 1 1 rfl) (lxX0_grown 1 2 rfl)
set_option maxRecDepth 20000 in
theorem dX0_grown_19 : decode cX0_grown 19 = .ok (.invokevirtual 24, 3) := dc_182 0 24 (lxX0_grown 1 3 rfl) (lxX0_grown 1 4 rfl) (lxX0_grown 1 5 rfl)
set_option maxRecDepth 20000 in
theorem dX0_grown_22 : decode cX0_grown 22 = .ok (.iload_n 3, 1) := dc_29 (lxX0_grown 1 6 rfl)
set_option maxRecDepth 20000 in
theorem dX0_grown_23 : decode cX0_grown 23 = .ok (.if_icmp .eq 17, 3) := dc_159 0 17 (lxX0_grown 1 7 rfl) (lxX0_grown 1 8 rfl) (lxX0_grown 1 9 rfl)
set_option maxRecDepth 20000 in
theorem dX0_grown_26 : decode cX0_grown 26 = .ok (.aload_n 0, 1) := dc_42 (lxX0_grown 1 10 rfl)
set_option maxRecDepth 20000 in
theorem dX0_grown_27 : decode cX0_grown 27 = .ok (.iload 4, 2) := dc_21 4 (lxX0_grown 1 11 rfl) (lxX0_grown 1 12 rfl)
set_option maxRecDepth 20000 in
theorem dX0_grown_29 : decode cX0_grown 29 = .ok (.invokevirtual 32, 3) := dc_182 0 32 (lxX0_grown 1 13 rfl) (lxX0_grown 1 14 rfl) (lxX0_grown 1 15 rfl)
set_option maxRecDepth 20000 in
theorem dX0_grown_32 : decode cX0_grown 32 = .ok (.istore 4, 2) := dc_54 4 (lxX0_grown 2 0 rfl) (lxX0_grown 2 1 rfl)
set_option maxRecDepth 20000 in
theorem dX0_grown_34 : decode cX0_grown 34 = .ok (.iinc 5 (-1), 3) := dc_132 5 255 (lxX0_grown 2 2 rfl) (lxX0_grown 2 3 rfl) (lxX0_grown 2 4 rfl)
set_option maxRecDepth 20000 in
theorem dX0_grown_37 : decode cX0_grown 37 = .ok (.goto (-31), 3) := dc_167 255 225 (lxX0_grown 2 5 rfl) (lxX0_grown 2 6 rfl) (lxX0_grown 2 7 rfl)
set_option maxRecDepth 20000 in
theorem dX0_grown_40 : decode cX0_grown 40 = .ok (.aload_n 1, 1) := dc_43 (lxX0_grown 2 8 rfl)
set_option maxRecDepth 20000 in
theorem dX0_grown_41 : decode cX0_grown 41 = .ok (.iload 4, 2) := dc_21 4 (lxX0_grown 2 9 rfl) (lxX0_grown 2 10 rfl)
set_option maxRecDepth 20000 in
theorem dX0_grown_43 : decode cX0_grown 43 = .ok (.invokevirtual 24, 3) := dc_182 0 24 (lxX0_grown 2 11 rfl) (lxX0_grown 2 12 rfl) (lxX0_grown 2 13 rfl)
set_option maxRecDepth 20000 in
theorem dX0_grown_46 : decode cX0_grown 46 = .ok (.iload_n 3, 1) := dc_29 (lxX0_grown 2 14 rfl)
set_option maxRecDepth 20000 in
theorem dX0_grown_47 : decode cX0_grown 47 = .ok (.if_icmp .ne 10, 3) := dc_160 0 10 (lxX0_grown 2 15 rfl) (lxX0_grown 3 0 rfl) (lxX0_grown 3 1 rfl)
set_option maxRecDepth 20000 in
theorem dX0_grown_50 : decode cX0_grown 50 = .ok (.iload 4, 2) := dc_21 4 (lxX0_grown 3 2 rfl) (lxX0_grown 3 3 rfl)
set_option maxRecDepth 20000 in
theorem dX0_grown_52 : decode cX0_grown 52 = .ok (.iconst 1, 1) := dc_4 (lxX0_grown 3 4 rfl)
set_option maxRecDepth 20000 in
theorem dX0_grown_53 : decode cX0_grown 53 = .ok (.iadd, 1) := dc_96 (lxX0_grown 3 5 rfl)
set_option maxRecDepth 20000 in
theorem dX0_grown_54 : decode cX0_grown 54 = .ok (.goto 4, 3) := dc_167 0 4 (lxX0_grown 3 6 rfl) (lxX0_grown 3 7 rfl) (lxX0_grown 3 8 rfl)
set_option maxRecDepth 20000 in
theorem dX0_grown_57 : decode cX0_grown 57 = .ok (.iconst 0, 1) := dc_3 (lxX0_grown 3 9 rfl)
set_option maxRecDepth 20000 in
theorem dX0_grown_58 : decode cX0_grown 58 = .ok (.ireturn, 1) := dc_172 (lxX0_grown 3 10 rfl)
noncomputable def sgX0_measureChain : List (List Cond) := [[.code yX0_measureChain cX0_measureChain 4 none], wsX0_measureChain_r1, wsX0_measureChain_r2, wsX00, wsX20, wsX50]
theorem seX0_measureChain : sgX0_measureChain.flatten = wsX0_measureChain := by simp only [sgX0_measureChain, wsX0_measureChain, List.flatten_cons, List.flatten_nil, List.append_assoc, List.append_nil, List.cons_append, List.nil_append]
set_option maxRecDepth 20000 in
theorem ggX0_measureChain_X0_measure : GoodIn wsX0_measureChain wsX0_measure := goodIn_s seX0_measureChain _ [pq_1_6, pq_1_7, pq_1_8, pq_1_9, pq_1_10, pq_1_11, pq_1_12, pq_1_13, pq_1_14, pq_1_15, pq_1_16, pq_1_17, pq_1_18, pq_1_19, pq_1_20, pq_1_21, pq_1_22, pq_1_23, pq_2_0, pq_2_1, pq_2_2, pq_2_3, pq_2_4, pq_2_5, pq_2_6, pq_2_7, pq_2_8, pq_2_9, pq_2_10, pq_2_11, pq_2_12, pq_2_13, pq_2_14, pq_1_5, pq_2_15, pq_2_16, pq_2_17, pq_2_18, pq_2_19, pq_3_0, pq_3_1, pq_3_2, pq_4_0, pq_4_1, pq_5_0, pq_5_1, pq_5_2, pq_5_3, pq_5_4, pq_5_5] (by rfl) (by decide +kernel)
set_option maxRecDepth 20000 in
theorem gX0_measureChain_X0_measure : GoodIn wsX0_measureChain (wsV RX0 35 RX0 yX0_measure wsX0_measure) := goodIn_app (goodIn_s seX0_measureChain _ [pq_1_2, pq_1_3, pq_1_4, pq_1_5] (by rfl) (by decide +kernel)) ggX0_measureChain_X0_measure
set_option maxRecDepth 20000 in
theorem ggX0_measureChain_X2_size : GoodIn wsX0_measureChain wsX2_size := goodIn_s seX0_measureChain _ [pq_1_13, pq_1_14, pq_4_0, pq_4_1] (by rfl) (by decide +kernel)
set_option maxRecDepth 20000 in
theorem gX0_measureChain_X2_size_u18X2 : GoodIn wsX0_measureChain (va_wsU RX0 18 RX2 "Sashwords$Text" ⟨"Sashwords$Text", "size", "()I"⟩ yX2_size wsX2_size) := goodIn_app (goodIn_s seX0_measureChain _ [pq_1_8, pq_1_9, pq_1_10, pq_1_11, pq_1_12] (by rfl) (by decide +kernel)) ggX0_measureChain_X2_size
set_option maxRecDepth 20000 in
theorem ggX0_measureChain_X5_size : GoodIn wsX0_measureChain wsX5_size := goodIn_s seX0_measureChain _ [pq_1_18, pq_1_19, pq_1_20, pq_5_0, pq_5_1, pq_5_2, pq_5_3, pq_5_4, pq_5_5] (by rfl) (by decide +kernel)
set_option maxRecDepth 20000 in
theorem gX0_measureChain_X5_size_u18X5 : GoodIn wsX0_measureChain (va_wsU RX0 18 RX5 "Sashwords$Text" ⟨"Sashwords$Text", "size", "()I"⟩ yX5_size wsX5_size) := goodIn_app (goodIn_s seX0_measureChain _ [pq_1_8, pq_1_9, pq_1_15, pq_1_16, pq_1_17] (by rfl) (by decide +kernel)) ggX0_measureChain_X5_size
set_option maxRecDepth 20000 in
theorem ggX0_measureChain_X0_greatestOf : GoodIn wsX0_measureChain wsX0_greatestOf := goodIn_s seX0_measureChain _ [pq_2_19, pq_1_7, pq_3_0, pq_3_1, pq_3_2] (by rfl) (by decide +kernel)
set_option maxRecDepth 20000 in
theorem gX0_measureChain_X0_greatestOf : GoodIn wsX0_measureChain (wsV RX0 32 RX0 yX0_greatestOf wsX0_greatestOf) := goodIn_app (goodIn_s seX0_measureChain _ [pq_2_16, pq_2_17, pq_2_18, pq_1_5] (by rfl) (by decide +kernel)) ggX0_measureChain_X0_greatestOf
def lb_sgX0_measureChain : List (List UInt8) := [[42, 43, 182, 0, 35, 42, 3, 181, 0, 39, 43, 182, 0, 18, 61, 43], [182, 0, 18, 62, 29, 158, 0, 51, 28, 158, 0, 47, 42, 28, 182, 0], [32, 61, 42, 180, 0, 39, 42, 180, 0, 15, 190, 162, 0, 23, 42, 180], [0, 15, 42, 180, 0, 39, 28, 79, 42, 89, 180, 0, 39, 4, 96, 181], [0, 39, 132, 3, 255, 167, 255, 207, 177]]
set_option maxRecDepth 100000 in
theorem lb_seX0_measureChain : cX0_measureChain.data.toList = lb_sgX0_measureChain.flatten := by decide +kernel
theorem lb_lnX0_measureChain : ∀ s ∈ lb_sgX0_measureChain.dropLast, s.length = 16 := by decide +kernel
theorem lxX0_measureChain (k j : Nat) {b : UInt8} (h : (lb_sgX0_measureChain[k]?).bind (fun s => s[j]?) = some b) : lb_at cX0_measureChain (16 * k + j) b := by
  unfold lb_at
  rw [lb_seX0_measureChain]
  exact lb_flat 16 lb_sgX0_measureChain k j b lb_lnX0_measureChain h
set_option maxRecDepth 20000 in
theorem dX0_measureChain_0 : decode cX0_measureChain 0 = .ok (.aload_n 0, 1) := dc_42 (lxX0_measureChain 0 0 rfl)
set_option maxRecDepth 20000 in
theorem dX0_measureChain_1 : decode cX0_measureChain 1 = .ok (.aload_n 1, 1) := dc_43 (lxX0_measureChain 0 1 rfl)
set_option maxRecDepth 20000 in
theorem dX0_measureChain_2 : decode cX0_measureChain 2 = .ok (.invokevirtual 35, 3) := dc_182 0 35 (lxX0_measureChain 0 2 rfl) (lxX0_measureChain 0 3 rfl) (lxX0_measureChain 0 4 rfl)
set_option maxRecDepth 20000 in
theorem dX0_measureChain_5 : decode cX0_measureChain 5 = .ok (.aload_n 0, 1) := dc_42 (lxX0_measureChain 0 5 rfl)
set_option maxRecDepth 20000 in
theorem dX0_measureChain_6 : decode cX0_measureChain 6 = .ok (.iconst 0, 1) := dc_3 (lxX0_measureChain 0 6 rfl)
set_option maxRecDepth 20000 in
theorem dX0_measureChain_7 : decode cX0_measureChain 7 = .ok (.putfield 39, 3) := dc_181 0 39 (lxX0_measureChain 0 7 rfl) (lxX0_measureChain 0 8 rfl) (lxX0_measureChain 0 9 rfl)
set_option maxRecDepth 20000 in
theorem dX0_measureChain_10 : decode cX0_measureChain 10 = .ok (.aload_n 1, 1) := dc_43 (lxX0_measureChain 0 10 rfl)
set_option maxRecDepth 20000 in
theorem dX0_measureChain_11 : decode cX0_measureChain 11 = .ok (.invokevirtual 18, 3) := dc_182 0 18 (lxX0_measureChain 0 11 rfl) (lxX0_measureChain 0 12 rfl) (lxX0_measureChain 0 13 rfl)
set_option maxRecDepth 20000 in
theorem dX0_measureChain_14 : decode cX0_measureChain 14 = .ok (.istore_n 2, 1) := dc_61 (lxX0_measureChain 0 14 rfl)
set_option maxRecDepth 20000 in
theorem dX0_measureChain_15 : decode cX0_measureChain 15 = .ok (.aload_n 1, 1) := dc_43 (lxX0_measureChain 0 15 rfl)
set_option maxRecDepth 20000 in
theorem dX0_measureChain_16 : decode cX0_measureChain 16 = .ok (.invokevirtual 18, 3) := dc_182 0 18 (lxX0_measureChain 1 0 rfl) (lxX0_measureChain 1 1 rfl) (lxX0_measureChain 1 2 rfl)
set_option maxRecDepth 20000 in
theorem dX0_measureChain_19 : decode cX0_measureChain 19 = .ok (.istore_n 3, 1) := dc_62 (lxX0_measureChain 1 3 rfl)
set_option maxRecDepth 20000 in
theorem dX0_measureChain_20 : decode cX0_measureChain 20 = .ok (.iload_n 3, 1) := dc_29 (lxX0_measureChain 1 4 rfl)
set_option maxRecDepth 20000 in
theorem dX0_measureChain_21 : decode cX0_measureChain 21 = .ok (.ifCond .le 51, 3) := dc_158 0 51 (lxX0_measureChain 1 5 rfl) (lxX0_measureChain 1 6 rfl) (lxX0_measureChain 1 7 rfl)
set_option maxRecDepth 20000 in
theorem dX0_measureChain_24 : decode cX0_measureChain 24 = .ok (.iload_n 2, 1) := dc_28 (lxX0_measureChain 1 8 rfl)
set_option maxRecDepth 20000 in
theorem dX0_measureChain_25 : decode cX0_measureChain 25 = .ok (.ifCond .le 47, 3) := dc_158 0 47 (lxX0_measureChain 1 9 rfl) (lxX0_measureChain 1 10 rfl) (lxX0_measureChain 1 11 rfl)
set_option maxRecDepth 20000 in
theorem dX0_measureChain_28 : decode cX0_measureChain 28 = .ok (.aload_n 0, 1) := dc_42 (lxX0_measureChain 1 12 rfl)
set_option maxRecDepth 20000 in
theorem dX0_measureChain_29 : decode cX0_measureChain 29 = .ok (.iload_n 2, 1) := dc_28 (lxX0_measureChain 1 13 rfl)
set_option maxRecDepth 20000 in
theorem dX0_measureChain_30 : decode cX0_measureChain 30 = .ok (.invokevirtual 32, 3) := dc_182 0 32 (lxX0_measureChain 1 14 rfl) (lxX0_measureChain 1 15 rfl) (lxX0_measureChain 2 0 rfl)
set_option maxRecDepth 20000 in
theorem dX0_measureChain_33 : decode cX0_measureChain 33 = .ok (.istore_n 2, 1) := dc_61 (lxX0_measureChain 2 1 rfl)
set_option maxRecDepth 20000 in
theorem dX0_measureChain_34 : decode cX0_measureChain 34 = .ok (.aload_n 0, 1) := dc_42 (lxX0_measureChain 2 2 rfl)
set_option maxRecDepth 20000 in
theorem dX0_measureChain_35 : decode cX0_measureChain 35 = .ok (.getfield 39, 3) := dc_180 0 39 (lxX0_measureChain 2 3 rfl) (lxX0_measureChain 2 4 rfl) (lxX0_measureChain 2 5 rfl)
set_option maxRecDepth 20000 in
theorem dX0_measureChain_38 : decode cX0_measureChain 38 = .ok (.aload_n 0, 1) := dc_42 (lxX0_measureChain 2 6 rfl)
set_option maxRecDepth 20000 in
theorem dX0_measureChain_39 : decode cX0_measureChain 39 = .ok (.getfield 15, 3) := dc_180 0 15 (lxX0_measureChain 2 7 rfl) (lxX0_measureChain 2 8 rfl) (lxX0_measureChain 2 9 rfl)
set_option maxRecDepth 20000 in
theorem dX0_measureChain_42 : decode cX0_measureChain 42 = .ok (.arraylength, 1) := dc_190 (lxX0_measureChain 2 10 rfl)
set_option maxRecDepth 20000 in
theorem dX0_measureChain_43 : decode cX0_measureChain 43 = .ok (.if_icmp .ge 23, 3) := dc_162 0 23 (lxX0_measureChain 2 11 rfl) (lxX0_measureChain 2 12 rfl) (lxX0_measureChain 2 13 rfl)
set_option maxRecDepth 20000 in
theorem dX0_measureChain_46 : decode cX0_measureChain 46 = .ok (.aload_n 0, 1) := dc_42 (lxX0_measureChain 2 14 rfl)
set_option maxRecDepth 20000 in
theorem dX0_measureChain_47 : decode cX0_measureChain 47 = .ok (.getfield 15, 3) := dc_180 0 15 (lxX0_measureChain 2 15 rfl) (lxX0_measureChain 3 0 rfl) (lxX0_measureChain 3 1 rfl)
set_option maxRecDepth 20000 in
theorem dX0_measureChain_50 : decode cX0_measureChain 50 = .ok (.aload_n 0, 1) := dc_42 (lxX0_measureChain 3 2 rfl)
set_option maxRecDepth 20000 in
theorem dX0_measureChain_51 : decode cX0_measureChain 51 = .ok (.getfield 39, 3) := dc_180 0 39 (lxX0_measureChain 3 3 rfl) (lxX0_measureChain 3 4 rfl) (lxX0_measureChain 3 5 rfl)
set_option maxRecDepth 20000 in
theorem dX0_measureChain_54 : decode cX0_measureChain 54 = .ok (.iload_n 2, 1) := dc_28 (lxX0_measureChain 3 6 rfl)
set_option maxRecDepth 20000 in
theorem dX0_measureChain_55 : decode cX0_measureChain 55 = .ok (.iastore, 1) := dc_79 (lxX0_measureChain 3 7 rfl)
set_option maxRecDepth 20000 in
theorem dX0_measureChain_56 : decode cX0_measureChain 56 = .ok (.aload_n 0, 1) := dc_42 (lxX0_measureChain 3 8 rfl)
set_option maxRecDepth 20000 in
theorem dX0_measureChain_57 : decode cX0_measureChain 57 = .ok (.dup, 1) := dc_89 (lxX0_measureChain 3 9 rfl)
set_option maxRecDepth 20000 in
theorem dX0_measureChain_58 : decode cX0_measureChain 58 = .ok (.getfield 39, 3) := dc_180 0 39 (lxX0_measureChain 3 10 rfl) (lxX0_measureChain 3 11 rfl) (lxX0_measureChain 3 12 rfl)
set_option maxRecDepth 20000 in
theorem dX0_measureChain_61 : decode cX0_measureChain 61 = .ok (.iconst 1, 1) := dc_4 (lxX0_measureChain 3 13 rfl)
set_option maxRecDepth 20000 in
theorem dX0_measureChain_62 : decode cX0_measureChain 62 = .ok (.iadd, 1) := dc_96 (lxX0_measureChain 3 14 rfl)
set_option maxRecDepth 20000 in
theorem dX0_measureChain_63 : decode cX0_measureChain 63 = .ok (.putfield 39, 3) := dc_181 0 39 (lxX0_measureChain 3 15 rfl) (lxX0_measureChain 4 0 rfl) (lxX0_measureChain 4 1 rfl)
set_option maxRecDepth 20000 in
theorem dX0_measureChain_66 : decode cX0_measureChain 66 = .ok (.iinc 3 (-1), 3) := dc_132 3 255 (lxX0_measureChain 4 2 rfl) (lxX0_measureChain 4 3 rfl) (lxX0_measureChain 4 4 rfl)
set_option maxRecDepth 20000 in
theorem dX0_measureChain_69 : decode cX0_measureChain 69 = .ok (.goto (-49), 3) := dc_167 255 207 (lxX0_measureChain 4 5 rfl) (lxX0_measureChain 4 6 rfl) (lxX0_measureChain 4 7 rfl)
set_option maxRecDepth 20000 in
theorem dX0_measureChain_72 : decode cX0_measureChain 72 = .ok (.return_, 1) := dc_177 (lxX0_measureChain 4 8 rfl)
def lb_sgX0_linkAt : List (List UInt8) := [[27, 155, 0, 20, 27, 42, 180, 0, 39, 162, 0, 12, 27, 42, 180, 0], [15, 190, 161, 0, 7, 2, 167, 0, 9, 42, 180, 0, 15, 27, 46, 172]]
set_option maxRecDepth 100000 in
theorem lb_seX0_linkAt : cX0_linkAt.data.toList = lb_sgX0_linkAt.flatten := by decide +kernel
theorem lb_lnX0_linkAt : ∀ s ∈ lb_sgX0_linkAt.dropLast, s.length = 16 := by decide +kernel
theorem lxX0_linkAt (k j : Nat) {b : UInt8} (h : (lb_sgX0_linkAt[k]?).bind (fun s => s[j]?) = some b) : lb_at cX0_linkAt (16 * k + j) b := by
  unfold lb_at
  rw [lb_seX0_linkAt]
  exact lb_flat 16 lb_sgX0_linkAt k j b lb_lnX0_linkAt h
set_option maxRecDepth 20000 in
theorem dX0_linkAt_0 : decode cX0_linkAt 0 = .ok (.iload_n 1, 1) := dc_27 (lxX0_linkAt 0 0 rfl)
set_option maxRecDepth 20000 in
theorem dX0_linkAt_1 : decode cX0_linkAt 1 = .ok (.ifCond .lt 20, 3) := dc_155 0 20 (lxX0_linkAt 0 1 rfl) (lxX0_linkAt 0 2 rfl) (lxX0_linkAt 0 3 rfl)
set_option maxRecDepth 20000 in
theorem dX0_linkAt_4 : decode cX0_linkAt 4 = .ok (.iload_n 1, 1) := dc_27 (lxX0_linkAt 0 4 rfl)
set_option maxRecDepth 20000 in
theorem dX0_linkAt_5 : decode cX0_linkAt 5 = .ok (.aload_n 0, 1) := dc_42 (lxX0_linkAt 0 5 rfl)
set_option maxRecDepth 20000 in
theorem dX0_linkAt_6 : decode cX0_linkAt 6 = .ok (.getfield 39, 3) := dc_180 0 39 (lxX0_linkAt 0 6 rfl) (lxX0_linkAt 0 7 rfl) (lxX0_linkAt 0 8 rfl)
set_option maxRecDepth 20000 in
theorem dX0_linkAt_9 : decode cX0_linkAt 9 = .ok (.if_icmp .ge 12, 3) := dc_162 0 12 (lxX0_linkAt 0 9 rfl) (lxX0_linkAt 0 10 rfl) (lxX0_linkAt 0 11 rfl)
set_option maxRecDepth 20000 in
theorem dX0_linkAt_12 : decode cX0_linkAt 12 = .ok (.iload_n 1, 1) := dc_27 (lxX0_linkAt 0 12 rfl)
set_option maxRecDepth 20000 in
theorem dX0_linkAt_13 : decode cX0_linkAt 13 = .ok (.aload_n 0, 1) := dc_42 (lxX0_linkAt 0 13 rfl)
set_option maxRecDepth 20000 in
theorem dX0_linkAt_14 : decode cX0_linkAt 14 = .ok (.getfield 15, 3) := dc_180 0 15 (lxX0_linkAt 0 14 rfl) (lxX0_linkAt 0 15 rfl) (lxX0_linkAt 1 0 rfl)
set_option maxRecDepth 20000 in
theorem dX0_linkAt_17 : decode cX0_linkAt 17 = .ok (.arraylength, 1) := dc_190 (lxX0_linkAt 1 1 rfl)
set_option maxRecDepth 20000 in
theorem dX0_linkAt_18 : decode cX0_linkAt 18 = .ok (.if_icmp .lt 7, 3) := dc_161 0 7 (lxX0_linkAt 1 2 rfl) (lxX0_linkAt 1 3 rfl) (lxX0_linkAt 1 4 rfl)
set_option maxRecDepth 20000 in
theorem dX0_linkAt_21 : decode cX0_linkAt 21 = .ok (.iconst (-1), 1) := dc_2 (lxX0_linkAt 1 5 rfl)
set_option maxRecDepth 20000 in
theorem dX0_linkAt_22 : decode cX0_linkAt 22 = .ok (.goto 9, 3) := dc_167 0 9 (lxX0_linkAt 1 6 rfl) (lxX0_linkAt 1 7 rfl) (lxX0_linkAt 1 8 rfl)
set_option maxRecDepth 20000 in
theorem dX0_linkAt_25 : decode cX0_linkAt 25 = .ok (.aload_n 0, 1) := dc_42 (lxX0_linkAt 1 9 rfl)
set_option maxRecDepth 20000 in
theorem dX0_linkAt_26 : decode cX0_linkAt 26 = .ok (.getfield 15, 3) := dc_180 0 15 (lxX0_linkAt 1 10 rfl) (lxX0_linkAt 1 11 rfl) (lxX0_linkAt 1 12 rfl)
set_option maxRecDepth 20000 in
theorem dX0_linkAt_29 : decode cX0_linkAt 29 = .ok (.iload_n 1, 1) := dc_27 (lxX0_linkAt 1 13 rfl)
set_option maxRecDepth 20000 in
theorem dX0_linkAt_30 : decode cX0_linkAt 30 = .ok (.iaload, 1) := dc_46 (lxX0_linkAt 1 14 rfl)
set_option maxRecDepth 20000 in
theorem dX0_linkAt_31 : decode cX0_linkAt 31 = .ok (.ireturn, 1) := dc_172 (lxX0_linkAt 1 15 rfl)
end
section
noncomputable def sgX1_init : List (List Cond) := [[.code yX1_init cX1_init 1 none], [.methodLink RX1 3 objectInit, .instanceMethod objectInit, .code objectInit ⟨#[0xb1]⟩ 1 none, .classLink RX1 9 RX2, .instantiable RX2 2, .initialized RX2, .fieldLink RX1 14 "Sashwords$Pipe" "holds" "LSashwords$Script;", .fieldLink RX1 20 "Sashwords$Pipe" "sent" "LSashwords$Script;", .fieldLink RX1 23 "Sashwords$Pipe" "came" "LSashwords$Script;", .fieldLink RX1 26 "Sashwords$Pipe" "width" "I", .methodLink RX1 11 yX2_init, .instanceMethod yX2_init, .code yX2_init cX2_init 2 none, .methodLink RX2 9 Lib.Math.max.name, .static Lib.Math.max.name, .initialized "java/lang/Math", .code Lib.Math.max.name Lib.Math.max.code 2 (some .int), .arrayClass .char, .fieldLink RX2 15 "Sashwords$Script" "signs" "[C", .instanceMethod yX4_init, .initialized RX4, .code yX4_init cX4_init 1 none, .methodLink RX4 1 objectInit], wsX20, wsX10]
theorem seX1_init : sgX1_init.flatten = wsX1_init := by simp only [sgX1_init, wsX1_init, List.flatten_cons, List.flatten_nil, List.append_assoc, List.append_nil, List.cons_append, List.nil_append]
set_option maxRecDepth 20000 in
theorem ggX1_init_X2_init : GoodIn wsX1_init wsX2_init := goodIn_s seX1_init _ [pq_1_12, pq_1_13, pq_1_14, pq_1_15, pq_1_16, pq_1_17, pq_1_18, pq_1_19, pq_1_20, pq_1_21, pq_1_22, pq_1_1, pq_1_2, pq_2_0, pq_2_1] (by rfl) (by decide +kernel)
set_option maxRecDepth 20000 in
theorem gX1_init_X2_init : GoodIn wsX1_init (wsX2_init) := ggX1_init_X2_init
def lb_sgX1_init : List (List UInt8) := [[42, 183, 0, 3, 42, 187, 0, 9, 89, 16, 8, 183, 0, 11, 181, 0], [14, 42, 187, 0, 9, 89, 17, 0, 160, 183, 0, 11, 181, 0, 20, 42], [187, 0, 9, 89, 17, 0, 160, 183, 0, 11, 181, 0, 23, 42, 7, 181], [0, 26, 177]]
set_option maxRecDepth 100000 in
theorem lb_seX1_init : cX1_init.data.toList = lb_sgX1_init.flatten := by decide +kernel
theorem lb_lnX1_init : ∀ s ∈ lb_sgX1_init.dropLast, s.length = 16 := by decide +kernel
theorem lxX1_init (k j : Nat) {b : UInt8} (h : (lb_sgX1_init[k]?).bind (fun s => s[j]?) = some b) : lb_at cX1_init (16 * k + j) b := by
  unfold lb_at
  rw [lb_seX1_init]
  exact lb_flat 16 lb_sgX1_init k j b lb_lnX1_init h
set_option maxRecDepth 20000 in
theorem dX1_init_0 : decode cX1_init 0 = .ok (.aload_n 0, 1) := dc_42 (lxX1_init 0 0 rfl)
set_option maxRecDepth 20000 in
theorem dX1_init_1 : decode cX1_init 1 = .ok (.invokespecial 3, 3) := dc_183 0 3 (lxX1_init 0 1 rfl) (lxX1_init 0 2 rfl) (lxX1_init 0 3 rfl)
set_option maxRecDepth 20000 in
theorem dX1_init_4 : decode cX1_init 4 = .ok (.aload_n 0, 1) := dc_42 (lxX1_init 0 4 rfl)
set_option maxRecDepth 20000 in
theorem dX1_init_5 : decode cX1_init 5 = .ok (.new 9, 3) := dc_187 0 9 (lxX1_init 0 5 rfl) (lxX1_init 0 6 rfl) (lxX1_init 0 7 rfl)
set_option maxRecDepth 20000 in
theorem dX1_init_8 : decode cX1_init 8 = .ok (.dup, 1) := dc_89 (lxX1_init 0 8 rfl)
set_option maxRecDepth 20000 in
theorem dX1_init_9 : decode cX1_init 9 = .ok (.bipush 8, 2) := dc_16 8 (lxX1_init 0 9 rfl) (lxX1_init 0 10 rfl)
set_option maxRecDepth 20000 in
theorem dX1_init_11 : decode cX1_init 11 = .ok (.invokespecial 11, 3) := dc_183 0 11 (lxX1_init 0 11 rfl) (lxX1_init 0 12 rfl) (lxX1_init 0 13 rfl)
set_option maxRecDepth 20000 in
theorem dX1_init_14 : decode cX1_init 14 = .ok (.putfield 14, 3) := dc_181 0 14 (lxX1_init 0 14 rfl) (lxX1_init 0 15 rfl) (lxX1_init 1 0 rfl)
set_option maxRecDepth 20000 in
theorem dX1_init_17 : decode cX1_init 17 = .ok (.aload_n 0, 1) := dc_42 (lxX1_init 1 1 rfl)
set_option maxRecDepth 20000 in
theorem dX1_init_18 : decode cX1_init 18 = .ok (.new 9, 3) := dc_187 0 9 (lxX1_init 1 2 rfl) (lxX1_init 1 3 rfl) (lxX1_init 1 4 rfl)
set_option maxRecDepth 20000 in
theorem dX1_init_21 : decode cX1_init 21 = .ok (.dup, 1) := dc_89 (lxX1_init 1 5 rfl)
set_option maxRecDepth 20000 in
theorem dX1_init_22 : decode cX1_init 22 = .ok (.sipush 160, 3) := dc_17 0 160 (lxX1_init 1 6 rfl) (lxX1_init 1 7 rfl) (lxX1_init 1 8 rfl)
set_option maxRecDepth 20000 in
theorem dX1_init_25 : decode cX1_init 25 = .ok (.invokespecial 11, 3) := dc_183 0 11 (lxX1_init 1 9 rfl) (lxX1_init 1 10 rfl) (lxX1_init 1 11 rfl)
set_option maxRecDepth 20000 in
theorem dX1_init_28 : decode cX1_init 28 = .ok (.putfield 20, 3) := dc_181 0 20 (lxX1_init 1 12 rfl) (lxX1_init 1 13 rfl) (lxX1_init 1 14 rfl)
set_option maxRecDepth 20000 in
theorem dX1_init_31 : decode cX1_init 31 = .ok (.aload_n 0, 1) := dc_42 (lxX1_init 1 15 rfl)
set_option maxRecDepth 20000 in
theorem dX1_init_32 : decode cX1_init 32 = .ok (.new 9, 3) := dc_187 0 9 (lxX1_init 2 0 rfl) (lxX1_init 2 1 rfl) (lxX1_init 2 2 rfl)
set_option maxRecDepth 20000 in
theorem dX1_init_35 : decode cX1_init 35 = .ok (.dup, 1) := dc_89 (lxX1_init 2 3 rfl)
set_option maxRecDepth 20000 in
theorem dX1_init_36 : decode cX1_init 36 = .ok (.sipush 160, 3) := dc_17 0 160 (lxX1_init 2 4 rfl) (lxX1_init 2 5 rfl) (lxX1_init 2 6 rfl)
set_option maxRecDepth 20000 in
theorem dX1_init_39 : decode cX1_init 39 = .ok (.invokespecial 11, 3) := dc_183 0 11 (lxX1_init 2 7 rfl) (lxX1_init 2 8 rfl) (lxX1_init 2 9 rfl)
set_option maxRecDepth 20000 in
theorem dX1_init_42 : decode cX1_init 42 = .ok (.putfield 23, 3) := dc_181 0 23 (lxX1_init 2 10 rfl) (lxX1_init 2 11 rfl) (lxX1_init 2 12 rfl)
set_option maxRecDepth 20000 in
theorem dX1_init_45 : decode cX1_init 45 = .ok (.aload_n 0, 1) := dc_42 (lxX1_init 2 13 rfl)
set_option maxRecDepth 20000 in
theorem dX1_init_46 : decode cX1_init 46 = .ok (.iconst 4, 1) := dc_7 (lxX1_init 2 14 rfl)
set_option maxRecDepth 20000 in
theorem dX1_init_47 : decode cX1_init 47 = .ok (.putfield 26, 3) := dc_181 0 26 (lxX1_init 2 15 rfl) (lxX1_init 3 0 rfl) (lxX1_init 3 1 rfl)
set_option maxRecDepth 20000 in
theorem dX1_init_50 : decode cX1_init 50 = .ok (.return_, 1) := dc_177 (lxX1_init 3 2 rfl)
noncomputable def sgX1_makeNew : List (List Cond) := [[.code yX1_makeNew cX1_makeNew 2 none], [.fieldLink RX1 26 "Sashwords$Pipe" "width" "I", .fieldLink RX1 14 "Sashwords$Pipe" "holds" "LSashwords$Script;", .fieldLink RX1 20 "Sashwords$Pipe" "sent" "LSashwords$Script;", .fieldLink RX1 23 "Sashwords$Pipe" "came" "LSashwords$Script;", .methodLink RX1 30 yX2_clear, .instanceMethod yX2_clear, .selects RX2 yX2_clear yX2_clear, .initialized RX2, .code yX2_clear cX2_clear 1 none, .fieldLink RX2 21 "Sashwords$Script" "length" "I"], wsX10, wsX20]
theorem seX1_makeNew : sgX1_makeNew.flatten = wsX1_makeNew := by simp only [sgX1_makeNew, wsX1_makeNew, List.flatten_cons, List.flatten_nil, List.append_assoc, List.append_nil, List.cons_append, List.nil_append]
set_option maxRecDepth 20000 in
theorem ggX1_makeNew_X2_clear : GoodIn wsX1_makeNew wsX2_clear := goodIn_s seX1_makeNew _ [pq_1_8, pq_1_9, pq_3_0, pq_3_1] (by rfl) (by decide +kernel)
set_option maxRecDepth 20000 in
theorem gX1_makeNew_X2_clear : GoodIn wsX1_makeNew (wsV RX1 30 RX2 yX2_clear wsX2_clear) := goodIn_app (goodIn_s seX1_makeNew _ [pq_1_4, pq_1_5, pq_1_6, pq_1_7] (by rfl) (by decide +kernel)) ggX1_makeNew_X2_clear
def lb_sgX1_makeNew : List (List UInt8) := [[42, 27, 181, 0, 26, 42, 180, 0, 14, 182, 0, 30, 42, 180, 0, 20], [182, 0, 30, 42, 180, 0, 23, 182, 0, 30, 177]]
set_option maxRecDepth 100000 in
theorem lb_seX1_makeNew : cX1_makeNew.data.toList = lb_sgX1_makeNew.flatten := by decide +kernel
theorem lb_lnX1_makeNew : ∀ s ∈ lb_sgX1_makeNew.dropLast, s.length = 16 := by decide +kernel
theorem lxX1_makeNew (k j : Nat) {b : UInt8} (h : (lb_sgX1_makeNew[k]?).bind (fun s => s[j]?) = some b) : lb_at cX1_makeNew (16 * k + j) b := by
  unfold lb_at
  rw [lb_seX1_makeNew]
  exact lb_flat 16 lb_sgX1_makeNew k j b lb_lnX1_makeNew h
set_option maxRecDepth 20000 in
theorem dX1_makeNew_0 : decode cX1_makeNew 0 = .ok (.aload_n 0, 1) := dc_42 (lxX1_makeNew 0 0 rfl)
set_option maxRecDepth 20000 in
theorem dX1_makeNew_1 : decode cX1_makeNew 1 = .ok (.iload_n 1, 1) := dc_27 (lxX1_makeNew 0 1 rfl)
set_option maxRecDepth 20000 in
theorem dX1_makeNew_2 : decode cX1_makeNew 2 = .ok (.putfield 26, 3) := dc_181 0 26 (lxX1_makeNew 0 2 rfl) (lxX1_makeNew 0 3 rfl) (lxX1_makeNew 0 4 rfl)
set_option maxRecDepth 20000 in
theorem dX1_makeNew_5 : decode cX1_makeNew 5 = .ok (.aload_n 0, 1) := dc_42 (lxX1_makeNew 0 5 rfl)
set_option maxRecDepth 20000 in
theorem dX1_makeNew_6 : decode cX1_makeNew 6 = .ok (.getfield 14, 3) := dc_180 0 14 (lxX1_makeNew 0 6 rfl) (lxX1_makeNew 0 7 rfl) (lxX1_makeNew 0 8 rfl)
set_option maxRecDepth 20000 in
theorem dX1_makeNew_9 : decode cX1_makeNew 9 = .ok (.invokevirtual 30, 3) := dc_182 0 30 (lxX1_makeNew 0 9 rfl) (lxX1_makeNew 0 10 rfl) (lxX1_makeNew 0 11 rfl)
set_option maxRecDepth 20000 in
theorem dX1_makeNew_12 : decode cX1_makeNew 12 = .ok (.aload_n 0, 1) := dc_42 (lxX1_makeNew 0 12 rfl)
set_option maxRecDepth 20000 in
theorem dX1_makeNew_13 : decode cX1_makeNew 13 = .ok (.getfield 20, 3) := dc_180 0 20 (lxX1_makeNew 0 13 rfl) (lxX1_makeNew 0 14 rfl) (lxX1_makeNew 0 15 rfl)
set_option maxRecDepth 20000 in
theorem dX1_makeNew_16 : decode cX1_makeNew 16 = .ok (.invokevirtual 30, 3) := dc_182 0 30 (lxX1_makeNew 1 0 rfl) (lxX1_makeNew 1 1 rfl) (lxX1_makeNew 1 2 rfl)
set_option maxRecDepth 20000 in
theorem dX1_makeNew_19 : decode cX1_makeNew 19 = .ok (.aload_n 0, 1) := dc_42 (lxX1_makeNew 1 3 rfl)
set_option maxRecDepth 20000 in
theorem dX1_makeNew_20 : decode cX1_makeNew 20 = .ok (.getfield 23, 3) := dc_180 0 23 (lxX1_makeNew 1 4 rfl) (lxX1_makeNew 1 5 rfl) (lxX1_makeNew 1 6 rfl)
set_option maxRecDepth 20000 in
theorem dX1_makeNew_23 : decode cX1_makeNew 23 = .ok (.invokevirtual 30, 3) := dc_182 0 30 (lxX1_makeNew 1 7 rfl) (lxX1_makeNew 1 8 rfl) (lxX1_makeNew 1 9 rfl)
set_option maxRecDepth 20000 in
theorem dX1_makeNew_26 : decode cX1_makeNew 26 = .ok (.return_, 1) := dc_177 (lxX1_makeNew 1 10 rfl)
noncomputable def sgX1_takeIn : List (List Cond) := [[.code yX1_takeIn cX1_takeIn 2 (some .boolean)], [.fieldLink RX1 14 "Sashwords$Pipe" "holds" "LSashwords$Script;", .fieldLink RX1 26 "Sashwords$Pipe" "width" "I", .fieldLink RX1 20 "Sashwords$Pipe" "sent" "LSashwords$Script;", .methodLink RX1 33 yX2_size, .instanceMethod yX2_size, .selects RX2 yX2_size yX2_size, .initialized RX2, .code yX2_size cX2_size 1 (some .int), .fieldLink RX2 21 "Sashwords$Script" "length" "I", .methodLink RX1 37 yX2_isFull, .instanceMethod yX2_isFull, .selects RX2 yX2_isFull yX2_isFull, .code yX2_isFull cX2_isFull 1 (some .boolean), .fieldLink RX2 15 "Sashwords$Script" "signs" "[C", .methodLink RX1 41 yX2_add, .instanceMethod yX2_add, .selects RX2 yX2_add yX2_add, .code yX2_add cX2_add 2 none], wsX10, wsX20]
theorem seX1_takeIn : sgX1_takeIn.flatten = wsX1_takeIn := by simp only [sgX1_takeIn, wsX1_takeIn, List.flatten_cons, List.flatten_nil, List.append_assoc, List.append_nil, List.cons_append, List.nil_append]
set_option maxRecDepth 20000 in
theorem ggX1_takeIn_X2_size : GoodIn wsX1_takeIn wsX2_size := goodIn_s seX1_takeIn _ [pq_1_7, pq_1_8, pq_3_0, pq_3_1] (by rfl) (by decide +kernel)
set_option maxRecDepth 20000 in
theorem gX1_takeIn_X2_size : GoodIn wsX1_takeIn (wsV RX1 33 RX2 yX2_size wsX2_size) := goodIn_app (goodIn_s seX1_takeIn _ [pq_1_3, pq_1_4, pq_1_5, pq_1_6] (by rfl) (by decide +kernel)) ggX1_takeIn_X2_size
set_option maxRecDepth 20000 in
theorem ggX1_takeIn_X2_isFull : GoodIn wsX1_takeIn wsX2_isFull := goodIn_s seX1_takeIn _ [pq_1_12, pq_1_8, pq_1_13, pq_3_0, pq_3_1] (by rfl) (by decide +kernel)
set_option maxRecDepth 20000 in
theorem gX1_takeIn_X2_isFull : GoodIn wsX1_takeIn (wsV RX1 37 RX2 yX2_isFull wsX2_isFull) := goodIn_app (goodIn_s seX1_takeIn _ [pq_1_9, pq_1_10, pq_1_11, pq_1_6] (by rfl) (by decide +kernel)) ggX1_takeIn_X2_isFull
set_option maxRecDepth 20000 in
theorem ggX1_takeIn_X2_add : GoodIn wsX1_takeIn wsX2_add := goodIn_s seX1_takeIn _ [pq_1_17, pq_1_8, pq_1_13, pq_3_0, pq_3_1] (by rfl) (by decide +kernel)
set_option maxRecDepth 20000 in
theorem gX1_takeIn_X2_add : GoodIn wsX1_takeIn (wsV RX1 41 RX2 yX2_add wsX2_add) := goodIn_app (goodIn_s seX1_takeIn _ [pq_1_14, pq_1_15, pq_1_16, pq_1_6] (by rfl) (by decide +kernel)) ggX1_takeIn_X2_add
def lb_sgX1_takeIn : List (List UInt8) := [[42, 180, 0, 14, 182, 0, 33, 42, 180, 0, 26, 162, 0, 13, 42, 180], [0, 20, 182, 0, 37, 153, 0, 5, 3, 172, 42, 180, 0, 14, 27, 182], [0, 41, 42, 180, 0, 20, 27, 182, 0, 41, 4, 172]]
set_option maxRecDepth 100000 in
theorem lb_seX1_takeIn : cX1_takeIn.data.toList = lb_sgX1_takeIn.flatten := by decide +kernel
theorem lb_lnX1_takeIn : ∀ s ∈ lb_sgX1_takeIn.dropLast, s.length = 16 := by decide +kernel
theorem lxX1_takeIn (k j : Nat) {b : UInt8} (h : (lb_sgX1_takeIn[k]?).bind (fun s => s[j]?) = some b) : lb_at cX1_takeIn (16 * k + j) b := by
  unfold lb_at
  rw [lb_seX1_takeIn]
  exact lb_flat 16 lb_sgX1_takeIn k j b lb_lnX1_takeIn h
set_option maxRecDepth 20000 in
theorem dX1_takeIn_0 : decode cX1_takeIn 0 = .ok (.aload_n 0, 1) := dc_42 (lxX1_takeIn 0 0 rfl)
set_option maxRecDepth 20000 in
theorem dX1_takeIn_1 : decode cX1_takeIn 1 = .ok (.getfield 14, 3) := dc_180 0 14 (lxX1_takeIn 0 1 rfl) (lxX1_takeIn 0 2 rfl) (lxX1_takeIn 0 3 rfl)
set_option maxRecDepth 20000 in
theorem dX1_takeIn_4 : decode cX1_takeIn 4 = .ok (.invokevirtual 33, 3) := dc_182 0 33 (lxX1_takeIn 0 4 rfl) (lxX1_takeIn 0 5 rfl) (lxX1_takeIn 0 6 rfl)
set_option maxRecDepth 20000 in
theorem dX1_takeIn_7 : decode cX1_takeIn 7 = .ok (.aload_n 0, 1) := dc_42 (lxX1_takeIn 0 7 rfl)
set_option maxRecDepth 20000 in
theorem dX1_takeIn_8 : decode cX1_takeIn 8 = .ok (.getfield 26, 3) := dc_180 0 26 (lxX1_takeIn 0 8 rfl) (lxX1_takeIn 0 9 rfl) (lxX1_takeIn 0 10 rfl)
set_option maxRecDepth 20000 in
theorem dX1_takeIn_11 : decode cX1_takeIn 11 = .ok (.if_icmp .ge 13, 3) := dc_162 0 13 (lxX1_takeIn 0 11 rfl) (lxX1_takeIn 0 12 rfl) (lxX1_takeIn 0 13 rfl)
set_option maxRecDepth 20000 in
theorem dX1_takeIn_14 : decode cX1_takeIn 14 = .ok (.aload_n 0, 1) := dc_42 (lxX1_takeIn 0 14 rfl)
set_option maxRecDepth 20000 in
theorem dX1_takeIn_15 : decode cX1_takeIn 15 = .ok (.getfield 20, 3) := dc_180 0 20 (lxX1_takeIn 0 15 rfl) (lxX1_takeIn 1 0 rfl) (lxX1_takeIn 1 1 rfl)
set_option maxRecDepth 20000 in
theorem dX1_takeIn_18 : decode cX1_takeIn 18 = .ok (.invokevirtual 37, 3) := dc_182 0 37 (lxX1_takeIn 1 2 rfl) (lxX1_takeIn 1 3 rfl) (lxX1_takeIn 1 4 rfl)
set_option maxRecDepth 20000 in
theorem dX1_takeIn_21 : decode cX1_takeIn 21 = .ok (.ifCond .eq 5, 3) := dc_153 0 5 (lxX1_takeIn 1 5 rfl) (lxX1_takeIn 1 6 rfl) (lxX1_takeIn 1 7 rfl)
set_option maxRecDepth 20000 in
theorem dX1_takeIn_24 : decode cX1_takeIn 24 = .ok (.iconst 0, 1) := dc_3 (lxX1_takeIn 1 8 rfl)
set_option maxRecDepth 20000 in
theorem dX1_takeIn_25 : decode cX1_takeIn 25 = .ok (.ireturn, 1) := dc_172 (lxX1_takeIn 1 9 rfl)
set_option maxRecDepth 20000 in
theorem dX1_takeIn_26 : decode cX1_takeIn 26 = .ok (.aload_n 0, 1) := dc_42 (lxX1_takeIn 1 10 rfl)
set_option maxRecDepth 20000 in
theorem dX1_takeIn_27 : decode cX1_takeIn 27 = .ok (.getfield 14, 3) := dc_180 0 14 (lxX1_takeIn 1 11 rfl) (lxX1_takeIn 1 12 rfl) (lxX1_takeIn 1 13 rfl)
set_option maxRecDepth 20000 in
theorem dX1_takeIn_30 : decode cX1_takeIn 30 = .ok (.iload_n 1, 1) := dc_27 (lxX1_takeIn 1 14 rfl)
set_option maxRecDepth 20000 in
theorem dX1_takeIn_31 : decode cX1_takeIn 31 = .ok (.invokevirtual 41, 3) := dc_182 0 41 (lxX1_takeIn 1 15 rfl) (lxX1_takeIn 2 0 rfl) (lxX1_takeIn 2 1 rfl)
set_option maxRecDepth 20000 in
theorem dX1_takeIn_34 : decode cX1_takeIn 34 = .ok (.aload_n 0, 1) := dc_42 (lxX1_takeIn 2 2 rfl)
set_option maxRecDepth 20000 in
theorem dX1_takeIn_35 : decode cX1_takeIn 35 = .ok (.getfield 20, 3) := dc_180 0 20 (lxX1_takeIn 2 3 rfl) (lxX1_takeIn 2 4 rfl) (lxX1_takeIn 2 5 rfl)
set_option maxRecDepth 20000 in
theorem dX1_takeIn_38 : decode cX1_takeIn 38 = .ok (.iload_n 1, 1) := dc_27 (lxX1_takeIn 2 6 rfl)
set_option maxRecDepth 20000 in
theorem dX1_takeIn_39 : decode cX1_takeIn 39 = .ok (.invokevirtual 41, 3) := dc_182 0 41 (lxX1_takeIn 2 7 rfl) (lxX1_takeIn 2 8 rfl) (lxX1_takeIn 2 9 rfl)
set_option maxRecDepth 20000 in
theorem dX1_takeIn_42 : decode cX1_takeIn 42 = .ok (.iconst 1, 1) := dc_4 (lxX1_takeIn 2 10 rfl)
set_option maxRecDepth 20000 in
theorem dX1_takeIn_43 : decode cX1_takeIn 43 = .ok (.ireturn, 1) := dc_172 (lxX1_takeIn 2 11 rfl)
noncomputable def sgX1_giveOut : List (List Cond) := [[.code yX1_giveOut cX1_giveOut 2 (some .int)], wsX1_giveOut_r1, wsX1_giveOut_r2, wsX10, wsX20]
theorem seX1_giveOut : sgX1_giveOut.flatten = wsX1_giveOut := by simp only [sgX1_giveOut, wsX1_giveOut, List.flatten_cons, List.flatten_nil, List.append_assoc, List.append_nil, List.cons_append, List.nil_append]
set_option maxRecDepth 20000 in
theorem ggX1_giveOut_X2_takeFirst : GoodIn wsX1_giveOut wsX2_takeFirst := goodIn_s seX1_giveOut _ [pq_1_6, pq_1_7, pq_1_8, pq_1_9, pq_1_10, pq_1_11, pq_1_12, pq_1_13, pq_1_14, pq_1_5, pq_1_15, pq_1_16, pq_1_17, pq_1_18, pq_1_19, pq_1_20, pq_4_0, pq_4_1] (by rfl) (by decide +kernel)
set_option maxRecDepth 20000 in
theorem gX1_giveOut_X2_takeFirst : GoodIn wsX1_giveOut (wsV RX1 44 RX2 yX2_takeFirst wsX2_takeFirst) := goodIn_app (goodIn_s seX1_giveOut _ [pq_1_2, pq_1_3, pq_1_4, pq_1_5] (by rfl) (by decide +kernel)) ggX1_giveOut_X2_takeFirst
set_option maxRecDepth 20000 in
theorem ggX1_giveOut_X2_add : GoodIn wsX1_giveOut wsX2_add := goodIn_s seX1_giveOut _ [pq_2_0, pq_1_7, pq_1_16, pq_4_0, pq_4_1] (by rfl) (by decide +kernel)
set_option maxRecDepth 20000 in
theorem gX1_giveOut_X2_add : GoodIn wsX1_giveOut (wsV RX1 41 RX2 yX2_add wsX2_add) := goodIn_app (goodIn_s seX1_giveOut _ [pq_1_21, pq_1_22, pq_1_23, pq_1_5] (by rfl) (by decide +kernel)) ggX1_giveOut_X2_add
def lb_sgX1_giveOut : List (List UInt8) := [[42, 180, 0, 14, 182, 0, 44, 60, 42, 180, 0, 23, 27, 182, 0, 41], [27, 172]]
set_option maxRecDepth 100000 in
theorem lb_seX1_giveOut : cX1_giveOut.data.toList = lb_sgX1_giveOut.flatten := by decide +kernel
theorem lb_lnX1_giveOut : ∀ s ∈ lb_sgX1_giveOut.dropLast, s.length = 16 := by decide +kernel
theorem lxX1_giveOut (k j : Nat) {b : UInt8} (h : (lb_sgX1_giveOut[k]?).bind (fun s => s[j]?) = some b) : lb_at cX1_giveOut (16 * k + j) b := by
  unfold lb_at
  rw [lb_seX1_giveOut]
  exact lb_flat 16 lb_sgX1_giveOut k j b lb_lnX1_giveOut h
set_option maxRecDepth 20000 in
theorem dX1_giveOut_0 : decode cX1_giveOut 0 = .ok (.aload_n 0, 1) := dc_42 (lxX1_giveOut 0 0 rfl)
set_option maxRecDepth 20000 in
theorem dX1_giveOut_1 : decode cX1_giveOut 1 = .ok (.getfield 14, 3) := dc_180 0 14 (lxX1_giveOut 0 1 rfl) (lxX1_giveOut 0 2 rfl) (lxX1_giveOut 0 3 rfl)
set_option maxRecDepth 20000 in
theorem dX1_giveOut_4 : decode cX1_giveOut 4 = .ok (.invokevirtual 44, 3) := dc_182 0 44 (lxX1_giveOut 0 4 rfl) (lxX1_giveOut 0 5 rfl) (lxX1_giveOut 0 6 rfl)
set_option maxRecDepth 20000 in
theorem dX1_giveOut_7 : decode cX1_giveOut 7 = .ok (.istore_n 1, 1) := dc_60 (lxX1_giveOut 0 7 rfl)
set_option maxRecDepth 20000 in
theorem dX1_giveOut_8 : decode cX1_giveOut 8 = .ok (.aload_n 0, 1) := dc_42 (lxX1_giveOut 0 8 rfl)
set_option maxRecDepth 20000 in
theorem dX1_giveOut_9 : decode cX1_giveOut 9 = .ok (.getfield 23, 3) := dc_180 0 23 (lxX1_giveOut 0 9 rfl) (lxX1_giveOut 0 10 rfl) (lxX1_giveOut 0 11 rfl)
set_option maxRecDepth 20000 in
theorem dX1_giveOut_12 : decode cX1_giveOut 12 = .ok (.iload_n 1, 1) := dc_27 (lxX1_giveOut 0 12 rfl)
set_option maxRecDepth 20000 in
theorem dX1_giveOut_13 : decode cX1_giveOut 13 = .ok (.invokevirtual 41, 3) := dc_182 0 41 (lxX1_giveOut 0 13 rfl) (lxX1_giveOut 0 14 rfl) (lxX1_giveOut 0 15 rfl)
set_option maxRecDepth 20000 in
theorem dX1_giveOut_16 : decode cX1_giveOut 16 = .ok (.iload_n 1, 1) := dc_27 (lxX1_giveOut 1 0 rfl)
set_option maxRecDepth 20000 in
theorem dX1_giveOut_17 : decode cX1_giveOut 17 = .ok (.ireturn, 1) := dc_172 (lxX1_giveOut 1 1 rfl)
noncomputable def sgX1_isWhole : List (List Cond) := [[.code yX1_isWhole cX1_isWhole 1 (some .boolean)], wsX1_isWhole_r1, wsX1_isWhole_r2, wsX10, wsX20, wsX50]
theorem seX1_isWhole : sgX1_isWhole.flatten = wsX1_isWhole := by simp only [sgX1_isWhole, wsX1_isWhole, List.flatten_cons, List.flatten_nil, List.append_assoc, List.append_nil, List.cons_append, List.nil_append]
set_option maxRecDepth 20000 in
theorem ggX1_isWhole_X2_size : GoodIn wsX1_isWhole wsX2_size := goodIn_s seX1_isWhole _ [pq_1_7, pq_1_8, pq_4_0, pq_4_1] (by rfl) (by decide +kernel)
set_option maxRecDepth 20000 in
theorem gX1_isWhole_X2_size : GoodIn wsX1_isWhole (wsV RX1 33 RX2 yX2_size wsX2_size) := goodIn_app (goodIn_s seX1_isWhole _ [pq_1_3, pq_1_4, pq_1_5, pq_1_6] (by rfl) (by decide +kernel)) ggX1_isWhole_X2_size
set_option maxRecDepth 20000 in
theorem ggX1_isWhole_X6_matches : GoodIn wsX1_isWhole wsX6_matches := goodIn_s seX1_isWhole _ [pq_1_11, pq_1_12, pq_1_13, pq_1_14, pq_1_4, pq_1_6, pq_1_7, pq_1_8, pq_1_15, pq_1_16, pq_1_17, pq_1_18, pq_1_19, pq_1_20, pq_1_21, pq_1_22, pq_1_23, pq_2_0, pq_2_1, pq_2_2, pq_2_3, pq_2_4, pq_2_5, pq_2_6, pq_2_7, pq_2_8, pq_2_9, pq_2_10, pq_2_11, pq_4_0, pq_4_1, pq_5_0, pq_5_1, pq_5_2, pq_5_3, pq_5_4, pq_5_5] (by rfl) (by decide +kernel)
set_option maxRecDepth 20000 in
theorem gX1_isWhole_X6_matches_n47 : GoodIn wsX1_isWhole (wsX6_matches) := ggX1_isWhole_X6_matches
def lb_sgX1_isWhole : List (List UInt8) := [[42, 180, 0, 23, 182, 0, 33, 42, 180, 0, 14, 182, 0, 33, 96, 42], [180, 0, 20, 182, 0, 33, 160, 0, 59, 42, 180, 0, 23, 3, 42, 180], [0, 23, 182, 0, 33, 42, 180, 0, 20, 3, 184, 0, 47, 153, 0, 36], [42, 180, 0, 14, 3, 42, 180, 0, 14, 182, 0, 33, 42, 180, 0, 20], [42, 180, 0, 23, 182, 0, 33, 184, 0, 47, 153, 0, 7, 4, 167, 0], [4, 3, 172]]
set_option maxRecDepth 100000 in
theorem lb_seX1_isWhole : cX1_isWhole.data.toList = lb_sgX1_isWhole.flatten := by decide +kernel
theorem lb_lnX1_isWhole : ∀ s ∈ lb_sgX1_isWhole.dropLast, s.length = 16 := by decide +kernel
theorem lxX1_isWhole (k j : Nat) {b : UInt8} (h : (lb_sgX1_isWhole[k]?).bind (fun s => s[j]?) = some b) : lb_at cX1_isWhole (16 * k + j) b := by
  unfold lb_at
  rw [lb_seX1_isWhole]
  exact lb_flat 16 lb_sgX1_isWhole k j b lb_lnX1_isWhole h
set_option maxRecDepth 20000 in
theorem dX1_isWhole_0 : decode cX1_isWhole 0 = .ok (.aload_n 0, 1) := dc_42 (lxX1_isWhole 0 0 rfl)
set_option maxRecDepth 20000 in
theorem dX1_isWhole_1 : decode cX1_isWhole 1 = .ok (.getfield 23, 3) := dc_180 0 23 (lxX1_isWhole 0 1 rfl) (lxX1_isWhole 0 2 rfl) (lxX1_isWhole 0 3 rfl)
set_option maxRecDepth 20000 in
theorem dX1_isWhole_4 : decode cX1_isWhole 4 = .ok (.invokevirtual 33, 3) := dc_182 0 33 (lxX1_isWhole 0 4 rfl) (lxX1_isWhole 0 5 rfl) (lxX1_isWhole 0 6 rfl)
set_option maxRecDepth 20000 in
theorem dX1_isWhole_7 : decode cX1_isWhole 7 = .ok (.aload_n 0, 1) := dc_42 (lxX1_isWhole 0 7 rfl)
set_option maxRecDepth 20000 in
theorem dX1_isWhole_8 : decode cX1_isWhole 8 = .ok (.getfield 14, 3) := dc_180 0 14 (lxX1_isWhole 0 8 rfl) (lxX1_isWhole 0 9 rfl) (lxX1_isWhole 0 10 rfl)
set_option maxRecDepth 20000 in
theorem dX1_isWhole_11 : decode cX1_isWhole 11 = .ok (.invokevirtual 33, 3) := dc_182 0 33 (lxX1_isWhole 0 11 rfl) (lxX1_isWhole 0 12 rfl) (lxX1_isWhole 0 13 rfl)
set_option maxRecDepth 20000 in
theorem dX1_isWhole_14 : decode cX1_isWhole 14 = .ok (.iadd, 1) := dc_96 (lxX1_isWhole 0 14 rfl)
set_option maxRecDepth 20000 in
theorem dX1_isWhole_15 : decode cX1_isWhole 15 = .ok (.aload_n 0, 1) := dc_42 (lxX1_isWhole 0 15 rfl)
set_option maxRecDepth 20000 in
theorem dX1_isWhole_16 : decode cX1_isWhole 16 = .ok (.getfield 20, 3) := dc_180 0 20 (lxX1_isWhole 1 0 rfl) (lxX1_isWhole 1 1 rfl) (lxX1_isWhole 1 2 rfl)
set_option maxRecDepth 20000 in
theorem dX1_isWhole_19 : decode cX1_isWhole 19 = .ok (.invokevirtual 33, 3) := dc_182 0 33 (lxX1_isWhole 1 3 rfl) (lxX1_isWhole 1 4 rfl) (lxX1_isWhole 1 5 rfl)
set_option maxRecDepth 20000 in
theorem dX1_isWhole_22 : decode cX1_isWhole 22 = .ok (.if_icmp .ne 59, 3) := dc_160 0 59 (lxX1_isWhole 1 6 rfl) (lxX1_isWhole 1 7 rfl) (lxX1_isWhole 1 8 rfl)
set_option maxRecDepth 20000 in
theorem dX1_isWhole_25 : decode cX1_isWhole 25 = .ok (.aload_n 0, 1) := dc_42 (lxX1_isWhole 1 9 rfl)
set_option maxRecDepth 20000 in
theorem dX1_isWhole_26 : decode cX1_isWhole 26 = .ok (.getfield 23, 3) := dc_180 0 23 (lxX1_isWhole 1 10 rfl) (lxX1_isWhole 1 11 rfl) (lxX1_isWhole 1 12 rfl)
set_option maxRecDepth 20000 in
theorem dX1_isWhole_29 : decode cX1_isWhole 29 = .ok (.iconst 0, 1) := dc_3 (lxX1_isWhole 1 13 rfl)
set_option maxRecDepth 20000 in
theorem dX1_isWhole_30 : decode cX1_isWhole 30 = .ok (.aload_n 0, 1) := dc_42 (lxX1_isWhole 1 14 rfl)
set_option maxRecDepth 20000 in
theorem dX1_isWhole_31 : decode cX1_isWhole 31 = .ok (.getfield 23, 3) := dc_180 0 23 (lxX1_isWhole 1 15 rfl) (lxX1_isWhole 2 0 rfl) (lxX1_isWhole 2 1 rfl)
set_option maxRecDepth 20000 in
theorem dX1_isWhole_34 : decode cX1_isWhole 34 = .ok (.invokevirtual 33, 3) := dc_182 0 33 (lxX1_isWhole 2 2 rfl) (lxX1_isWhole 2 3 rfl) (lxX1_isWhole 2 4 rfl)
set_option maxRecDepth 20000 in
theorem dX1_isWhole_37 : decode cX1_isWhole 37 = .ok (.aload_n 0, 1) := dc_42 (lxX1_isWhole 2 5 rfl)
set_option maxRecDepth 20000 in
theorem dX1_isWhole_38 : decode cX1_isWhole 38 = .ok (.getfield 20, 3) := dc_180 0 20 (lxX1_isWhole 2 6 rfl) (lxX1_isWhole 2 7 rfl) (lxX1_isWhole 2 8 rfl)
set_option maxRecDepth 20000 in
theorem dX1_isWhole_41 : decode cX1_isWhole 41 = .ok (.iconst 0, 1) := dc_3 (lxX1_isWhole 2 9 rfl)
set_option maxRecDepth 20000 in
theorem dX1_isWhole_42 : decode cX1_isWhole 42 = .ok (.invokestatic 47, 3) := dc_184 0 47 (lxX1_isWhole 2 10 rfl) (lxX1_isWhole 2 11 rfl) (lxX1_isWhole 2 12 rfl)
set_option maxRecDepth 20000 in
theorem dX1_isWhole_45 : decode cX1_isWhole 45 = .ok (.ifCond .eq 36, 3) := dc_153 0 36 (lxX1_isWhole 2 13 rfl) (lxX1_isWhole 2 14 rfl) (lxX1_isWhole 2 15 rfl)
set_option maxRecDepth 20000 in
theorem dX1_isWhole_48 : decode cX1_isWhole 48 = .ok (.aload_n 0, 1) := dc_42 (lxX1_isWhole 3 0 rfl)
set_option maxRecDepth 20000 in
theorem dX1_isWhole_49 : decode cX1_isWhole 49 = .ok (.getfield 14, 3) := dc_180 0 14 (lxX1_isWhole 3 1 rfl) (lxX1_isWhole 3 2 rfl) (lxX1_isWhole 3 3 rfl)
set_option maxRecDepth 20000 in
theorem dX1_isWhole_52 : decode cX1_isWhole 52 = .ok (.iconst 0, 1) := dc_3 (lxX1_isWhole 3 4 rfl)
set_option maxRecDepth 20000 in
theorem dX1_isWhole_53 : decode cX1_isWhole 53 = .ok (.aload_n 0, 1) := dc_42 (lxX1_isWhole 3 5 rfl)
set_option maxRecDepth 20000 in
theorem dX1_isWhole_54 : decode cX1_isWhole 54 = .ok (.getfield 14, 3) := dc_180 0 14 (lxX1_isWhole 3 6 rfl) (lxX1_isWhole 3 7 rfl) (lxX1_isWhole 3 8 rfl)
set_option maxRecDepth 20000 in
theorem dX1_isWhole_57 : decode cX1_isWhole 57 = .ok (.invokevirtual 33, 3) := dc_182 0 33 (lxX1_isWhole 3 9 rfl) (lxX1_isWhole 3 10 rfl) (lxX1_isWhole 3 11 rfl)
set_option maxRecDepth 20000 in
theorem dX1_isWhole_60 : decode cX1_isWhole 60 = .ok (.aload_n 0, 1) := dc_42 (lxX1_isWhole 3 12 rfl)
set_option maxRecDepth 20000 in
theorem dX1_isWhole_61 : decode cX1_isWhole 61 = .ok (.getfield 20, 3) := dc_180 0 20 (lxX1_isWhole 3 13 rfl) (lxX1_isWhole 3 14 rfl) (lxX1_isWhole 3 15 rfl)
set_option maxRecDepth 20000 in
theorem dX1_isWhole_64 : decode cX1_isWhole 64 = .ok (.aload_n 0, 1) := dc_42 (lxX1_isWhole 4 0 rfl)
set_option maxRecDepth 20000 in
theorem dX1_isWhole_65 : decode cX1_isWhole 65 = .ok (.getfield 23, 3) := dc_180 0 23 (lxX1_isWhole 4 1 rfl) (lxX1_isWhole 4 2 rfl) (lxX1_isWhole 4 3 rfl)
set_option maxRecDepth 20000 in
theorem dX1_isWhole_68 : decode cX1_isWhole 68 = .ok (.invokevirtual 33, 3) := dc_182 0 33 (lxX1_isWhole 4 4 rfl) (lxX1_isWhole 4 5 rfl) (lxX1_isWhole 4 6 rfl)
set_option maxRecDepth 20000 in
theorem dX1_isWhole_71 : decode cX1_isWhole 71 = .ok (.invokestatic 47, 3) := dc_184 0 47 (lxX1_isWhole 4 7 rfl) (lxX1_isWhole 4 8 rfl) (lxX1_isWhole 4 9 rfl)
set_option maxRecDepth 20000 in
theorem dX1_isWhole_74 : decode cX1_isWhole 74 = .ok (.ifCond .eq 7, 3) := dc_153 0 7 (lxX1_isWhole 4 10 rfl) (lxX1_isWhole 4 11 rfl) (lxX1_isWhole 4 12 rfl)
set_option maxRecDepth 20000 in
theorem dX1_isWhole_77 : decode cX1_isWhole 77 = .ok (.iconst 1, 1) := dc_4 (lxX1_isWhole 4 13 rfl)
set_option maxRecDepth 20000 in
theorem dX1_isWhole_78 : decode cX1_isWhole 78 = .ok (.goto 4, 3) := dc_167 0 4 (lxX1_isWhole 4 14 rfl) (lxX1_isWhole 4 15 rfl) (lxX1_isWhole 5 0 rfl)
set_option maxRecDepth 20000 in
theorem dX1_isWhole_81 : decode cX1_isWhole 81 = .ok (.iconst 0, 1) := dc_3 (lxX1_isWhole 5 1 rfl)
set_option maxRecDepth 20000 in
theorem dX1_isWhole_82 : decode cX1_isWhole 82 = .ok (.ireturn, 1) := dc_172 (lxX1_isWhole 5 2 rfl)
end
section
noncomputable def sgX2_init : List (List Cond) := [[.code yX2_init cX2_init 2 none], [.methodLink RX2 9 Lib.Math.max.name, .static Lib.Math.max.name, .initialized "java/lang/Math", .code Lib.Math.max.name Lib.Math.max.code 2 (some .int), .arrayClass .char, .fieldLink RX2 15 "Sashwords$Script" "signs" "[C", .instanceMethod yX4_init, .initialized RX4, .code yX4_init cX4_init 1 none, .methodLink RX4 1 objectInit, .instanceMethod objectInit, .code objectInit ⟨#[0xb1]⟩ 1 none], wsX20]
theorem seX2_init : sgX2_init.flatten = wsX2_init := by simp only [sgX2_init, wsX2_init, List.flatten_cons, List.flatten_nil, List.append_assoc, List.append_nil, List.cons_append, List.nil_append]
set_option maxRecDepth 20000 in
theorem ggX2_init_X4_init : GoodIn wsX2_init wsX4_init := goodIn_s seX2_init _ [pq_1_8, pq_1_9, pq_1_10, pq_1_11] (by rfl) (by decide +kernel)
set_option maxRecDepth 20000 in
theorem gX2_init_X4_init_n3 : GoodIn wsX2_init (wsX4_init) := ggX2_init_X4_init
def lb_sgX2_init : List (List UInt8) := [[42, 183, 0, 3, 42, 27, 3, 184, 0, 9, 188, 5, 181, 0, 15, 177]]
set_option maxRecDepth 100000 in
theorem lb_seX2_init : cX2_init.data.toList = lb_sgX2_init.flatten := by decide +kernel
theorem lb_lnX2_init : ∀ s ∈ lb_sgX2_init.dropLast, s.length = 16 := by decide +kernel
theorem lxX2_init (k j : Nat) {b : UInt8} (h : (lb_sgX2_init[k]?).bind (fun s => s[j]?) = some b) : lb_at cX2_init (16 * k + j) b := by
  unfold lb_at
  rw [lb_seX2_init]
  exact lb_flat 16 lb_sgX2_init k j b lb_lnX2_init h
set_option maxRecDepth 20000 in
theorem dX2_init_0 : decode cX2_init 0 = .ok (.aload_n 0, 1) := dc_42 (lxX2_init 0 0 rfl)
set_option maxRecDepth 20000 in
theorem dX2_init_1 : decode cX2_init 1 = .ok (.invokespecial 3, 3) := dc_183 0 3 (lxX2_init 0 1 rfl) (lxX2_init 0 2 rfl) (lxX2_init 0 3 rfl)
set_option maxRecDepth 20000 in
theorem dX2_init_4 : decode cX2_init 4 = .ok (.aload_n 0, 1) := dc_42 (lxX2_init 0 4 rfl)
set_option maxRecDepth 20000 in
theorem dX2_init_5 : decode cX2_init 5 = .ok (.iload_n 1, 1) := dc_27 (lxX2_init 0 5 rfl)
set_option maxRecDepth 20000 in
theorem dX2_init_6 : decode cX2_init 6 = .ok (.iconst 0, 1) := dc_3 (lxX2_init 0 6 rfl)
set_option maxRecDepth 20000 in
theorem dX2_init_7 : decode cX2_init 7 = .ok (.invokestatic 9, 3) := dc_184 0 9 (lxX2_init 0 7 rfl) (lxX2_init 0 8 rfl) (lxX2_init 0 9 rfl)
theorem dX2_init_10 : decode cX2_init 10 = .ok (.newarray .char, 2) := by decide +kernel
set_option maxRecDepth 20000 in
theorem dX2_init_12 : decode cX2_init 12 = .ok (.putfield 15, 3) := dc_181 0 15 (lxX2_init 0 12 rfl) (lxX2_init 0 13 rfl) (lxX2_init 0 14 rfl)
set_option maxRecDepth 20000 in
theorem dX2_init_15 : decode cX2_init 15 = .ok (.return_, 1) := dc_177 (lxX2_init 0 15 rfl)
set_option maxRecDepth 20000 in
theorem dX2_size_0 : decode cX2_size 0 = .ok (.aload_n 0, 1) := dc_42 rfl
set_option maxRecDepth 20000 in
theorem dX2_size_1 : decode cX2_size 1 = .ok (.getfield 21, 3) := dc_180 0 21 rfl rfl rfl
set_option maxRecDepth 20000 in
theorem dX2_size_4 : decode cX2_size 4 = .ok (.ireturn, 1) := dc_172 rfl
def lb_sgX2_at : List (List UInt8) := [[27, 155, 0, 20, 27, 42, 180, 0, 21, 162, 0, 12, 27, 42, 180, 0], [15, 190, 161, 0, 8, 16, 247, 167, 0, 9, 42, 180, 0, 15, 27, 52], [172]]
set_option maxRecDepth 100000 in
theorem lb_seX2_at : cX2_at.data.toList = lb_sgX2_at.flatten := by decide +kernel
theorem lb_lnX2_at : ∀ s ∈ lb_sgX2_at.dropLast, s.length = 16 := by decide +kernel
theorem lxX2_at (k j : Nat) {b : UInt8} (h : (lb_sgX2_at[k]?).bind (fun s => s[j]?) = some b) : lb_at cX2_at (16 * k + j) b := by
  unfold lb_at
  rw [lb_seX2_at]
  exact lb_flat 16 lb_sgX2_at k j b lb_lnX2_at h
set_option maxRecDepth 20000 in
theorem dX2_at_0 : decode cX2_at 0 = .ok (.iload_n 1, 1) := dc_27 (lxX2_at 0 0 rfl)
set_option maxRecDepth 20000 in
theorem dX2_at_1 : decode cX2_at 1 = .ok (.ifCond .lt 20, 3) := dc_155 0 20 (lxX2_at 0 1 rfl) (lxX2_at 0 2 rfl) (lxX2_at 0 3 rfl)
set_option maxRecDepth 20000 in
theorem dX2_at_4 : decode cX2_at 4 = .ok (.iload_n 1, 1) := dc_27 (lxX2_at 0 4 rfl)
set_option maxRecDepth 20000 in
theorem dX2_at_5 : decode cX2_at 5 = .ok (.aload_n 0, 1) := dc_42 (lxX2_at 0 5 rfl)
set_option maxRecDepth 20000 in
theorem dX2_at_6 : decode cX2_at 6 = .ok (.getfield 21, 3) := dc_180 0 21 (lxX2_at 0 6 rfl) (lxX2_at 0 7 rfl) (lxX2_at 0 8 rfl)
set_option maxRecDepth 20000 in
theorem dX2_at_9 : decode cX2_at 9 = .ok (.if_icmp .ge 12, 3) := dc_162 0 12 (lxX2_at 0 9 rfl) (lxX2_at 0 10 rfl) (lxX2_at 0 11 rfl)
set_option maxRecDepth 20000 in
theorem dX2_at_12 : decode cX2_at 12 = .ok (.iload_n 1, 1) := dc_27 (lxX2_at 0 12 rfl)
set_option maxRecDepth 20000 in
theorem dX2_at_13 : decode cX2_at 13 = .ok (.aload_n 0, 1) := dc_42 (lxX2_at 0 13 rfl)
set_option maxRecDepth 20000 in
theorem dX2_at_14 : decode cX2_at 14 = .ok (.getfield 15, 3) := dc_180 0 15 (lxX2_at 0 14 rfl) (lxX2_at 0 15 rfl) (lxX2_at 1 0 rfl)
set_option maxRecDepth 20000 in
theorem dX2_at_17 : decode cX2_at 17 = .ok (.arraylength, 1) := dc_190 (lxX2_at 1 1 rfl)
set_option maxRecDepth 20000 in
theorem dX2_at_18 : decode cX2_at 18 = .ok (.if_icmp .lt 8, 3) := dc_161 0 8 (lxX2_at 1 2 rfl) (lxX2_at 1 3 rfl) (lxX2_at 1 4 rfl)
set_option maxRecDepth 20000 in
theorem dX2_at_21 : decode cX2_at 21 = .ok (.bipush (-9), 2) := dc_16 247 (lxX2_at 1 5 rfl) (lxX2_at 1 6 rfl)
set_option maxRecDepth 20000 in
theorem dX2_at_23 : decode cX2_at 23 = .ok (.goto 9, 3) := dc_167 0 9 (lxX2_at 1 7 rfl) (lxX2_at 1 8 rfl) (lxX2_at 1 9 rfl)
set_option maxRecDepth 20000 in
theorem dX2_at_26 : decode cX2_at 26 = .ok (.aload_n 0, 1) := dc_42 (lxX2_at 1 10 rfl)
set_option maxRecDepth 20000 in
theorem dX2_at_27 : decode cX2_at 27 = .ok (.getfield 15, 3) := dc_180 0 15 (lxX2_at 1 11 rfl) (lxX2_at 1 12 rfl) (lxX2_at 1 13 rfl)
set_option maxRecDepth 20000 in
theorem dX2_at_30 : decode cX2_at 30 = .ok (.iload_n 1, 1) := dc_27 (lxX2_at 1 14 rfl)
set_option maxRecDepth 20000 in
theorem dX2_at_31 : decode cX2_at 31 = .ok (.caload, 1) := dc_52 (lxX2_at 1 15 rfl)
set_option maxRecDepth 20000 in
theorem dX2_at_32 : decode cX2_at 32 = .ok (.ireturn, 1) := dc_172 (lxX2_at 2 0 rfl)
def lb_sgX2_isFull : List (List UInt8) := [[42, 180, 0, 21, 42, 180, 0, 15, 190, 161, 0, 7, 4, 167, 0, 4], [3, 172]]
set_option maxRecDepth 100000 in
theorem lb_seX2_isFull : cX2_isFull.data.toList = lb_sgX2_isFull.flatten := by decide +kernel
theorem lb_lnX2_isFull : ∀ s ∈ lb_sgX2_isFull.dropLast, s.length = 16 := by decide +kernel
theorem lxX2_isFull (k j : Nat) {b : UInt8} (h : (lb_sgX2_isFull[k]?).bind (fun s => s[j]?) = some b) : lb_at cX2_isFull (16 * k + j) b := by
  unfold lb_at
  rw [lb_seX2_isFull]
  exact lb_flat 16 lb_sgX2_isFull k j b lb_lnX2_isFull h
set_option maxRecDepth 20000 in
theorem dX2_isFull_0 : decode cX2_isFull 0 = .ok (.aload_n 0, 1) := dc_42 (lxX2_isFull 0 0 rfl)
set_option maxRecDepth 20000 in
theorem dX2_isFull_1 : decode cX2_isFull 1 = .ok (.getfield 21, 3) := dc_180 0 21 (lxX2_isFull 0 1 rfl) (lxX2_isFull 0 2 rfl) (lxX2_isFull 0 3 rfl)
set_option maxRecDepth 20000 in
theorem dX2_isFull_4 : decode cX2_isFull 4 = .ok (.aload_n 0, 1) := dc_42 (lxX2_isFull 0 4 rfl)
set_option maxRecDepth 20000 in
theorem dX2_isFull_5 : decode cX2_isFull 5 = .ok (.getfield 15, 3) := dc_180 0 15 (lxX2_isFull 0 5 rfl) (lxX2_isFull 0 6 rfl) (lxX2_isFull 0 7 rfl)
set_option maxRecDepth 20000 in
theorem dX2_isFull_8 : decode cX2_isFull 8 = .ok (.arraylength, 1) := dc_190 (lxX2_isFull 0 8 rfl)
set_option maxRecDepth 20000 in
theorem dX2_isFull_9 : decode cX2_isFull 9 = .ok (.if_icmp .lt 7, 3) := dc_161 0 7 (lxX2_isFull 0 9 rfl) (lxX2_isFull 0 10 rfl) (lxX2_isFull 0 11 rfl)
set_option maxRecDepth 20000 in
theorem dX2_isFull_12 : decode cX2_isFull 12 = .ok (.iconst 1, 1) := dc_4 (lxX2_isFull 0 12 rfl)
set_option maxRecDepth 20000 in
theorem dX2_isFull_13 : decode cX2_isFull 13 = .ok (.goto 4, 3) := dc_167 0 4 (lxX2_isFull 0 13 rfl) (lxX2_isFull 0 14 rfl) (lxX2_isFull 0 15 rfl)
set_option maxRecDepth 20000 in
theorem dX2_isFull_16 : decode cX2_isFull 16 = .ok (.iconst 0, 1) := dc_3 (lxX2_isFull 1 0 rfl)
set_option maxRecDepth 20000 in
theorem dX2_isFull_17 : decode cX2_isFull 17 = .ok (.ireturn, 1) := dc_172 (lxX2_isFull 1 1 rfl)
set_option maxRecDepth 20000 in
theorem dX2_clear_0 : decode cX2_clear 0 = .ok (.aload_n 0, 1) := dc_42 rfl
set_option maxRecDepth 20000 in
theorem dX2_clear_1 : decode cX2_clear 1 = .ok (.iconst 0, 1) := dc_3 rfl
set_option maxRecDepth 20000 in
theorem dX2_clear_2 : decode cX2_clear 2 = .ok (.putfield 21, 3) := dc_181 0 21 rfl rfl rfl
set_option maxRecDepth 20000 in
theorem dX2_clear_5 : decode cX2_clear 5 = .ok (.return_, 1) := dc_177 rfl
def lb_sgX2_add : List (List UInt8) := [[42, 180, 0, 21, 155, 0, 36, 42, 180, 0, 21, 42, 180, 0, 15, 190], [162, 0, 24, 42, 180, 0, 15, 42, 180, 0, 21, 27, 146, 85, 42, 89], [180, 0, 21, 4, 96, 181, 0, 21, 177]]
set_option maxRecDepth 100000 in
theorem lb_seX2_add : cX2_add.data.toList = lb_sgX2_add.flatten := by decide +kernel
theorem lb_lnX2_add : ∀ s ∈ lb_sgX2_add.dropLast, s.length = 16 := by decide +kernel
theorem lxX2_add (k j : Nat) {b : UInt8} (h : (lb_sgX2_add[k]?).bind (fun s => s[j]?) = some b) : lb_at cX2_add (16 * k + j) b := by
  unfold lb_at
  rw [lb_seX2_add]
  exact lb_flat 16 lb_sgX2_add k j b lb_lnX2_add h
set_option maxRecDepth 20000 in
theorem dX2_add_0 : decode cX2_add 0 = .ok (.aload_n 0, 1) := dc_42 (lxX2_add 0 0 rfl)
set_option maxRecDepth 20000 in
theorem dX2_add_1 : decode cX2_add 1 = .ok (.getfield 21, 3) := dc_180 0 21 (lxX2_add 0 1 rfl) (lxX2_add 0 2 rfl) (lxX2_add 0 3 rfl)
set_option maxRecDepth 20000 in
theorem dX2_add_4 : decode cX2_add 4 = .ok (.ifCond .lt 36, 3) := dc_155 0 36 (lxX2_add 0 4 rfl) (lxX2_add 0 5 rfl) (lxX2_add 0 6 rfl)
set_option maxRecDepth 20000 in
theorem dX2_add_7 : decode cX2_add 7 = .ok (.aload_n 0, 1) := dc_42 (lxX2_add 0 7 rfl)
set_option maxRecDepth 20000 in
theorem dX2_add_8 : decode cX2_add 8 = .ok (.getfield 21, 3) := dc_180 0 21 (lxX2_add 0 8 rfl) (lxX2_add 0 9 rfl) (lxX2_add 0 10 rfl)
set_option maxRecDepth 20000 in
theorem dX2_add_11 : decode cX2_add 11 = .ok (.aload_n 0, 1) := dc_42 (lxX2_add 0 11 rfl)
set_option maxRecDepth 20000 in
theorem dX2_add_12 : decode cX2_add 12 = .ok (.getfield 15, 3) := dc_180 0 15 (lxX2_add 0 12 rfl) (lxX2_add 0 13 rfl) (lxX2_add 0 14 rfl)
set_option maxRecDepth 20000 in
theorem dX2_add_15 : decode cX2_add 15 = .ok (.arraylength, 1) := dc_190 (lxX2_add 0 15 rfl)
set_option maxRecDepth 20000 in
theorem dX2_add_16 : decode cX2_add 16 = .ok (.if_icmp .ge 24, 3) := dc_162 0 24 (lxX2_add 1 0 rfl) (lxX2_add 1 1 rfl) (lxX2_add 1 2 rfl)
set_option maxRecDepth 20000 in
theorem dX2_add_19 : decode cX2_add 19 = .ok (.aload_n 0, 1) := dc_42 (lxX2_add 1 3 rfl)
set_option maxRecDepth 20000 in
theorem dX2_add_20 : decode cX2_add 20 = .ok (.getfield 15, 3) := dc_180 0 15 (lxX2_add 1 4 rfl) (lxX2_add 1 5 rfl) (lxX2_add 1 6 rfl)
set_option maxRecDepth 20000 in
theorem dX2_add_23 : decode cX2_add 23 = .ok (.aload_n 0, 1) := dc_42 (lxX2_add 1 7 rfl)
set_option maxRecDepth 20000 in
theorem dX2_add_24 : decode cX2_add 24 = .ok (.getfield 21, 3) := dc_180 0 21 (lxX2_add 1 8 rfl) (lxX2_add 1 9 rfl) (lxX2_add 1 10 rfl)
set_option maxRecDepth 20000 in
theorem dX2_add_27 : decode cX2_add 27 = .ok (.iload_n 1, 1) := dc_27 (lxX2_add 1 11 rfl)
set_option maxRecDepth 20000 in
theorem dX2_add_28 : decode cX2_add 28 = .ok (.i2c, 1) := dc_146 (lxX2_add 1 12 rfl)
set_option maxRecDepth 20000 in
theorem dX2_add_29 : decode cX2_add 29 = .ok (.castore, 1) := dc_85 (lxX2_add 1 13 rfl)
set_option maxRecDepth 20000 in
theorem dX2_add_30 : decode cX2_add 30 = .ok (.aload_n 0, 1) := dc_42 (lxX2_add 1 14 rfl)
set_option maxRecDepth 20000 in
theorem dX2_add_31 : decode cX2_add 31 = .ok (.dup, 1) := dc_89 (lxX2_add 1 15 rfl)
set_option maxRecDepth 20000 in
theorem dX2_add_32 : decode cX2_add 32 = .ok (.getfield 21, 3) := dc_180 0 21 (lxX2_add 2 0 rfl) (lxX2_add 2 1 rfl) (lxX2_add 2 2 rfl)
set_option maxRecDepth 20000 in
theorem dX2_add_35 : decode cX2_add 35 = .ok (.iconst 1, 1) := dc_4 (lxX2_add 2 3 rfl)
set_option maxRecDepth 20000 in
theorem dX2_add_36 : decode cX2_add 36 = .ok (.iadd, 1) := dc_96 (lxX2_add 2 4 rfl)
set_option maxRecDepth 20000 in
theorem dX2_add_37 : decode cX2_add 37 = .ok (.putfield 21, 3) := dc_181 0 21 (lxX2_add 2 5 rfl) (lxX2_add 2 6 rfl) (lxX2_add 2 7 rfl)
set_option maxRecDepth 20000 in
theorem dX2_add_40 : decode cX2_add 40 = .ok (.return_, 1) := dc_177 (lxX2_add 2 8 rfl)
noncomputable def sgX2_append : List (List Cond) := [[.code yX2_append cX2_append 4 none], wsX2_append_r1, wsX2_append_r2, wsX20, wsX50]
theorem seX2_append : sgX2_append.flatten = wsX2_append := by simp only [sgX2_append, wsX2_append, List.flatten_cons, List.flatten_nil, List.append_assoc, List.append_nil, List.cons_append, List.nil_append]
set_option maxRecDepth 20000 in
theorem ggX2_append_X2_size : GoodIn wsX2_append wsX2_size := goodIn_s seX2_append _ [pq_1_5, pq_1_6, pq_3_0, pq_3_1] (by rfl) (by decide +kernel)
set_option maxRecDepth 20000 in
theorem gX2_append_X2_size_u25X2 : GoodIn wsX2_append (va_wsU RX2 25 RX2 "Sashwords$Text" ⟨"Sashwords$Text", "size", "()I"⟩ yX2_size wsX2_size) := goodIn_app (goodIn_s seX2_append _ [pq_1_0, pq_1_1, pq_1_2, pq_1_3, pq_1_4] (by rfl) (by decide +kernel)) ggX2_append_X2_size
set_option maxRecDepth 20000 in
theorem ggX2_append_X5_size : GoodIn wsX2_append wsX5_size := goodIn_s seX2_append _ [pq_1_10, pq_1_11, pq_1_12, pq_4_0, pq_4_1, pq_4_2, pq_4_3, pq_4_4, pq_4_5] (by rfl) (by decide +kernel)
set_option maxRecDepth 20000 in
theorem gX2_append_X5_size_u25X5 : GoodIn wsX2_append (va_wsU RX2 25 RX5 "Sashwords$Text" ⟨"Sashwords$Text", "size", "()I"⟩ yX5_size wsX5_size) := goodIn_app (goodIn_s seX2_append _ [pq_1_0, pq_1_1, pq_1_7, pq_1_8, pq_1_9] (by rfl) (by decide +kernel)) ggX2_append_X5_size
set_option maxRecDepth 20000 in
theorem ggX2_append_X2_at : GoodIn wsX2_append wsX2_at := goodIn_s seX2_append _ [pq_1_17, pq_1_6, pq_1_18, pq_3_0, pq_3_1] (by rfl) (by decide +kernel)
set_option maxRecDepth 20000 in
theorem gX2_append_X2_at_u29X2 : GoodIn wsX2_append (va_wsU RX2 29 RX2 "Sashwords$Text" ⟨"Sashwords$Text", "at", "(I)I"⟩ yX2_at wsX2_at) := goodIn_app (goodIn_s seX2_append _ [pq_1_13, pq_1_14, pq_1_15, pq_1_16, pq_1_4] (by rfl) (by decide +kernel)) ggX2_append_X2_at
set_option maxRecDepth 20000 in
theorem ggX2_append_X5_at : GoodIn wsX2_append wsX5_at := goodIn_s seX2_append _ [pq_1_21, pq_1_11, pq_1_12, pq_1_22, pq_1_23, pq_2_0, pq_1_9, pq_2_1, pq_2_2, pq_2_3, pq_4_0, pq_4_1, pq_4_2, pq_4_3, pq_4_4, pq_4_5] (by rfl) (by decide +kernel)
set_option maxRecDepth 20000 in
theorem gX2_append_X5_at_u29X5 : GoodIn wsX2_append (va_wsU RX2 29 RX5 "Sashwords$Text" ⟨"Sashwords$Text", "at", "(I)I"⟩ yX5_at wsX5_at) := goodIn_app (goodIn_s seX2_append _ [pq_1_13, pq_1_14, pq_1_19, pq_1_20, pq_1_9] (by rfl) (by decide +kernel)) ggX2_append_X5_at
set_option maxRecDepth 20000 in
theorem ggX2_append_X2_add : GoodIn wsX2_append wsX2_add := goodIn_s seX2_append _ [pq_2_7, pq_1_6, pq_1_18, pq_3_0, pq_3_1] (by rfl) (by decide +kernel)
set_option maxRecDepth 20000 in
theorem gX2_append_X2_add : GoodIn wsX2_append (wsV RX2 33 RX2 yX2_add wsX2_add) := goodIn_app (goodIn_s seX2_append _ [pq_2_4, pq_2_5, pq_2_6, pq_1_4] (by rfl) (by decide +kernel)) ggX2_append_X2_add
def lb_sgX2_append : List (List UInt8) := [[43, 182, 0, 25, 61, 3, 62, 29, 28, 162, 0, 18, 42, 43, 29, 182], [0, 29, 182, 0, 33, 132, 3, 1, 167, 255, 239, 177]]
set_option maxRecDepth 100000 in
theorem lb_seX2_append : cX2_append.data.toList = lb_sgX2_append.flatten := by decide +kernel
theorem lb_lnX2_append : ∀ s ∈ lb_sgX2_append.dropLast, s.length = 16 := by decide +kernel
theorem lxX2_append (k j : Nat) {b : UInt8} (h : (lb_sgX2_append[k]?).bind (fun s => s[j]?) = some b) : lb_at cX2_append (16 * k + j) b := by
  unfold lb_at
  rw [lb_seX2_append]
  exact lb_flat 16 lb_sgX2_append k j b lb_lnX2_append h
set_option maxRecDepth 20000 in
theorem dX2_append_0 : decode cX2_append 0 = .ok (.aload_n 1, 1) := dc_43 (lxX2_append 0 0 rfl)
set_option maxRecDepth 20000 in
theorem dX2_append_1 : decode cX2_append 1 = .ok (.invokevirtual 25, 3) := dc_182 0 25 (lxX2_append 0 1 rfl) (lxX2_append 0 2 rfl) (lxX2_append 0 3 rfl)
set_option maxRecDepth 20000 in
theorem dX2_append_4 : decode cX2_append 4 = .ok (.istore_n 2, 1) := dc_61 (lxX2_append 0 4 rfl)
set_option maxRecDepth 20000 in
theorem dX2_append_5 : decode cX2_append 5 = .ok (.iconst 0, 1) := dc_3 (lxX2_append 0 5 rfl)
set_option maxRecDepth 20000 in
theorem dX2_append_6 : decode cX2_append 6 = .ok (.istore_n 3, 1) := dc_62 (lxX2_append 0 6 rfl)
set_option maxRecDepth 20000 in
theorem dX2_append_7 : decode cX2_append 7 = .ok (.iload_n 3, 1) := dc_29 (lxX2_append 0 7 rfl)
set_option maxRecDepth 20000 in
theorem dX2_append_8 : decode cX2_append 8 = .ok (.iload_n 2, 1) := dc_28 (lxX2_append 0 8 rfl)
set_option maxRecDepth 20000 in
theorem dX2_append_9 : decode cX2_append 9 = .ok (.if_icmp .ge 18, 3) := dc_162 0 18 (lxX2_append 0 9 rfl) (lxX2_append 0 10 rfl) (lxX2_append 0 11 rfl)
set_option maxRecDepth 20000 in
theorem dX2_append_12 : decode cX2_append 12 = .ok (.aload_n 0, 1) := dc_42 (lxX2_append 0 12 rfl)
set_option maxRecDepth 20000 in
theorem dX2_append_13 : decode cX2_append 13 = .ok (.aload_n 1, 1) := dc_43 (lxX2_append 0 13 rfl)
set_option maxRecDepth 20000 in
theorem dX2_append_14 : decode cX2_append 14 = .ok (.iload_n 3, 1) := dc_29 (lxX2_append 0 14 rfl)
set_option maxRecDepth 20000 in
theorem dX2_append_15 : decode cX2_append 15 = .ok (.invokevirtual 29, 3) := dc_182 0 29 (lxX2_append 0 15 rfl) (lxX2_append 1 0 rfl) (lxX2_append 1 1 rfl)
set_option maxRecDepth 20000 in
theorem dX2_append_18 : decode cX2_append 18 = .ok (.invokevirtual 33, 3) := dc_182 0 33 (lxX2_append 1 2 rfl) (lxX2_append 1 3 rfl) (lxX2_append 1 4 rfl)
set_option maxRecDepth 20000 in
theorem dX2_append_21 : decode cX2_append 21 = .ok (.iinc 3 1, 3) := dc_132 3 1 (lxX2_append 1 5 rfl) (lxX2_append 1 6 rfl) (lxX2_append 1 7 rfl)
set_option maxRecDepth 20000 in
theorem dX2_append_24 : decode cX2_append 24 = .ok (.goto (-17), 3) := dc_167 255 239 (lxX2_append 1 8 rfl) (lxX2_append 1 9 rfl) (lxX2_append 1 10 rfl)
set_option maxRecDepth 20000 in
theorem dX2_append_27 : decode cX2_append 27 = .ok (.return_, 1) := dc_177 (lxX2_append 1 11 rfl)
noncomputable def sgX2_becomeText : List (List Cond) := [[.code yX2_becomeText cX2_becomeText 2 none], wsX2_becomeText_r1, wsX2_becomeText_r2, wsX20, wsX50]
theorem seX2_becomeText : sgX2_becomeText.flatten = wsX2_becomeText := by simp only [sgX2_becomeText, wsX2_becomeText, List.flatten_cons, List.flatten_nil, List.append_assoc, List.append_nil, List.cons_append, List.nil_append]
set_option maxRecDepth 20000 in
theorem ggX2_becomeText_X2_clear : GoodIn wsX2_becomeText wsX2_clear := goodIn_s seX2_becomeText _ [pq_1_4, pq_1_5, pq_3_0, pq_3_1] (by rfl) (by decide +kernel)
set_option maxRecDepth 20000 in
theorem gX2_becomeText_X2_clear : GoodIn wsX2_becomeText (wsV RX2 37 RX2 yX2_clear wsX2_clear) := goodIn_app (goodIn_s seX2_becomeText _ [pq_1_0, pq_1_1, pq_1_2, pq_1_3] (by rfl) (by decide +kernel)) ggX2_becomeText_X2_clear
set_option maxRecDepth 20000 in
theorem ggX2_becomeText_X2_append : GoodIn wsX2_becomeText wsX2_append := goodIn_s seX2_becomeText _ [pq_1_9, pq_1_10, pq_1_11, pq_1_12, pq_1_13, pq_1_3, pq_1_14, pq_1_5, pq_1_15, pq_1_16, pq_1_17, pq_1_18, pq_1_19, pq_1_20, pq_1_21, pq_1_22, pq_1_23, pq_2_0, pq_2_1, pq_2_2, pq_2_3, pq_2_4, pq_2_5, pq_2_6, pq_2_7, pq_2_8, pq_2_9, pq_2_10, pq_2_11, pq_2_12, pq_2_13, pq_2_14, pq_2_15, pq_3_0, pq_3_1, pq_4_0, pq_4_1, pq_4_2, pq_4_3, pq_4_4, pq_4_5] (by rfl) (by decide +kernel)
set_option maxRecDepth 20000 in
theorem gX2_becomeText_X2_append : GoodIn wsX2_becomeText (wsV RX2 40 RX2 yX2_append wsX2_append) := goodIn_app (goodIn_s seX2_becomeText _ [pq_1_6, pq_1_7, pq_1_8, pq_1_3] (by rfl) (by decide +kernel)) ggX2_becomeText_X2_append
def lb_sgX2_becomeText : List (List UInt8) := [[43, 42, 165, 0, 12, 42, 182, 0, 37, 42, 43, 182, 0, 40, 177]]
set_option maxRecDepth 100000 in
theorem lb_seX2_becomeText : cX2_becomeText.data.toList = lb_sgX2_becomeText.flatten := by decide +kernel
theorem lb_lnX2_becomeText : ∀ s ∈ lb_sgX2_becomeText.dropLast, s.length = 16 := by decide +kernel
theorem lxX2_becomeText (k j : Nat) {b : UInt8} (h : (lb_sgX2_becomeText[k]?).bind (fun s => s[j]?) = some b) : lb_at cX2_becomeText (16 * k + j) b := by
  unfold lb_at
  rw [lb_seX2_becomeText]
  exact lb_flat 16 lb_sgX2_becomeText k j b lb_lnX2_becomeText h
set_option maxRecDepth 20000 in
theorem dX2_becomeText_0 : decode cX2_becomeText 0 = .ok (.aload_n 1, 1) := dc_43 (lxX2_becomeText 0 0 rfl)
set_option maxRecDepth 20000 in
theorem dX2_becomeText_1 : decode cX2_becomeText 1 = .ok (.aload_n 0, 1) := dc_42 (lxX2_becomeText 0 1 rfl)
set_option maxRecDepth 20000 in
theorem dX2_becomeText_2 : decode cX2_becomeText 2 = .ok (.if_acmp .eq 12, 3) := dc_165 0 12 (lxX2_becomeText 0 2 rfl) (lxX2_becomeText 0 3 rfl) (lxX2_becomeText 0 4 rfl)
set_option maxRecDepth 20000 in
theorem dX2_becomeText_5 : decode cX2_becomeText 5 = .ok (.aload_n 0, 1) := dc_42 (lxX2_becomeText 0 5 rfl)
set_option maxRecDepth 20000 in
theorem dX2_becomeText_6 : decode cX2_becomeText 6 = .ok (.invokevirtual 37, 3) := dc_182 0 37 (lxX2_becomeText 0 6 rfl) (lxX2_becomeText 0 7 rfl) (lxX2_becomeText 0 8 rfl)
set_option maxRecDepth 20000 in
theorem dX2_becomeText_9 : decode cX2_becomeText 9 = .ok (.aload_n 0, 1) := dc_42 (lxX2_becomeText 0 9 rfl)
set_option maxRecDepth 20000 in
theorem dX2_becomeText_10 : decode cX2_becomeText 10 = .ok (.aload_n 1, 1) := dc_43 (lxX2_becomeText 0 10 rfl)
set_option maxRecDepth 20000 in
theorem dX2_becomeText_11 : decode cX2_becomeText 11 = .ok (.invokevirtual 40, 3) := dc_182 0 40 (lxX2_becomeText 0 11 rfl) (lxX2_becomeText 0 12 rfl) (lxX2_becomeText 0 13 rfl)
set_option maxRecDepth 20000 in
theorem dX2_becomeText_14 : decode cX2_becomeText 14 = .ok (.return_, 1) := dc_177 (lxX2_becomeText 0 14 rfl)
noncomputable def sgX2_exchange : List (List Cond) := [[.code yX2_exchange cX2_exchange 4 (some .int)], [.fieldLink RX2 15 "Sashwords$Script" "signs" "[C", .methodLink RX2 44 yX2_at, .instanceMethod yX2_at, .selects RX2 yX2_at yX2_at, .initialized RX2, .code yX2_at cX2_at 2 (some .int), .fieldLink RX2 21 "Sashwords$Script" "length" "I"], wsX20]
theorem seX2_exchange : sgX2_exchange.flatten = wsX2_exchange := by simp only [sgX2_exchange, wsX2_exchange, List.flatten_cons, List.flatten_nil, List.append_assoc, List.append_nil, List.cons_append, List.nil_append]
set_option maxRecDepth 20000 in
theorem ggX2_exchange_X2_at : GoodIn wsX2_exchange wsX2_at := goodIn_s seX2_exchange _ [pq_1_5, pq_1_6, pq_1_0, pq_2_0, pq_2_1] (by rfl) (by decide +kernel)
set_option maxRecDepth 20000 in
theorem gX2_exchange_X2_at : GoodIn wsX2_exchange (wsV RX2 44 RX2 yX2_at wsX2_at) := goodIn_app (goodIn_s seX2_exchange _ [pq_1_1, pq_1_2, pq_1_3, pq_1_4] (by rfl) (by decide +kernel)) ggX2_exchange_X2_at
def lb_sgX2_exchange : List (List UInt8) := [[42, 27, 182, 0, 44, 62, 27, 155, 0, 20, 27, 42, 180, 0, 15, 190], [162, 0, 11, 42, 180, 0, 15, 27, 28, 146, 85, 29, 172]]
set_option maxRecDepth 100000 in
theorem lb_seX2_exchange : cX2_exchange.data.toList = lb_sgX2_exchange.flatten := by decide +kernel
theorem lb_lnX2_exchange : ∀ s ∈ lb_sgX2_exchange.dropLast, s.length = 16 := by decide +kernel
theorem lxX2_exchange (k j : Nat) {b : UInt8} (h : (lb_sgX2_exchange[k]?).bind (fun s => s[j]?) = some b) : lb_at cX2_exchange (16 * k + j) b := by
  unfold lb_at
  rw [lb_seX2_exchange]
  exact lb_flat 16 lb_sgX2_exchange k j b lb_lnX2_exchange h
set_option maxRecDepth 20000 in
theorem dX2_exchange_0 : decode cX2_exchange 0 = .ok (.aload_n 0, 1) := dc_42 (lxX2_exchange 0 0 rfl)
set_option maxRecDepth 20000 in
theorem dX2_exchange_1 : decode cX2_exchange 1 = .ok (.iload_n 1, 1) := dc_27 (lxX2_exchange 0 1 rfl)
set_option maxRecDepth 20000 in
theorem dX2_exchange_2 : decode cX2_exchange 2 = .ok (.invokevirtual 44, 3) := dc_182 0 44 (lxX2_exchange 0 2 rfl) (lxX2_exchange 0 3 rfl) (lxX2_exchange 0 4 rfl)
set_option maxRecDepth 20000 in
theorem dX2_exchange_5 : decode cX2_exchange 5 = .ok (.istore_n 3, 1) := dc_62 (lxX2_exchange 0 5 rfl)
set_option maxRecDepth 20000 in
theorem dX2_exchange_6 : decode cX2_exchange 6 = .ok (.iload_n 1, 1) := dc_27 (lxX2_exchange 0 6 rfl)
set_option maxRecDepth 20000 in
theorem dX2_exchange_7 : decode cX2_exchange 7 = .ok (.ifCond .lt 20, 3) := dc_155 0 20 (lxX2_exchange 0 7 rfl) (lxX2_exchange 0 8 rfl) (lxX2_exchange 0 9 rfl)
set_option maxRecDepth 20000 in
theorem dX2_exchange_10 : decode cX2_exchange 10 = .ok (.iload_n 1, 1) := dc_27 (lxX2_exchange 0 10 rfl)
set_option maxRecDepth 20000 in
theorem dX2_exchange_11 : decode cX2_exchange 11 = .ok (.aload_n 0, 1) := dc_42 (lxX2_exchange 0 11 rfl)
set_option maxRecDepth 20000 in
theorem dX2_exchange_12 : decode cX2_exchange 12 = .ok (.getfield 15, 3) := dc_180 0 15 (lxX2_exchange 0 12 rfl) (lxX2_exchange 0 13 rfl) (lxX2_exchange 0 14 rfl)
set_option maxRecDepth 20000 in
theorem dX2_exchange_15 : decode cX2_exchange 15 = .ok (.arraylength, 1) := dc_190 (lxX2_exchange 0 15 rfl)
set_option maxRecDepth 20000 in
theorem dX2_exchange_16 : decode cX2_exchange 16 = .ok (.if_icmp .ge 11, 3) := dc_162 0 11 (lxX2_exchange 1 0 rfl) (lxX2_exchange 1 1 rfl) (lxX2_exchange 1 2 rfl)
set_option maxRecDepth 20000 in
theorem dX2_exchange_19 : decode cX2_exchange 19 = .ok (.aload_n 0, 1) := dc_42 (lxX2_exchange 1 3 rfl)
set_option maxRecDepth 20000 in
theorem dX2_exchange_20 : decode cX2_exchange 20 = .ok (.getfield 15, 3) := dc_180 0 15 (lxX2_exchange 1 4 rfl) (lxX2_exchange 1 5 rfl) (lxX2_exchange 1 6 rfl)
set_option maxRecDepth 20000 in
theorem dX2_exchange_23 : decode cX2_exchange 23 = .ok (.iload_n 1, 1) := dc_27 (lxX2_exchange 1 7 rfl)
set_option maxRecDepth 20000 in
theorem dX2_exchange_24 : decode cX2_exchange 24 = .ok (.iload_n 2, 1) := dc_28 (lxX2_exchange 1 8 rfl)
set_option maxRecDepth 20000 in
theorem dX2_exchange_25 : decode cX2_exchange 25 = .ok (.i2c, 1) := dc_146 (lxX2_exchange 1 9 rfl)
set_option maxRecDepth 20000 in
theorem dX2_exchange_26 : decode cX2_exchange 26 = .ok (.castore, 1) := dc_85 (lxX2_exchange 1 10 rfl)
set_option maxRecDepth 20000 in
theorem dX2_exchange_27 : decode cX2_exchange 27 = .ok (.iload_n 3, 1) := dc_29 (lxX2_exchange 1 11 rfl)
set_option maxRecDepth 20000 in
theorem dX2_exchange_28 : decode cX2_exchange 28 = .ok (.ireturn, 1) := dc_172 (lxX2_exchange 1 12 rfl)
noncomputable def sgX2_turnRound : List (List Cond) := [[.code yX2_turnRound cX2_turnRound 3 none], [.fieldLink RX2 21 "Sashwords$Script" "length" "I", .methodLink RX2 44 yX2_at, .instanceMethod yX2_at, .selects RX2 yX2_at yX2_at, .initialized RX2, .code yX2_at cX2_at 2 (some .int), .fieldLink RX2 15 "Sashwords$Script" "signs" "[C", .methodLink RX2 45 yX2_exchange, .instanceMethod yX2_exchange, .selects RX2 yX2_exchange yX2_exchange, .code yX2_exchange cX2_exchange 4 (some .int)], wsX20]
theorem seX2_turnRound : sgX2_turnRound.flatten = wsX2_turnRound := by simp only [sgX2_turnRound, wsX2_turnRound, List.flatten_cons, List.flatten_nil, List.append_assoc, List.append_nil, List.cons_append, List.nil_append]
set_option maxRecDepth 20000 in
theorem ggX2_turnRound_X2_at : GoodIn wsX2_turnRound wsX2_at := goodIn_s seX2_turnRound _ [pq_1_5, pq_1_0, pq_1_6, pq_2_0, pq_2_1] (by rfl) (by decide +kernel)
set_option maxRecDepth 20000 in
theorem gX2_turnRound_X2_at : GoodIn wsX2_turnRound (wsV RX2 44 RX2 yX2_at wsX2_at) := goodIn_app (goodIn_s seX2_turnRound _ [pq_1_1, pq_1_2, pq_1_3, pq_1_4] (by rfl) (by decide +kernel)) ggX2_turnRound_X2_at
set_option maxRecDepth 20000 in
theorem ggX2_turnRound_X2_exchange : GoodIn wsX2_turnRound wsX2_exchange := goodIn_s seX2_turnRound _ [pq_1_10, pq_1_6, pq_1_1, pq_1_2, pq_1_3, pq_1_4, pq_1_5, pq_1_0, pq_2_0, pq_2_1] (by rfl) (by decide +kernel)
set_option maxRecDepth 20000 in
theorem gX2_turnRound_X2_exchange : GoodIn wsX2_turnRound (wsV RX2 45 RX2 yX2_exchange wsX2_exchange) := goodIn_app (goodIn_s seX2_turnRound _ [pq_1_7, pq_1_8, pq_1_9, pq_1_4] (by rfl) (by decide +kernel)) ggX2_turnRound_X2_exchange
def lb_sgX2_turnRound : List (List UInt8) := [[3, 60, 27, 42, 180, 0, 21, 5, 108, 162, 0, 34, 42, 180, 0, 21], [4, 100, 27, 100, 61, 42, 28, 42, 27, 42, 28, 182, 0, 44, 182, 0], [45, 182, 0, 45, 87, 132, 1, 1, 167, 255, 218, 177]]
set_option maxRecDepth 100000 in
theorem lb_seX2_turnRound : cX2_turnRound.data.toList = lb_sgX2_turnRound.flatten := by decide +kernel
theorem lb_lnX2_turnRound : ∀ s ∈ lb_sgX2_turnRound.dropLast, s.length = 16 := by decide +kernel
theorem lxX2_turnRound (k j : Nat) {b : UInt8} (h : (lb_sgX2_turnRound[k]?).bind (fun s => s[j]?) = some b) : lb_at cX2_turnRound (16 * k + j) b := by
  unfold lb_at
  rw [lb_seX2_turnRound]
  exact lb_flat 16 lb_sgX2_turnRound k j b lb_lnX2_turnRound h
set_option maxRecDepth 20000 in
theorem dX2_turnRound_0 : decode cX2_turnRound 0 = .ok (.iconst 0, 1) := dc_3 (lxX2_turnRound 0 0 rfl)
set_option maxRecDepth 20000 in
theorem dX2_turnRound_1 : decode cX2_turnRound 1 = .ok (.istore_n 1, 1) := dc_60 (lxX2_turnRound 0 1 rfl)
set_option maxRecDepth 20000 in
theorem dX2_turnRound_2 : decode cX2_turnRound 2 = .ok (.iload_n 1, 1) := dc_27 (lxX2_turnRound 0 2 rfl)
set_option maxRecDepth 20000 in
theorem dX2_turnRound_3 : decode cX2_turnRound 3 = .ok (.aload_n 0, 1) := dc_42 (lxX2_turnRound 0 3 rfl)
set_option maxRecDepth 20000 in
theorem dX2_turnRound_4 : decode cX2_turnRound 4 = .ok (.getfield 21, 3) := dc_180 0 21 (lxX2_turnRound 0 4 rfl) (lxX2_turnRound 0 5 rfl) (lxX2_turnRound 0 6 rfl)
set_option maxRecDepth 20000 in
theorem dX2_turnRound_7 : decode cX2_turnRound 7 = .ok (.iconst 2, 1) := dc_5 (lxX2_turnRound 0 7 rfl)
set_option maxRecDepth 20000 in
theorem dX2_turnRound_8 : decode cX2_turnRound 8 = .ok (.idiv, 1) := dc_108 (lxX2_turnRound 0 8 rfl)
set_option maxRecDepth 20000 in
theorem dX2_turnRound_9 : decode cX2_turnRound 9 = .ok (.if_icmp .ge 34, 3) := dc_162 0 34 (lxX2_turnRound 0 9 rfl) (lxX2_turnRound 0 10 rfl) (lxX2_turnRound 0 11 rfl)
set_option maxRecDepth 20000 in
theorem dX2_turnRound_12 : decode cX2_turnRound 12 = .ok (.aload_n 0, 1) := dc_42 (lxX2_turnRound 0 12 rfl)
set_option maxRecDepth 20000 in
theorem dX2_turnRound_13 : decode cX2_turnRound 13 = .ok (.getfield 21, 3) := dc_180 0 21 (lxX2_turnRound 0 13 rfl) (lxX2_turnRound 0 14 rfl) (lxX2_turnRound 0 15 rfl)
set_option maxRecDepth 20000 in
theorem dX2_turnRound_16 : decode cX2_turnRound 16 = .ok (.iconst 1, 1) := dc_4 (lxX2_turnRound 1 0 rfl)
set_option maxRecDepth 20000 in
theorem dX2_turnRound_17 : decode cX2_turnRound 17 = .ok (.isub, 1) := dc_100 (lxX2_turnRound 1 1 rfl)
set_option maxRecDepth 20000 in
theorem dX2_turnRound_18 : decode cX2_turnRound 18 = .ok (.iload_n 1, 1) := dc_27 (lxX2_turnRound 1 2 rfl)
set_option maxRecDepth 20000 in
theorem dX2_turnRound_19 : decode cX2_turnRound 19 = .ok (.isub, 1) := dc_100 (lxX2_turnRound 1 3 rfl)
set_option maxRecDepth 20000 in
theorem dX2_turnRound_20 : decode cX2_turnRound 20 = .ok (.istore_n 2, 1) := dc_61 (lxX2_turnRound 1 4 rfl)
set_option maxRecDepth 20000 in
theorem dX2_turnRound_21 : decode cX2_turnRound 21 = .ok (.aload_n 0, 1) := dc_42 (lxX2_turnRound 1 5 rfl)
set_option maxRecDepth 20000 in
theorem dX2_turnRound_22 : decode cX2_turnRound 22 = .ok (.iload_n 2, 1) := dc_28 (lxX2_turnRound 1 6 rfl)
set_option maxRecDepth 20000 in
theorem dX2_turnRound_23 : decode cX2_turnRound 23 = .ok (.aload_n 0, 1) := dc_42 (lxX2_turnRound 1 7 rfl)
set_option maxRecDepth 20000 in
theorem dX2_turnRound_24 : decode cX2_turnRound 24 = .ok (.iload_n 1, 1) := dc_27 (lxX2_turnRound 1 8 rfl)
set_option maxRecDepth 20000 in
theorem dX2_turnRound_25 : decode cX2_turnRound 25 = .ok (.aload_n 0, 1) := dc_42 (lxX2_turnRound 1 9 rfl)
set_option maxRecDepth 20000 in
theorem dX2_turnRound_26 : decode cX2_turnRound 26 = .ok (.iload_n 2, 1) := dc_28 (lxX2_turnRound 1 10 rfl)
set_option maxRecDepth 20000 in
theorem dX2_turnRound_27 : decode cX2_turnRound 27 = .ok (.invokevirtual 44, 3) := dc_182 0 44 (lxX2_turnRound 1 11 rfl) (lxX2_turnRound 1 12 rfl) (lxX2_turnRound 1 13 rfl)
set_option maxRecDepth 20000 in
theorem dX2_turnRound_30 : decode cX2_turnRound 30 = .ok (.invokevirtual 45, 3) := dc_182 0 45 (lxX2_turnRound 1 14 rfl) (lxX2_turnRound 1 15 rfl) (lxX2_turnRound 2 0 rfl)
set_option maxRecDepth 20000 in
theorem dX2_turnRound_33 : decode cX2_turnRound 33 = .ok (.invokevirtual 45, 3) := dc_182 0 45 (lxX2_turnRound 2 1 rfl) (lxX2_turnRound 2 2 rfl) (lxX2_turnRound 2 3 rfl)
set_option maxRecDepth 20000 in
theorem dX2_turnRound_36 : decode cX2_turnRound 36 = .ok (.pop, 1) := dc_87 (lxX2_turnRound 2 4 rfl)
set_option maxRecDepth 20000 in
theorem dX2_turnRound_37 : decode cX2_turnRound 37 = .ok (.iinc 1 1, 3) := dc_132 1 1 (lxX2_turnRound 2 5 rfl) (lxX2_turnRound 2 6 rfl) (lxX2_turnRound 2 7 rfl)
set_option maxRecDepth 20000 in
theorem dX2_turnRound_40 : decode cX2_turnRound 40 = .ok (.goto (-38), 3) := dc_167 255 218 (lxX2_turnRound 2 8 rfl) (lxX2_turnRound 2 9 rfl) (lxX2_turnRound 2 10 rfl)
set_option maxRecDepth 20000 in
theorem dX2_turnRound_43 : decode cX2_turnRound 43 = .ok (.return_, 1) := dc_177 (lxX2_turnRound 2 11 rfl)
noncomputable def sgX2_takeFirst : List (List Cond) := [[.code yX2_takeFirst cX2_takeFirst 3 (some .int)], [.fieldLink RX2 21 "Sashwords$Script" "length" "I", .methodLink RX2 9 Lib.Math.max.name, .static Lib.Math.max.name, .initialized "java/lang/Math", .code Lib.Math.max.name Lib.Math.max.code 2 (some .int), .methodLink RX2 44 yX2_at, .instanceMethod yX2_at, .selects RX2 yX2_at yX2_at, .initialized RX2, .code yX2_at cX2_at 2 (some .int), .fieldLink RX2 15 "Sashwords$Script" "signs" "[C", .methodLink RX2 45 yX2_exchange, .instanceMethod yX2_exchange, .selects RX2 yX2_exchange yX2_exchange, .code yX2_exchange cX2_exchange 4 (some .int)], wsX20]
theorem seX2_takeFirst : sgX2_takeFirst.flatten = wsX2_takeFirst := by simp only [sgX2_takeFirst, wsX2_takeFirst, List.flatten_cons, List.flatten_nil, List.append_assoc, List.append_nil, List.cons_append, List.nil_append]
set_option maxRecDepth 20000 in
theorem ggX2_takeFirst_X2_at : GoodIn wsX2_takeFirst wsX2_at := goodIn_s seX2_takeFirst _ [pq_1_9, pq_1_0, pq_1_10, pq_2_0, pq_2_1] (by rfl) (by decide +kernel)
set_option maxRecDepth 20000 in
theorem gX2_takeFirst_X2_at : GoodIn wsX2_takeFirst (wsV RX2 44 RX2 yX2_at wsX2_at) := goodIn_app (goodIn_s seX2_takeFirst _ [pq_1_5, pq_1_6, pq_1_7, pq_1_8] (by rfl) (by decide +kernel)) ggX2_takeFirst_X2_at
set_option maxRecDepth 20000 in
theorem ggX2_takeFirst_X2_exchange : GoodIn wsX2_takeFirst wsX2_exchange := goodIn_s seX2_takeFirst _ [pq_1_14, pq_1_10, pq_1_5, pq_1_6, pq_1_7, pq_1_8, pq_1_9, pq_1_0, pq_2_0, pq_2_1] (by rfl) (by decide +kernel)
set_option maxRecDepth 20000 in
theorem gX2_takeFirst_X2_exchange : GoodIn wsX2_takeFirst (wsV RX2 45 RX2 yX2_exchange wsX2_exchange) := goodIn_app (goodIn_s seX2_takeFirst _ [pq_1_11, pq_1_12, pq_1_13, pq_1_8] (by rfl) (by decide +kernel)) ggX2_takeFirst_X2_exchange
def lb_sgX2_takeFirst : List (List UInt8) := [[42, 3, 182, 0, 44, 60, 4, 61, 28, 42, 180, 0, 21, 162, 0, 22], [42, 28, 4, 100, 42, 28, 182, 0, 44, 182, 0, 45, 87, 132, 2, 1], [167, 255, 232, 42, 42, 180, 0, 21, 4, 100, 3, 184, 0, 9, 181, 0], [21, 27, 172]]
set_option maxRecDepth 100000 in
theorem lb_seX2_takeFirst : cX2_takeFirst.data.toList = lb_sgX2_takeFirst.flatten := by decide +kernel
theorem lb_lnX2_takeFirst : ∀ s ∈ lb_sgX2_takeFirst.dropLast, s.length = 16 := by decide +kernel
theorem lxX2_takeFirst (k j : Nat) {b : UInt8} (h : (lb_sgX2_takeFirst[k]?).bind (fun s => s[j]?) = some b) : lb_at cX2_takeFirst (16 * k + j) b := by
  unfold lb_at
  rw [lb_seX2_takeFirst]
  exact lb_flat 16 lb_sgX2_takeFirst k j b lb_lnX2_takeFirst h
set_option maxRecDepth 20000 in
theorem dX2_takeFirst_0 : decode cX2_takeFirst 0 = .ok (.aload_n 0, 1) := dc_42 (lxX2_takeFirst 0 0 rfl)
set_option maxRecDepth 20000 in
theorem dX2_takeFirst_1 : decode cX2_takeFirst 1 = .ok (.iconst 0, 1) := dc_3 (lxX2_takeFirst 0 1 rfl)
set_option maxRecDepth 20000 in
theorem dX2_takeFirst_2 : decode cX2_takeFirst 2 = .ok (.invokevirtual 44, 3) := dc_182 0 44 (lxX2_takeFirst 0 2 rfl) (lxX2_takeFirst 0 3 rfl) (lxX2_takeFirst 0 4 rfl)
set_option maxRecDepth 20000 in
theorem dX2_takeFirst_5 : decode cX2_takeFirst 5 = .ok (.istore_n 1, 1) := dc_60 (lxX2_takeFirst 0 5 rfl)
set_option maxRecDepth 20000 in
theorem dX2_takeFirst_6 : decode cX2_takeFirst 6 = .ok (.iconst 1, 1) := dc_4 (lxX2_takeFirst 0 6 rfl)
set_option maxRecDepth 20000 in
theorem dX2_takeFirst_7 : decode cX2_takeFirst 7 = .ok (.istore_n 2, 1) := dc_61 (lxX2_takeFirst 0 7 rfl)
set_option maxRecDepth 20000 in
theorem dX2_takeFirst_8 : decode cX2_takeFirst 8 = .ok (.iload_n 2, 1) := dc_28 (lxX2_takeFirst 0 8 rfl)
set_option maxRecDepth 20000 in
theorem dX2_takeFirst_9 : decode cX2_takeFirst 9 = .ok (.aload_n 0, 1) := dc_42 (lxX2_takeFirst 0 9 rfl)
set_option maxRecDepth 20000 in
theorem dX2_takeFirst_10 : decode cX2_takeFirst 10 = .ok (.getfield 21, 3) := dc_180 0 21 (lxX2_takeFirst 0 10 rfl) (lxX2_takeFirst 0 11 rfl) (lxX2_takeFirst 0 12 rfl)
set_option maxRecDepth 20000 in
theorem dX2_takeFirst_13 : decode cX2_takeFirst 13 = .ok (.if_icmp .ge 22, 3) := dc_162 0 22 (lxX2_takeFirst 0 13 rfl) (lxX2_takeFirst 0 14 rfl) (lxX2_takeFirst 0 15 rfl)
set_option maxRecDepth 20000 in
theorem dX2_takeFirst_16 : decode cX2_takeFirst 16 = .ok (.aload_n 0, 1) := dc_42 (lxX2_takeFirst 1 0 rfl)
set_option maxRecDepth 20000 in
theorem dX2_takeFirst_17 : decode cX2_takeFirst 17 = .ok (.iload_n 2, 1) := dc_28 (lxX2_takeFirst 1 1 rfl)
set_option maxRecDepth 20000 in
theorem dX2_takeFirst_18 : decode cX2_takeFirst 18 = .ok (.iconst 1, 1) := dc_4 (lxX2_takeFirst 1 2 rfl)
set_option maxRecDepth 20000 in
theorem dX2_takeFirst_19 : decode cX2_takeFirst 19 = .ok (.isub, 1) := dc_100 (lxX2_takeFirst 1 3 rfl)
set_option maxRecDepth 20000 in
theorem dX2_takeFirst_20 : decode cX2_takeFirst 20 = .ok (.aload_n 0, 1) := dc_42 (lxX2_takeFirst 1 4 rfl)
set_option maxRecDepth 20000 in
theorem dX2_takeFirst_21 : decode cX2_takeFirst 21 = .ok (.iload_n 2, 1) := dc_28 (lxX2_takeFirst 1 5 rfl)
set_option maxRecDepth 20000 in
theorem dX2_takeFirst_22 : decode cX2_takeFirst 22 = .ok (.invokevirtual 44, 3) := dc_182 0 44 (lxX2_takeFirst 1 6 rfl) (lxX2_takeFirst 1 7 rfl) (lxX2_takeFirst 1 8 rfl)
set_option maxRecDepth 20000 in
theorem dX2_takeFirst_25 : decode cX2_takeFirst 25 = .ok (.invokevirtual 45, 3) := dc_182 0 45 (lxX2_takeFirst 1 9 rfl) (lxX2_takeFirst 1 10 rfl) (lxX2_takeFirst 1 11 rfl)
set_option maxRecDepth 20000 in
theorem dX2_takeFirst_28 : decode cX2_takeFirst 28 = .ok (.pop, 1) := dc_87 (lxX2_takeFirst 1 12 rfl)
set_option maxRecDepth 20000 in
theorem dX2_takeFirst_29 : decode cX2_takeFirst 29 = .ok (.iinc 2 1, 3) := dc_132 2 1 (lxX2_takeFirst 1 13 rfl) (lxX2_takeFirst 1 14 rfl) (lxX2_takeFirst 1 15 rfl)
set_option maxRecDepth 20000 in
theorem dX2_takeFirst_32 : decode cX2_takeFirst 32 = .ok (.goto (-24), 3) := dc_167 255 232 (lxX2_takeFirst 2 0 rfl) (lxX2_takeFirst 2 1 rfl) (lxX2_takeFirst 2 2 rfl)
set_option maxRecDepth 20000 in
theorem dX2_takeFirst_35 : decode cX2_takeFirst 35 = .ok (.aload_n 0, 1) := dc_42 (lxX2_takeFirst 2 3 rfl)
set_option maxRecDepth 20000 in
theorem dX2_takeFirst_36 : decode cX2_takeFirst 36 = .ok (.aload_n 0, 1) := dc_42 (lxX2_takeFirst 2 4 rfl)
set_option maxRecDepth 20000 in
theorem dX2_takeFirst_37 : decode cX2_takeFirst 37 = .ok (.getfield 21, 3) := dc_180 0 21 (lxX2_takeFirst 2 5 rfl) (lxX2_takeFirst 2 6 rfl) (lxX2_takeFirst 2 7 rfl)
set_option maxRecDepth 20000 in
theorem dX2_takeFirst_40 : decode cX2_takeFirst 40 = .ok (.iconst 1, 1) := dc_4 (lxX2_takeFirst 2 8 rfl)
set_option maxRecDepth 20000 in
theorem dX2_takeFirst_41 : decode cX2_takeFirst 41 = .ok (.isub, 1) := dc_100 (lxX2_takeFirst 2 9 rfl)
set_option maxRecDepth 20000 in
theorem dX2_takeFirst_42 : decode cX2_takeFirst 42 = .ok (.iconst 0, 1) := dc_3 (lxX2_takeFirst 2 10 rfl)
set_option maxRecDepth 20000 in
theorem dX2_takeFirst_43 : decode cX2_takeFirst 43 = .ok (.invokestatic 9, 3) := dc_184 0 9 (lxX2_takeFirst 2 11 rfl) (lxX2_takeFirst 2 12 rfl) (lxX2_takeFirst 2 13 rfl)
set_option maxRecDepth 20000 in
theorem dX2_takeFirst_46 : decode cX2_takeFirst 46 = .ok (.putfield 21, 3) := dc_181 0 21 (lxX2_takeFirst 2 14 rfl) (lxX2_takeFirst 2 15 rfl) (lxX2_takeFirst 3 0 rfl)
set_option maxRecDepth 20000 in
theorem dX2_takeFirst_49 : decode cX2_takeFirst 49 = .ok (.iload_n 1, 1) := dc_27 (lxX2_takeFirst 3 1 rfl)
set_option maxRecDepth 20000 in
theorem dX2_takeFirst_50 : decode cX2_takeFirst 50 = .ok (.ireturn, 1) := dc_172 (lxX2_takeFirst 3 2 rfl)
end
section
noncomputable def sgX3_init : List (List Cond) := [[.code yX3_init cX3_init 1 none], [.methodLink RX3 3 objectInit, .instanceMethod objectInit, .code objectInit ⟨#[0xb1]⟩ 1 none, .classLink RX3 9 RX0, .instantiable RX0 3, .initialized RX0, .fieldLink RX3 12 "Sashwords$Seeker" "borders" "LSashwords$Borders;", .arrayClass .int, .fieldLink RX3 18 "Sashwords$Seeker" "places" "[I", .instanceMethod yX0_init, .code yX0_init cX0_init 1 none, .methodLink RX0 3 objectInit, .fieldLink RX0 9 "Sashwords$Borders" "greatest" "[I", .fieldLink RX0 15 "Sashwords$Borders" "chainRow" "[I"], wsX00, wsX30]
theorem seX3_init : sgX3_init.flatten = wsX3_init := by simp only [sgX3_init, wsX3_init, List.flatten_cons, List.flatten_nil, List.append_assoc, List.append_nil, List.cons_append, List.nil_append]
set_option maxRecDepth 20000 in
theorem ggX3_init_X0_init : GoodIn wsX3_init wsX0_init := goodIn_s seX3_init _ [pq_1_10, pq_1_11, pq_1_1, pq_1_2, pq_1_7, pq_1_12, pq_1_13, pq_2_0, pq_2_1, pq_2_2] (by rfl) (by decide +kernel)
set_option maxRecDepth 20000 in
theorem gX3_init_X0_init_n11 : GoodIn wsX3_init (wsX0_init) := ggX3_init_X0_init
def lb_sgX3_init : List (List UInt8) := [[42, 183, 0, 3, 42, 187, 0, 9, 89, 183, 0, 11, 181, 0, 12, 42], [16, 81, 188, 10, 181, 0, 18, 177]]
set_option maxRecDepth 100000 in
theorem lb_seX3_init : cX3_init.data.toList = lb_sgX3_init.flatten := by decide +kernel
theorem lb_lnX3_init : ∀ s ∈ lb_sgX3_init.dropLast, s.length = 16 := by decide +kernel
theorem lxX3_init (k j : Nat) {b : UInt8} (h : (lb_sgX3_init[k]?).bind (fun s => s[j]?) = some b) : lb_at cX3_init (16 * k + j) b := by
  unfold lb_at
  rw [lb_seX3_init]
  exact lb_flat 16 lb_sgX3_init k j b lb_lnX3_init h
set_option maxRecDepth 20000 in
theorem dX3_init_0 : decode cX3_init 0 = .ok (.aload_n 0, 1) := dc_42 (lxX3_init 0 0 rfl)
set_option maxRecDepth 20000 in
theorem dX3_init_1 : decode cX3_init 1 = .ok (.invokespecial 3, 3) := dc_183 0 3 (lxX3_init 0 1 rfl) (lxX3_init 0 2 rfl) (lxX3_init 0 3 rfl)
set_option maxRecDepth 20000 in
theorem dX3_init_4 : decode cX3_init 4 = .ok (.aload_n 0, 1) := dc_42 (lxX3_init 0 4 rfl)
set_option maxRecDepth 20000 in
theorem dX3_init_5 : decode cX3_init 5 = .ok (.new 9, 3) := dc_187 0 9 (lxX3_init 0 5 rfl) (lxX3_init 0 6 rfl) (lxX3_init 0 7 rfl)
set_option maxRecDepth 20000 in
theorem dX3_init_8 : decode cX3_init 8 = .ok (.dup, 1) := dc_89 (lxX3_init 0 8 rfl)
set_option maxRecDepth 20000 in
theorem dX3_init_9 : decode cX3_init 9 = .ok (.invokespecial 11, 3) := dc_183 0 11 (lxX3_init 0 9 rfl) (lxX3_init 0 10 rfl) (lxX3_init 0 11 rfl)
set_option maxRecDepth 20000 in
theorem dX3_init_12 : decode cX3_init 12 = .ok (.putfield 12, 3) := dc_181 0 12 (lxX3_init 0 12 rfl) (lxX3_init 0 13 rfl) (lxX3_init 0 14 rfl)
set_option maxRecDepth 20000 in
theorem dX3_init_15 : decode cX3_init 15 = .ok (.aload_n 0, 1) := dc_42 (lxX3_init 0 15 rfl)
set_option maxRecDepth 20000 in
theorem dX3_init_16 : decode cX3_init 16 = .ok (.bipush 81, 2) := dc_16 81 (lxX3_init 1 0 rfl) (lxX3_init 1 1 rfl)
theorem dX3_init_18 : decode cX3_init 18 = .ok (.newarray .int, 2) := by decide +kernel
set_option maxRecDepth 20000 in
theorem dX3_init_20 : decode cX3_init 20 = .ok (.putfield 18, 3) := dc_181 0 18 (lxX3_init 1 4 rfl) (lxX3_init 1 5 rfl) (lxX3_init 1 6 rfl)
set_option maxRecDepth 20000 in
theorem dX3_init_23 : decode cX3_init 23 = .ok (.return_, 1) := dc_177 (lxX3_init 1 7 rfl)
noncomputable def sgX3_seek : List (List Cond) := [[.code yX3_seek cX3_seek 6 none], wsX3_seek_r1, wsX3_seek_r2, wsX3_seek_r3, wsX30, wsX00, wsX20, wsX50]
theorem seX3_seek : sgX3_seek.flatten = wsX3_seek := by simp only [sgX3_seek, wsX3_seek, List.flatten_cons, List.flatten_nil, List.append_assoc, List.append_nil, List.cons_append, List.nil_append]
set_option maxRecDepth 20000 in
theorem ggX3_seek_X0_measure : GoodIn wsX3_seek wsX0_measure := goodIn_s seX3_seek _ [pq_1_6, pq_1_7, pq_1_8, pq_1_9, pq_1_10, pq_1_11, pq_1_12, pq_1_13, pq_1_14, pq_1_15, pq_1_16, pq_1_17, pq_1_18, pq_1_19, pq_1_20, pq_1_21, pq_1_22, pq_1_23, pq_2_0, pq_2_1, pq_2_2, pq_2_3, pq_2_4, pq_2_5, pq_2_6, pq_2_7, pq_2_8, pq_2_9, pq_2_10, pq_2_11, pq_2_12, pq_2_13, pq_2_14, pq_1_5, pq_2_15, pq_2_16, pq_2_17, pq_2_18, pq_2_19, pq_5_0, pq_5_1, pq_5_2, pq_6_0, pq_6_1, pq_7_0, pq_7_1, pq_7_2, pq_7_3, pq_7_4, pq_7_5] (by rfl) (by decide +kernel)
set_option maxRecDepth 20000 in
theorem gX3_seek_X0_measure : GoodIn wsX3_seek (wsV RX3 26 RX0 yX0_measure wsX0_measure) := goodIn_app (goodIn_s seX3_seek _ [pq_1_2, pq_1_3, pq_1_4, pq_1_5] (by rfl) (by decide +kernel)) ggX3_seek_X0_measure
set_option maxRecDepth 20000 in
theorem ggX3_seek_X2_size : GoodIn wsX3_seek wsX2_size := goodIn_s seX3_seek _ [pq_1_13, pq_1_14, pq_6_0, pq_6_1] (by rfl) (by decide +kernel)
set_option maxRecDepth 20000 in
theorem gX3_seek_X2_size_u30X2 : GoodIn wsX3_seek (va_wsU RX3 30 RX2 "Sashwords$Text" ⟨"Sashwords$Text", "size", "()I"⟩ yX2_size wsX2_size) := goodIn_app (goodIn_s seX3_seek _ [pq_2_20, pq_1_9, pq_1_10, pq_1_11, pq_1_12] (by rfl) (by decide +kernel)) ggX3_seek_X2_size
set_option maxRecDepth 20000 in
theorem ggX3_seek_X5_size : GoodIn wsX3_seek wsX5_size := goodIn_s seX3_seek _ [pq_1_18, pq_1_19, pq_1_20, pq_7_0, pq_7_1, pq_7_2, pq_7_3, pq_7_4, pq_7_5] (by rfl) (by decide +kernel)
set_option maxRecDepth 20000 in
theorem gX3_seek_X5_size_u30X5 : GoodIn wsX3_seek (va_wsU RX3 30 RX5 "Sashwords$Text" ⟨"Sashwords$Text", "size", "()I"⟩ yX5_size wsX5_size) := goodIn_app (goodIn_s seX3_seek _ [pq_2_20, pq_1_9, pq_1_15, pq_1_16, pq_1_17] (by rfl) (by decide +kernel)) ggX3_seek_X5_size
set_option maxRecDepth 20000 in
theorem ggX3_seek_X3_note : GoodIn wsX3_seek wsX3_note := goodIn_s seX3_seek _ [pq_3_1, pq_1_0, pq_3_2, pq_4_0, pq_4_1, pq_4_2] (by rfl) (by decide +kernel)
set_option maxRecDepth 20000 in
theorem gX3_seek_X3_note : GoodIn wsX3_seek (wsV RX3 36 RX3 yX3_note wsX3_note) := goodIn_app (goodIn_s seX3_seek _ [pq_2_21, pq_2_22, pq_2_23, pq_3_0] (by rfl) (by decide +kernel)) ggX3_seek_X3_note
set_option maxRecDepth 20000 in
theorem ggX3_seek_X2_at : GoodIn wsX3_seek wsX2_at := goodIn_s seX3_seek _ [pq_2_1, pq_1_14, pq_2_2, pq_6_0, pq_6_1] (by rfl) (by decide +kernel)
set_option maxRecDepth 20000 in
theorem gX3_seek_X2_at_u40X2 : GoodIn wsX3_seek (va_wsU RX3 40 RX2 "Sashwords$Text" ⟨"Sashwords$Text", "at", "(I)I"⟩ yX2_at wsX2_at) := goodIn_app (goodIn_s seX3_seek _ [pq_3_3, pq_1_22, pq_1_23, pq_2_0, pq_1_12] (by rfl) (by decide +kernel)) ggX3_seek_X2_at
set_option maxRecDepth 20000 in
theorem ggX3_seek_X5_at : GoodIn wsX3_seek wsX5_at := goodIn_s seX3_seek _ [pq_2_5, pq_1_19, pq_1_20, pq_2_6, pq_2_7, pq_2_8, pq_1_17, pq_2_9, pq_2_10, pq_2_11, pq_7_0, pq_7_1, pq_7_2, pq_7_3, pq_7_4, pq_7_5] (by rfl) (by decide +kernel)
set_option maxRecDepth 20000 in
theorem gX3_seek_X5_at_u40X5 : GoodIn wsX3_seek (va_wsU RX3 40 RX5 "Sashwords$Text" ⟨"Sashwords$Text", "at", "(I)I"⟩ yX5_at wsX5_at) := goodIn_app (goodIn_s seX3_seek _ [pq_3_3, pq_1_22, pq_2_3, pq_2_4, pq_1_17] (by rfl) (by decide +kernel)) ggX3_seek_X5_at
set_option maxRecDepth 20000 in
theorem ggX3_seek_X0_grown : GoodIn wsX3_seek wsX0_grown := goodIn_s seX3_seek _ [pq_2_15, pq_1_21, pq_1_22, pq_1_23, pq_2_0, pq_1_12, pq_2_1, pq_1_14, pq_2_2, pq_2_3, pq_2_4, pq_1_17, pq_2_5, pq_1_19, pq_1_20, pq_2_6, pq_2_7, pq_2_8, pq_2_9, pq_2_10, pq_2_11, pq_2_16, pq_2_17, pq_2_18, pq_1_5, pq_2_19, pq_1_7, pq_6_0, pq_6_1, pq_7_0, pq_7_1, pq_7_2, pq_7_3, pq_7_4, pq_7_5, pq_5_0, pq_5_1, pq_5_2] (by rfl) (by decide +kernel)
set_option maxRecDepth 20000 in
theorem gX3_seek_X0_grown : GoodIn wsX3_seek (wsV RX3 44 RX0 yX0_grown wsX0_grown) := goodIn_app (goodIn_s seX3_seek _ [pq_3_4, pq_2_13, pq_2_14, pq_1_5] (by rfl) (by decide +kernel)) ggX3_seek_X0_grown
def lb_sgX3_seek : List (List UInt8) := [[42, 3, 181, 0, 22, 42, 180, 0, 12, 44, 182, 0, 26, 44, 182, 0], [30, 62, 29, 154, 0, 8, 42, 3, 182, 0, 36, 3, 54, 4, 3, 54], [5, 21, 5, 43, 182, 0, 30, 162, 0, 43, 42, 180, 0, 12, 44, 21], [4, 43, 21, 5, 182, 0, 40, 182, 0, 44, 54, 4, 21, 4, 29, 160], [0, 13, 42, 21, 5, 4, 96, 29, 100, 182, 0, 36, 132, 5, 1, 167], [255, 210, 177]]
set_option maxRecDepth 100000 in
theorem lb_seX3_seek : cX3_seek.data.toList = lb_sgX3_seek.flatten := by decide +kernel
theorem lb_lnX3_seek : ∀ s ∈ lb_sgX3_seek.dropLast, s.length = 16 := by decide +kernel
theorem lxX3_seek (k j : Nat) {b : UInt8} (h : (lb_sgX3_seek[k]?).bind (fun s => s[j]?) = some b) : lb_at cX3_seek (16 * k + j) b := by
  unfold lb_at
  rw [lb_seX3_seek]
  exact lb_flat 16 lb_sgX3_seek k j b lb_lnX3_seek h
set_option maxRecDepth 20000 in
theorem dX3_seek_0 : decode cX3_seek 0 = .ok (.aload_n 0, 1) := dc_42 (lxX3_seek 0 0 rfl)
set_option maxRecDepth 20000 in
theorem dX3_seek_1 : decode cX3_seek 1 = .ok (.iconst 0, 1) := dc_3 (lxX3_seek 0 1 rfl)
set_option maxRecDepth 20000 in
theorem dX3_seek_2 : decode cX3_seek 2 = .ok (.putfield 22, 3) := dc_181 0 22 (lxX3_seek 0 2 rfl) (lxX3_seek 0 3 rfl) (lxX3_seek 0 4 rfl)
set_option maxRecDepth 20000 in
theorem dX3_seek_5 : decode cX3_seek 5 = .ok (.aload_n 0, 1) := dc_42 (lxX3_seek 0 5 rfl)
set_option maxRecDepth 20000 in
theorem dX3_seek_6 : decode cX3_seek 6 = .ok (.getfield 12, 3) := dc_180 0 12 (lxX3_seek 0 6 rfl) (lxX3_seek 0 7 rfl) (lxX3_seek 0 8 rfl)
set_option maxRecDepth 20000 in
theorem dX3_seek_9 : decode cX3_seek 9 = .ok (.aload_n 2, 1) := dc_44 (lxX3_seek 0 9 rfl)
set_option maxRecDepth 20000 in
theorem dX3_seek_10 : decode cX3_seek 10 = .ok (.invokevirtual 26, 3) := dc_182 0 26 (lxX3_seek 0 10 rfl) (lxX3_seek 0 11 rfl) (lxX3_seek 0 12 rfl)
set_option maxRecDepth 20000 in
theorem dX3_seek_13 : decode cX3_seek 13 = .ok (.aload_n 2, 1) := dc_44 (lxX3_seek 0 13 rfl)
set_option maxRecDepth 20000 in
theorem dX3_seek_14 : decode cX3_seek 14 = .ok (.invokevirtual 30, 3) := dc_182 0 30 (lxX3_seek 0 14 rfl) (lxX3_seek 0 15 rfl) (lxX3_seek 1 0 rfl)
set_option maxRecDepth 20000 in
theorem dX3_seek_17 : decode cX3_seek 17 = .ok (.istore_n 3, 1) := dc_62 (lxX3_seek 1 1 rfl)
set_option maxRecDepth 20000 in
theorem dX3_seek_18 : decode cX3_seek 18 = .ok (.iload_n 3, 1) := dc_29 (lxX3_seek 1 2 rfl)
set_option maxRecDepth 20000 in
theorem dX3_seek_19 : decode cX3_seek 19 = .ok (.ifCond .ne 8, 3) := dc_154 0 8 (lxX3_seek 1 3 rfl) (lxX3_seek 1 4 rfl) (lxX3_seek 1 5 rfl)
set_option maxRecDepth 20000 in
theorem dX3_seek_22 : decode cX3_seek 22 = .ok (.aload_n 0, 1) := dc_42 (lxX3_seek 1 6 rfl)
set_option maxRecDepth 20000 in
theorem dX3_seek_23 : decode cX3_seek 23 = .ok (.iconst 0, 1) := dc_3 (lxX3_seek 1 7 rfl)
set_option maxRecDepth 20000 in
theorem dX3_seek_24 : decode cX3_seek 24 = .ok (.invokevirtual 36, 3) := dc_182 0 36 (lxX3_seek 1 8 rfl) (lxX3_seek 1 9 rfl) (lxX3_seek 1 10 rfl)
set_option maxRecDepth 20000 in
theorem dX3_seek_27 : decode cX3_seek 27 = .ok (.iconst 0, 1) := dc_3 (lxX3_seek 1 11 rfl)
set_option maxRecDepth 20000 in
theorem dX3_seek_28 : decode cX3_seek 28 = .ok (.istore 4, 2) := dc_54 4 (lxX3_seek 1 12 rfl) (lxX3_seek 1 13 rfl)
set_option maxRecDepth 20000 in
theorem dX3_seek_30 : decode cX3_seek 30 = .ok (.iconst 0, 1) := dc_3 (lxX3_seek 1 14 rfl)
set_option maxRecDepth 20000 in
theorem dX3_seek_31 : decode cX3_seek 31 = .ok (.istore 5, 2) := dc_54 5 (lxX3_seek 1 15 rfl) (lxX3_seek 2 0 rfl)
set_option maxRecDepth 20000 in
theorem dX3_seek_33 : decode cX3_seek 33 = .ok (.iload 5, 2) := dc_21 5 (lxX3_seek 2 1 rfl) (lxX3_seek 2 2 rfl)
set_option maxRecDepth 20000 in
theorem dX3_seek_35 : decode cX3_seek 35 = .ok (.aload_n 1, 1) := dc_43 (lxX3_seek 2 3 rfl)
set_option maxRecDepth 20000 in
theorem dX3_seek_36 : decode cX3_seek 36 = .ok (.invokevirtual 30, 3) := dc_182 0 30 (lxX3_seek 2 4 rfl) (lxX3_seek 2 5 rfl) (lxX3_seek 2 6 rfl)
set_option maxRecDepth 20000 in
theorem dX3_seek_39 : decode cX3_seek 39 = .ok (.if_icmp .ge 43, 3) := dc_162 0 43 (lxX3_seek 2 7 rfl) (lxX3_seek 2 8 rfl) (lxX3_seek 2 9 rfl)
set_option maxRecDepth 20000 in
theorem dX3_seek_42 : decode cX3_seek 42 = .ok (.aload_n 0, 1) := dc_42 (lxX3_seek 2 10 rfl)
set_option maxRecDepth 20000 in
theorem dX3_seek_43 : decode cX3_seek 43 = .ok (.getfield 12, 3) := dc_180 0 12 (lxX3_seek 2 11 rfl) (lxX3_seek 2 12 rfl) (lxX3_seek 2 13 rfl)
set_option maxRecDepth 20000 in
theorem dX3_seek_46 : decode cX3_seek 46 = .ok (.aload_n 2, 1) := dc_44 (lxX3_seek 2 14 rfl)
set_option maxRecDepth 20000 in
theorem dX3_seek_47 : decode cX3_seek 47 = .ok (.iload 4, 2) := dc_21 4 (lxX3_seek 2 15 rfl) (lxX3_seek 3 0 rfl)
set_option maxRecDepth 20000 in
theorem dX3_seek_49 : decode cX3_seek 49 = .ok (.aload_n 1, 1) := dc_43 (lxX3_seek 3 1 rfl)
set_option maxRecDepth 20000 in
theorem dX3_seek_50 : decode cX3_seek 50 = .ok (.iload 5, 2) := dc_21 5 (lxX3_seek 3 2 rfl) (lxX3_seek 3 3 rfl)
set_option maxRecDepth 20000 in
theorem dX3_seek_52 : decode cX3_seek 52 = .ok (.invokevirtual 40, 3) := dc_182 0 40 (lxX3_seek 3 4 rfl) (lxX3_seek 3 5 rfl) (lxX3_seek 3 6 rfl)
set_option maxRecDepth 20000 in
theorem dX3_seek_55 : decode cX3_seek 55 = .ok (.invokevirtual 44, 3) := dc_182 0 44 (lxX3_seek 3 7 rfl) (lxX3_seek 3 8 rfl) (lxX3_seek 3 9 rfl)
set_option maxRecDepth 20000 in
theorem dX3_seek_58 : decode cX3_seek 58 = .ok (.istore 4, 2) := dc_54 4 (lxX3_seek 3 10 rfl) (lxX3_seek 3 11 rfl)
set_option maxRecDepth 20000 in
theorem dX3_seek_60 : decode cX3_seek 60 = .ok (.iload 4, 2) := dc_21 4 (lxX3_seek 3 12 rfl) (lxX3_seek 3 13 rfl)
set_option maxRecDepth 20000 in
theorem dX3_seek_62 : decode cX3_seek 62 = .ok (.iload_n 3, 1) := dc_29 (lxX3_seek 3 14 rfl)
set_option maxRecDepth 20000 in
theorem dX3_seek_63 : decode cX3_seek 63 = .ok (.if_icmp .ne 13, 3) := dc_160 0 13 (lxX3_seek 3 15 rfl) (lxX3_seek 4 0 rfl) (lxX3_seek 4 1 rfl)
set_option maxRecDepth 20000 in
theorem dX3_seek_66 : decode cX3_seek 66 = .ok (.aload_n 0, 1) := dc_42 (lxX3_seek 4 2 rfl)
set_option maxRecDepth 20000 in
theorem dX3_seek_67 : decode cX3_seek 67 = .ok (.iload 5, 2) := dc_21 5 (lxX3_seek 4 3 rfl) (lxX3_seek 4 4 rfl)
set_option maxRecDepth 20000 in
theorem dX3_seek_69 : decode cX3_seek 69 = .ok (.iconst 1, 1) := dc_4 (lxX3_seek 4 5 rfl)
set_option maxRecDepth 20000 in
theorem dX3_seek_70 : decode cX3_seek 70 = .ok (.iadd, 1) := dc_96 (lxX3_seek 4 6 rfl)
set_option maxRecDepth 20000 in
theorem dX3_seek_71 : decode cX3_seek 71 = .ok (.iload_n 3, 1) := dc_29 (lxX3_seek 4 7 rfl)
set_option maxRecDepth 20000 in
theorem dX3_seek_72 : decode cX3_seek 72 = .ok (.isub, 1) := dc_100 (lxX3_seek 4 8 rfl)
set_option maxRecDepth 20000 in
theorem dX3_seek_73 : decode cX3_seek 73 = .ok (.invokevirtual 36, 3) := dc_182 0 36 (lxX3_seek 4 9 rfl) (lxX3_seek 4 10 rfl) (lxX3_seek 4 11 rfl)
set_option maxRecDepth 20000 in
theorem dX3_seek_76 : decode cX3_seek 76 = .ok (.iinc 5 1, 3) := dc_132 5 1 (lxX3_seek 4 12 rfl) (lxX3_seek 4 13 rfl) (lxX3_seek 4 14 rfl)
set_option maxRecDepth 20000 in
theorem dX3_seek_79 : decode cX3_seek 79 = .ok (.goto (-46), 3) := dc_167 255 210 (lxX3_seek 4 15 rfl) (lxX3_seek 5 0 rfl) (lxX3_seek 5 1 rfl)
set_option maxRecDepth 20000 in
theorem dX3_seek_82 : decode cX3_seek 82 = .ok (.return_, 1) := dc_177 (lxX3_seek 5 2 rfl)
def lb_sgX3_foundAt : List (List UInt8) := [[27, 155, 0, 20, 27, 42, 180, 0, 22, 162, 0, 12, 27, 42, 180, 0], [18, 190, 161, 0, 7, 2, 167, 0, 9, 42, 180, 0, 18, 27, 46, 172]]
set_option maxRecDepth 100000 in
theorem lb_seX3_foundAt : cX3_foundAt.data.toList = lb_sgX3_foundAt.flatten := by decide +kernel
theorem lb_lnX3_foundAt : ∀ s ∈ lb_sgX3_foundAt.dropLast, s.length = 16 := by decide +kernel
theorem lxX3_foundAt (k j : Nat) {b : UInt8} (h : (lb_sgX3_foundAt[k]?).bind (fun s => s[j]?) = some b) : lb_at cX3_foundAt (16 * k + j) b := by
  unfold lb_at
  rw [lb_seX3_foundAt]
  exact lb_flat 16 lb_sgX3_foundAt k j b lb_lnX3_foundAt h
set_option maxRecDepth 20000 in
theorem dX3_foundAt_0 : decode cX3_foundAt 0 = .ok (.iload_n 1, 1) := dc_27 (lxX3_foundAt 0 0 rfl)
set_option maxRecDepth 20000 in
theorem dX3_foundAt_1 : decode cX3_foundAt 1 = .ok (.ifCond .lt 20, 3) := dc_155 0 20 (lxX3_foundAt 0 1 rfl) (lxX3_foundAt 0 2 rfl) (lxX3_foundAt 0 3 rfl)
set_option maxRecDepth 20000 in
theorem dX3_foundAt_4 : decode cX3_foundAt 4 = .ok (.iload_n 1, 1) := dc_27 (lxX3_foundAt 0 4 rfl)
set_option maxRecDepth 20000 in
theorem dX3_foundAt_5 : decode cX3_foundAt 5 = .ok (.aload_n 0, 1) := dc_42 (lxX3_foundAt 0 5 rfl)
set_option maxRecDepth 20000 in
theorem dX3_foundAt_6 : decode cX3_foundAt 6 = .ok (.getfield 22, 3) := dc_180 0 22 (lxX3_foundAt 0 6 rfl) (lxX3_foundAt 0 7 rfl) (lxX3_foundAt 0 8 rfl)
set_option maxRecDepth 20000 in
theorem dX3_foundAt_9 : decode cX3_foundAt 9 = .ok (.if_icmp .ge 12, 3) := dc_162 0 12 (lxX3_foundAt 0 9 rfl) (lxX3_foundAt 0 10 rfl) (lxX3_foundAt 0 11 rfl)
set_option maxRecDepth 20000 in
theorem dX3_foundAt_12 : decode cX3_foundAt 12 = .ok (.iload_n 1, 1) := dc_27 (lxX3_foundAt 0 12 rfl)
set_option maxRecDepth 20000 in
theorem dX3_foundAt_13 : decode cX3_foundAt 13 = .ok (.aload_n 0, 1) := dc_42 (lxX3_foundAt 0 13 rfl)
set_option maxRecDepth 20000 in
theorem dX3_foundAt_14 : decode cX3_foundAt 14 = .ok (.getfield 18, 3) := dc_180 0 18 (lxX3_foundAt 0 14 rfl) (lxX3_foundAt 0 15 rfl) (lxX3_foundAt 1 0 rfl)
set_option maxRecDepth 20000 in
theorem dX3_foundAt_17 : decode cX3_foundAt 17 = .ok (.arraylength, 1) := dc_190 (lxX3_foundAt 1 1 rfl)
set_option maxRecDepth 20000 in
theorem dX3_foundAt_18 : decode cX3_foundAt 18 = .ok (.if_icmp .lt 7, 3) := dc_161 0 7 (lxX3_foundAt 1 2 rfl) (lxX3_foundAt 1 3 rfl) (lxX3_foundAt 1 4 rfl)
set_option maxRecDepth 20000 in
theorem dX3_foundAt_21 : decode cX3_foundAt 21 = .ok (.iconst (-1), 1) := dc_2 (lxX3_foundAt 1 5 rfl)
set_option maxRecDepth 20000 in
theorem dX3_foundAt_22 : decode cX3_foundAt 22 = .ok (.goto 9, 3) := dc_167 0 9 (lxX3_foundAt 1 6 rfl) (lxX3_foundAt 1 7 rfl) (lxX3_foundAt 1 8 rfl)
set_option maxRecDepth 20000 in
theorem dX3_foundAt_25 : decode cX3_foundAt 25 = .ok (.aload_n 0, 1) := dc_42 (lxX3_foundAt 1 9 rfl)
set_option maxRecDepth 20000 in
theorem dX3_foundAt_26 : decode cX3_foundAt 26 = .ok (.getfield 18, 3) := dc_180 0 18 (lxX3_foundAt 1 10 rfl) (lxX3_foundAt 1 11 rfl) (lxX3_foundAt 1 12 rfl)
set_option maxRecDepth 20000 in
theorem dX3_foundAt_29 : decode cX3_foundAt 29 = .ok (.iload_n 1, 1) := dc_27 (lxX3_foundAt 1 13 rfl)
set_option maxRecDepth 20000 in
theorem dX3_foundAt_30 : decode cX3_foundAt 30 = .ok (.iaload, 1) := dc_46 (lxX3_foundAt 1 14 rfl)
set_option maxRecDepth 20000 in
theorem dX3_foundAt_31 : decode cX3_foundAt 31 = .ok (.ireturn, 1) := dc_172 (lxX3_foundAt 1 15 rfl)
def lb_sgX3_note : List (List UInt8) := [[42, 180, 0, 22, 155, 0, 35, 42, 180, 0, 22, 42, 180, 0, 18, 190], [162, 0, 23, 42, 180, 0, 18, 42, 180, 0, 22, 27, 79, 42, 89, 180], [0, 22, 4, 96, 181, 0, 22, 177]]
set_option maxRecDepth 100000 in
theorem lb_seX3_note : cX3_note.data.toList = lb_sgX3_note.flatten := by decide +kernel
theorem lb_lnX3_note : ∀ s ∈ lb_sgX3_note.dropLast, s.length = 16 := by decide +kernel
theorem lxX3_note (k j : Nat) {b : UInt8} (h : (lb_sgX3_note[k]?).bind (fun s => s[j]?) = some b) : lb_at cX3_note (16 * k + j) b := by
  unfold lb_at
  rw [lb_seX3_note]
  exact lb_flat 16 lb_sgX3_note k j b lb_lnX3_note h
set_option maxRecDepth 20000 in
theorem dX3_note_0 : decode cX3_note 0 = .ok (.aload_n 0, 1) := dc_42 (lxX3_note 0 0 rfl)
set_option maxRecDepth 20000 in
theorem dX3_note_1 : decode cX3_note 1 = .ok (.getfield 22, 3) := dc_180 0 22 (lxX3_note 0 1 rfl) (lxX3_note 0 2 rfl) (lxX3_note 0 3 rfl)
set_option maxRecDepth 20000 in
theorem dX3_note_4 : decode cX3_note 4 = .ok (.ifCond .lt 35, 3) := dc_155 0 35 (lxX3_note 0 4 rfl) (lxX3_note 0 5 rfl) (lxX3_note 0 6 rfl)
set_option maxRecDepth 20000 in
theorem dX3_note_7 : decode cX3_note 7 = .ok (.aload_n 0, 1) := dc_42 (lxX3_note 0 7 rfl)
set_option maxRecDepth 20000 in
theorem dX3_note_8 : decode cX3_note 8 = .ok (.getfield 22, 3) := dc_180 0 22 (lxX3_note 0 8 rfl) (lxX3_note 0 9 rfl) (lxX3_note 0 10 rfl)
set_option maxRecDepth 20000 in
theorem dX3_note_11 : decode cX3_note 11 = .ok (.aload_n 0, 1) := dc_42 (lxX3_note 0 11 rfl)
set_option maxRecDepth 20000 in
theorem dX3_note_12 : decode cX3_note 12 = .ok (.getfield 18, 3) := dc_180 0 18 (lxX3_note 0 12 rfl) (lxX3_note 0 13 rfl) (lxX3_note 0 14 rfl)
set_option maxRecDepth 20000 in
theorem dX3_note_15 : decode cX3_note 15 = .ok (.arraylength, 1) := dc_190 (lxX3_note 0 15 rfl)
set_option maxRecDepth 20000 in
theorem dX3_note_16 : decode cX3_note 16 = .ok (.if_icmp .ge 23, 3) := dc_162 0 23 (lxX3_note 1 0 rfl) (lxX3_note 1 1 rfl) (lxX3_note 1 2 rfl)
set_option maxRecDepth 20000 in
theorem dX3_note_19 : decode cX3_note 19 = .ok (.aload_n 0, 1) := dc_42 (lxX3_note 1 3 rfl)
set_option maxRecDepth 20000 in
theorem dX3_note_20 : decode cX3_note 20 = .ok (.getfield 18, 3) := dc_180 0 18 (lxX3_note 1 4 rfl) (lxX3_note 1 5 rfl) (lxX3_note 1 6 rfl)
set_option maxRecDepth 20000 in
theorem dX3_note_23 : decode cX3_note 23 = .ok (.aload_n 0, 1) := dc_42 (lxX3_note 1 7 rfl)
set_option maxRecDepth 20000 in
theorem dX3_note_24 : decode cX3_note 24 = .ok (.getfield 22, 3) := dc_180 0 22 (lxX3_note 1 8 rfl) (lxX3_note 1 9 rfl) (lxX3_note 1 10 rfl)
set_option maxRecDepth 20000 in
theorem dX3_note_27 : decode cX3_note 27 = .ok (.iload_n 1, 1) := dc_27 (lxX3_note 1 11 rfl)
set_option maxRecDepth 20000 in
theorem dX3_note_28 : decode cX3_note 28 = .ok (.iastore, 1) := dc_79 (lxX3_note 1 12 rfl)
set_option maxRecDepth 20000 in
theorem dX3_note_29 : decode cX3_note 29 = .ok (.aload_n 0, 1) := dc_42 (lxX3_note 1 13 rfl)
set_option maxRecDepth 20000 in
theorem dX3_note_30 : decode cX3_note 30 = .ok (.dup, 1) := dc_89 (lxX3_note 1 14 rfl)
set_option maxRecDepth 20000 in
theorem dX3_note_31 : decode cX3_note 31 = .ok (.getfield 22, 3) := dc_180 0 22 (lxX3_note 1 15 rfl) (lxX3_note 2 0 rfl) (lxX3_note 2 1 rfl)
set_option maxRecDepth 20000 in
theorem dX3_note_34 : decode cX3_note 34 = .ok (.iconst 1, 1) := dc_4 (lxX3_note 2 2 rfl)
set_option maxRecDepth 20000 in
theorem dX3_note_35 : decode cX3_note 35 = .ok (.iadd, 1) := dc_96 (lxX3_note 2 3 rfl)
set_option maxRecDepth 20000 in
theorem dX3_note_36 : decode cX3_note 36 = .ok (.putfield 22, 3) := dc_181 0 22 (lxX3_note 2 4 rfl) (lxX3_note 2 5 rfl) (lxX3_note 2 6 rfl)
set_option maxRecDepth 20000 in
theorem dX3_note_39 : decode cX3_note 39 = .ok (.return_, 1) := dc_177 (lxX3_note 2 7 rfl)
end
section
set_option maxRecDepth 20000 in
theorem dX4_init_0 : decode cX4_init 0 = .ok (.aload_n 0, 1) := dc_42 rfl
set_option maxRecDepth 20000 in
theorem dX4_init_1 : decode cX4_init 1 = .ok (.invokespecial 1, 3) := dc_183 0 1 rfl rfl rfl
set_option maxRecDepth 20000 in
theorem dX4_init_4 : decode cX4_init 4 = .ok (.return_, 1) := dc_177 rfl

set_option maxRecDepth 20000 in
theorem dX7_init_0 : decode cX7_init 0 = .ok (.aload_n 0, 1) := dc_42 rfl
set_option maxRecDepth 20000 in
theorem dX7_init_1 : decode cX7_init 1 = .ok (.invokespecial 1, 3) := dc_183 0 1 rfl rfl rfl
set_option maxRecDepth 20000 in
theorem dX7_init_4 : decode cX7_init 4 = .ok (.return_, 1) := dc_177 rfl
end
