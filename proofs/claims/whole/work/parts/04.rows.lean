/-! rows by which simp reads the tables -/
theorem rt_0 : (vc_hd 0).2.2.2.1 = some .int := rfl
theorem rt_1 : (vc_hd 1).2.2.2.1 = none := rfl
theorem rt_2 : (vc_hd 2).2.2.2.1 = some .boolean := rfl
theorem rt_3 : (vc_hd 3).2.2.2.1 = none := rfl
theorem rt_4 : (vc_hd 4).2.2.2.1 = some .int := rfl
theorem rt_5 : (vc_hd 5).2.2.2.1 = some .boolean := rfl
theorem rt_6 : (vc_hd 6).2.2.2.1 = some .int := rfl
theorem rt_7 : (vc_hd 7).2.2.2.1 = none := rfl
theorem rt_8 : (vc_hd 8).2.2.2.1 = some .int := rfl
theorem rt_9 : (vc_hd 9).2.2.2.1 = some .boolean := rfl
theorem rt_10 : (vc_hd 10).2.2.2.1 = some .int := rfl
theorem rt_11 : (vc_hd 11).2.2.2.1 = some .int := rfl
theorem rt_12 : (vc_hd 12).2.2.2.1 = some .int := rfl
theorem rt_13 : (vc_hd 13).2.2.2.1 = none := rfl
theorem rt_14 : (vc_hd 14).2.2.2.1 = none := rfl
theorem rt_15 : (vc_hd 15).2.2.2.1 = some .int := rfl
theorem rt_16 : (vc_hd 16).2.2.2.1 = none := rfl
theorem rt_17 : (vc_hd 17).2.2.2.1 = some .int := rfl
theorem rt_18 : (vc_hd 18).2.2.2.1 = some .boolean := rfl
theorem rt_19 : (vc_hd 19).2.2.2.1 = none := rfl
theorem rt_20 : (vc_hd 20).2.2.2.1 = none := rfl
theorem rt_21 : (vc_hd 21).2.2.2.1 = none := rfl
theorem rt_22 : (vc_hd 22).2.2.2.1 = none := rfl
theorem rt_23 : (vc_hd 23).2.2.2.1 = none := rfl
theorem rt_24 : (vc_hd 24).2.2.2.1 = some .int := rfl
theorem rt_25 : (vc_hd 25).2.2.2.1 = none := rfl
theorem rt_26 : (vc_hd 26).2.2.2.1 = some .int := rfl
theorem rt_27 : (vc_hd 27).2.2.2.1 = some .int := rfl
theorem rt_28 : (vc_hd 28).2.2.2.1 = some .int := rfl
theorem rt_29 : (vc_hd 29).2.2.2.1 = some .int := rfl
theorem rt_30 : (vc_hd 30).2.2.2.1 = some .int := rfl
theorem rt_31 : (vc_hd 31).2.2.2.1 = some .int := rfl
theorem rt_32 : (vc_hd 32).2.2.2.1 = some .int := rfl
theorem rt_33 : (vc_hd 33).2.2.2.1 = some .int := rfl
theorem rt_34 : (vc_hd 34).2.2.2.1 = some .int := rfl
theorem rt_35 : (vc_hd 35).2.2.2.1 = some .int := rfl
theorem rt_36 : (vc_hd 36).2.2.2.1 = some .boolean := rfl
theorem rt_37 : (vc_hd 37).2.2.2.1 = some .boolean := rfl
theorem rt_38 : (vc_hd 38).2.2.2.1 = none := rfl
theorem rt_39 : (vc_hd 39).2.2.2.1 = none := rfl
theorem rt_40 : (vc_hd 40).2.2.2.1 = some .long := rfl
theorem rt_41 : (vc_hd 41).2.2.2.1 = some .int := rfl
theorem rt_42 : (vc_hd 42).2.2.2.1 = some .int := rfl
theorem rt_43 : (vc_hd 43).2.2.2.1 = some .int := rfl
theorem rt_44 : (vc_hd 44).2.2.2.1 = some .int := rfl
theorem rt_45 : (vc_hd 45).2.2.2.1 = some .int := rfl
theorem rt_46 : (vc_hd 46).2.2.2.1 = some .int := rfl
theorem rt_47 : (vc_hd 47).2.2.2.1 = some .int := rfl
theorem rt_48 : (vc_hd 48).2.2.2.1 = some .int := rfl
theorem rt_49 : (vc_hd 49).2.2.2.1 = some .int := rfl
theorem rt_50 : (vc_hd 50).2.2.2.1 = some .int := rfl
theorem rt_51 : (vc_hd 51).2.2.2.1 = some .int := rfl
theorem rt_52 : (vc_hd 52).2.2.2.1 = some .int := rfl
theorem rt_53 : (vc_hd 53).2.2.2.1 = some .int := rfl
theorem rt_54 : (vc_hd 54).2.2.2.1 = some .int := rfl
theorem rt_55 : (vc_hd 55).2.2.2.1 = some .int := rfl
theorem rt_56 : (vc_hd 56).2.2.2.1 = some .int := rfl
theorem rt_57 : (vc_hd 57).2.2.2.1 = some .int := rfl
theorem rt_58 : (vc_hd 58).2.2.2.1 = some .int := rfl
theorem rt_59 : (vc_hd 59).2.2.2.1 = some .int := rfl
theorem rt_60 : (vc_hd 60).2.2.2.1 = some .int := rfl
theorem rt_61 : (vc_hd 61).2.2.2.1 = some .int := rfl
theorem rt_62 : (vc_hd 62).2.2.2.1 = some .int := rfl
theorem rt_63 : (vc_hd 63).2.2.2.1 = some .int := rfl
theorem rt_64 : (vc_hd 64).2.2.2.1 = some .int := rfl
theorem rt_65 : (vc_hd 65).2.2.2.1 = some .int := rfl
theorem rt_66 : (vc_hd 66).2.2.2.1 = some .int := rfl
theorem rt_67 : (vc_hd 67).2.2.2.1 = some .int := rfl
theorem rt_68 : (vc_hd 68).2.2.2.1 = some .int := rfl
theorem rt_69 : (vc_hd 69).2.2.2.1 = some .int := rfl
theorem rt_70 : (vc_hd 70).2.2.2.1 = some .long := rfl
theorem rt_71 : (vc_hd 71).2.2.2.1 = some .int := rfl
theorem rt_72 : (vc_hd 72).2.2.2.1 = some .int := rfl
theorem rt_73 : (vc_hd 73).2.2.2.1 = some .int := rfl
theorem rt_74 : (vc_hd 74).2.2.2.1 = some .int := rfl
theorem rt_75 : (vc_hd 75).2.2.2.1 = some .int := rfl
theorem rt_76 : (vc_hd 76).2.2.2.1 = some .int := rfl
theorem rt_77 : (vc_hd 77).2.2.2.1 = some .int := rfl
theorem rt_78 : (vc_hd 78).2.2.2.1 = some .int := rfl
theorem rt_79 : (vc_hd 79).2.2.2.1 = some .long := rfl
theorem rt_80 : (vc_hd 80).2.2.2.1 = some .long := rfl
theorem rt_81 : (vc_hd 81).2.2.2.1 = some .long := rfl
theorem rt_82 : (vc_hd 82).2.2.2.1 = some .long := rfl
theorem rt_83 : (vc_hd 83).2.2.2.1 = some .long := rfl
theorem rt_84 : (vc_hd 84).2.2.2.1 = some .long := rfl
theorem rt_85 : (vc_hd 85).2.2.2.1 = some .long := rfl
theorem rt_86 : (vc_hd 86).2.2.2.1 = some .boolean := rfl
theorem rt_87 : (vc_hd 87).2.2.2.1 = some .boolean := rfl
theorem rt_88 : (vc_hd 88).2.2.2.1 = some .boolean := rfl
theorem rt_89 : (vc_hd 89).2.2.2.1 = some .boolean := rfl
theorem rt_90 : (vc_hd 90).2.2.2.1 = some (.object "MarkedByNext$Text") := rfl
theorem rt_91 : (vc_hd 91).2.2.2.1 = none := rfl
theorem rt_92 : (vc_hd 92).2.2.2.1 = none := rfl
theorem rt_93 : (vc_hd 93).2.2.2.1 = some (.object "MarkedByNext$Year") := rfl
theorem rt_94 : (vc_hd 94).2.2.2.1 = some .int := rfl
theorem rt_95 : (vc_hd 95).2.2.2.1 = some .boolean := rfl
theorem rt_96 : (vc_hd 96).2.2.2.1 = none := rfl
theorem rt_97 : (vc_hd 97).2.2.2.1 = none := rfl
theorem rt_98 : (vc_hd 98).2.2.2.1 = none := rfl
theorem rt_99 : (vc_hd 99).2.2.2.1 = none := rfl
theorem rt_100 : (vc_hd 100).2.2.2.1 = none := rfl
theorem rt_101 : (vc_hd 101).2.2.2.1 = some .boolean := rfl
theorem rt_102 : (vc_hd 102).2.2.2.1 = none := rfl
theorem rt_103 : (vc_hd 103).2.2.2.1 = some .int := rfl
theorem rt_104 : (vc_hd 104).2.2.2.1 = some .int := rfl
theorem rt_105 : (vc_hd 105).2.2.2.1 = none := rfl
theorem rt_106 : (vc_hd 106).2.2.2.1 = none := rfl
theorem rt_107 : (vc_hd 107).2.2.2.1 = some .long := rfl
theorem rt_108 : (vc_hd 108).2.2.2.1 = some .long := rfl
theorem rt_109 : (vc_hd 109).2.2.2.1 = some .boolean := rfl
theorem rt_110 : (vc_hd 110).2.2.2.1 = some .boolean := rfl
theorem rt_111 : (vc_hd 111).2.2.2.1 = some .long := rfl
theorem rt_112 : (vc_hd 112).2.2.2.1 = some .long := rfl
theorem rt_113 : (vc_hd 113).2.2.2.1 = some .boolean := rfl
theorem rt_114 : (vc_hd 114).2.2.2.1 = some .boolean := rfl
theorem rt_115 : (vc_hd 115).2.2.2.1 = some .boolean := rfl
theorem rt_116 : (vc_hd 116).2.2.2.1 = some .boolean := rfl
theorem rt_117 : (vc_hd 117).2.2.2.1 = some .int := rfl
theorem rt_118 : (vc_hd 118).2.2.2.1 = some .int := rfl
theorem rt_119 : (vc_hd 119).2.2.2.1 = some .int := rfl
theorem rt_120 : (vc_hd 120).2.2.2.1 = some .int := rfl
theorem rt_121 : (vc_hd 121).2.2.2.1 = some .int := rfl
theorem rt_122 : (vc_hd 122).2.2.2.1 = some .int := rfl
theorem rt_123 : (vc_hd 123).2.2.2.1 = some .int := rfl
theorem rt_124 : (vc_hd 124).2.2.2.1 = some .int := rfl
theorem rt_125 : (vc_hd 125).2.2.2.1 = some .int := rfl
theorem rt_126 : (vc_hd 126).2.2.2.1 = none := rfl
theorem rt_127 : (vc_hd 127).2.2.2.1 = some .int := rfl
theorem rt_128 : (vc_hd 128).2.2.2.1 = some .boolean := rfl
theorem rt_129 : (vc_hd 129).2.2.2.1 = some .boolean := rfl
theorem rt_130 : (vc_hd 130).2.2.2.1 = some .int := rfl
theorem rt_131 : (vc_hd 131).2.2.2.1 = some .int := rfl
theorem rt_132 : (vc_hd 132).2.2.2.1 = some .int := rfl
theorem rt_133 : (vc_hd 133).2.2.2.1 = some .int := rfl
theorem rt_134 : (vc_hd 134).2.2.2.1 = some .int := rfl
theorem rt_135 : (vc_hd 135).2.2.2.1 = some .int := rfl
theorem rt_136 : (vc_hd 136).2.2.2.1 = some .int := rfl
theorem rt_137 : (vc_hd 137).2.2.2.1 = some .int := rfl
theorem rt_138 : (vc_hd 138).2.2.2.1 = some .int := rfl
theorem rt_139 : (vc_hd 139).2.2.2.1 = none := rfl
theorem rt_140 : (vc_hd 140).2.2.2.1 = none := rfl
theorem rt_141 : (vc_hd 141).2.2.2.1 = some .int := rfl
theorem rt_142 : (vc_hd 142).2.2.2.1 = some .int := rfl
theorem rt_143 : (vc_hd 143).2.2.2.1 = some .int := rfl
theorem rt_144 : (vc_hd 144).2.2.2.1 = some .int := rfl
theorem rt_145 : (vc_hd 145).2.2.2.1 = none := rfl
theorem rt_146 : (vc_hd 146).2.2.2.1 = none := rfl
theorem rt_147 : (vc_hd 147).2.2.2.1 = none := rfl
theorem rt_148 : (vc_hd 148).2.2.2.1 = none := rfl
theorem rt_149 : (vc_hd 149).2.2.2.1 = some .int := rfl
theorem rt_150 : (vc_hd 150).2.2.2.1 = some .int := rfl
theorem rt_151 : (vc_hd 151).2.2.2.1 = some .int := rfl
theorem rt_152 : (vc_hd 152).2.2.2.1 = some .int := rfl
theorem rt_153 : (vc_hd 153).2.2.2.1 = some .int := rfl
theorem rt_154 : (vc_hd 154).2.2.2.1 = some .int := rfl
theorem rt_155 : (vc_hd 155).2.2.2.1 = some .int := rfl
theorem rt_156 : (vc_hd 156).2.2.2.1 = some .int := rfl
theorem rt_157 : (vc_hd 157).2.2.2.1 = some .int := rfl
theorem rt_158 : (vc_hd 158).2.2.2.1 = some .int := rfl
theorem rt_159 : (vc_hd 159).2.2.2.1 = some .int := rfl
theorem rt_160 : (vc_hd 160).2.2.2.1 = some .int := rfl
theorem rt_161 : (vc_hd 161).2.2.2.1 = some .int := rfl
theorem rt_162 : (vc_hd 162).2.2.2.1 = some .int := rfl
theorem rt_163 : (vc_hd 163).2.2.2.1 = some .int := rfl
theorem rt_164 : (vc_hd 164).2.2.2.1 = some .int := rfl
theorem rt_165 : (vc_hd 165).2.2.2.1 = some .int := rfl
theorem rt_166 : (vc_hd 166).2.2.2.1 = some .int := rfl
theorem rt_167 : (vc_hd 167).2.2.2.1 = some .int := rfl
theorem rt_168 : (vc_hd 168).2.2.2.1 = some .int := rfl
theorem rt_169 : (vc_hd 169).2.2.2.1 = some .int := rfl
theorem rt_170 : (vc_hd 170).2.2.2.1 = none := rfl
theorem rt_171 : (vc_hd 171).2.2.2.1 = some .int := rfl
theorem rt_172 : (vc_hd 172).2.2.2.1 = some .int := rfl
theorem rt_173 : (vc_hd 173).2.2.2.1 = some .int := rfl
theorem rt_174 : (vc_hd 174).2.2.2.1 = some .int := rfl
theorem rt_175 : (vc_hd 175).2.2.2.1 = some .int := rfl
theorem rt_176 : (vc_hd 176).2.2.2.1 = some .int := rfl
theorem rt_177 : (vc_hd 177).2.2.2.1 = some .int := rfl
theorem rt_178 : (vc_hd 178).2.2.2.1 = some .int := rfl
theorem rt_179 : (vc_hd 179).2.2.2.1 = some .boolean := rfl
theorem rt_180 : (vc_hd 180).2.2.2.1 = some .int := rfl
theorem rt_181 : (vc_hd 181).2.2.2.1 = some .int := rfl
theorem rt_182 : (vc_hd 182).2.2.2.1 = some .int := rfl
theorem rt_183 : (vc_hd 183).2.2.2.1 = some .int := rfl
theorem rt_184 : (vc_hd 184).2.2.2.1 = some .int := rfl
theorem rt_185 : (vc_hd 185).2.2.2.1 = some .boolean := rfl
theorem rt_186 : (vc_hd 186).2.2.2.1 = some .int := rfl
theorem rt_187 : (vc_hd 187).2.2.2.1 = some .int := rfl
theorem rt_188 : (vc_hd 188).2.2.2.1 = some .int := rfl
theorem rt_189 : (vc_hd 189).2.2.2.1 = some .int := rfl
theorem rt_190 : (vc_hd 190).2.2.2.1 = some .int := rfl
theorem rt_191 : (vc_hd 191).2.2.2.1 = some .int := rfl
theorem rt_192 : (vc_hd 192).2.2.2.1 = some .int := rfl
theorem rt_193 : (vc_hd 193).2.2.2.1 = some .int := rfl
theorem rt_194 : (vc_hd 194).2.2.2.1 = some .long := rfl
theorem rt_195 : (vc_hd 195).2.2.2.1 = some .long := rfl
theorem rt_196 : (vc_hd 196).2.2.2.1 = some .int := rfl
theorem rt_197 : (vc_hd 197).2.2.2.1 = some .int := rfl
theorem rt_198 : (vc_hd 198).2.2.2.1 = some .int := rfl
theorem rt_199 : (vc_hd 199).2.2.2.1 = some .int := rfl
theorem rt_200 : (vc_hd 200).2.2.2.1 = some .boolean := rfl
theorem rt_201 : (vc_hd 201).2.2.2.1 = some .int := rfl
theorem rt_202 : (vc_hd 202).2.2.2.1 = some .int := rfl
theorem rt_203 : (vc_hd 203).2.2.2.1 = some .int := rfl
theorem rt_204 : (vc_hd 204).2.2.2.1 = none := rfl
theorem rt_205 : (vc_hd 205).2.2.2.1 = some .int := rfl
theorem rt_206 : (vc_hd 206).2.2.2.1 = some .int := rfl
theorem rt_207 : (vc_hd 207).2.2.2.1 = some .int := rfl
theorem rt_208 : (vc_hd 208).2.2.2.1 = some .int := rfl
theorem rt_209 : (vc_hd 209).2.2.2.1 = some .int := rfl
theorem rt_210 : (vc_hd 210).2.2.2.1 = some .int := rfl
theorem rt_211 : (vc_hd 211).2.2.2.1 = some .int := rfl
theorem rt_212 : (vc_hd 212).2.2.2.1 = some .long := rfl
theorem rt_213 : (vc_hd 213).2.2.2.1 = some .long := rfl
theorem rt_214 : (vc_hd 214).2.2.2.1 = some .long := rfl
theorem rt_215 : (vc_hd 215).2.2.2.1 = some .long := rfl
theorem rt_216 : (vc_hd 216).2.2.2.1 = some .boolean := rfl
theorem tb_x0 : (vc_cls 0 = 12) ∧ (vc_fld 0 9 0 = some (some 1)) ∧ (vc_fld 0 9 1 = some (some 3)) ∧ (vc_fld 0 9 2 = some (some 5)) ∧ (vc_fld 0 9 3 = some (some 8)) ∧ (vc_fld 0 9 4 = some (some 11)) ∧ (vc_fld 0 9 5 = some (some 15)) ∧ (vc_fld 0 9 6 = some (some 20)) ∧ (vc_fld 0 9 7 = some (some 29)) ∧ (vc_fld 0 9 8 = some (some 38)) ∧ (vc_fld 0 9 9 = some (some 47)) ∧ (vc_fld 0 9 10 = some (some 51)) ∧ (vc_fld 0 9 11 = some (some 52)) ∧ (vc_fld 0 9 12 = some (some 54)) ∧ (vc_fld 0 9 13 = some (some 55)) ∧ (vc_fld 0 9 14 = some (some 56)) ∧ (vc_fld 0 9 15 = some none) ∧ (vc_fld 0 9 16 = some none) ∧ (vc_fld 0 9 17 = some none) ∧ (vc_fld 0 9 18 = some none) ∧ (vc_cls 1 = 10) ∧ (vc_fld 1 7 0 = some (some 2)) ∧ (vc_fld 1 7 1 = some none) ∧ (vc_arr 2 = some (0, 39)) ∧ (vc_cls 3 = 10) ∧ (vc_fld 3 7 0 = some (some 4)) ∧ (vc_fld 3 7 1 = some none) ∧ (vc_arr 4 = some (0, 19)) ∧ (vc_cls 5 = 6) ∧ (vc_fld 5 3 0 = some (some 6)) ∧ (vc_fld 5 3 1 = some (some 7)) ∧ (vc_fld 5 3 2 = some none) ∧ (vc_fld 5 3 3 = some none) ∧ (vc_arr 6 = some (0, 8)) ∧ (vc_arr 7 = some (0, 24)) ∧ (vc_cls 8 = 3) ∧ (vc_fld 8 0 0 = some (some 9)) ∧ (vc_fld 8 0 1 = some (some 10)) ∧ (vc_fld 8 0 2 = some none) ∧ (vc_fld 8 0 3 = some none) := ⟨rfl, rfl, rfl, rfl, rfl, rfl, rfl, rfl, rfl, rfl, rfl, rfl, rfl, rfl, rfl, rfl, rfl, rfl, rfl, rfl, rfl, rfl, rfl, rfl, rfl, rfl, rfl, rfl, rfl, rfl, rfl, rfl, rfl, rfl, rfl, rfl, rfl, rfl, rfl, rfl⟩
theorem tb_x1 : (vc_arr 9 = some (0, 16)) ∧ (vc_arr 10 = some (0, 16)) ∧ (vc_cls 11 = 4) ∧ (vc_fld 11 1 0 = some (some 12)) ∧ (vc_fld 11 1 1 = some (some 13)) ∧ (vc_fld 11 1 2 = some (some 14)) ∧ (vc_fld 11 1 3 = some none) ∧ (vc_arr 12 = some (0, 9)) ∧ (vc_arr 13 = some (0, 9)) ∧ (vc_arr 14 = some (0, 9)) ∧ (vc_cls 15 = 7) ∧ (vc_fld 15 4 0 = some (some 16)) ∧ (vc_fld 15 4 1 = some (some 17)) ∧ (vc_fld 15 4 2 = some (some 18)) ∧ (vc_fld 15 4 3 = some (some 19)) ∧ (vc_fld 15 4 4 = some none) ∧ (vc_arr 16 = some (0, 8)) ∧ (vc_arr 17 = some (0, 8)) ∧ (vc_arr 18 = some (0, 8)) ∧ (vc_arr 19 = some (0, 8)) ∧ (vc_lay 20 = some (2, 4, [some 21, some 23, some 25, some 27])) ∧ (vc_cls 21 = 8) ∧ (vc_fld 21 5 0 = some (some 22)) ∧ (vc_fld 21 5 1 = some none) ∧ (vc_fld 21 5 2 = some none) ∧ (vc_fld 21 5 3 = some none) ∧ (vc_arr 22 = some (0, 60)) ∧ (vc_cls 23 = 8) ∧ (vc_fld 23 5 0 = some (some 24)) ∧ (vc_fld 23 5 1 = some none) ∧ (vc_fld 23 5 2 = some none) ∧ (vc_fld 23 5 3 = some none) ∧ (vc_arr 24 = some (0, 60)) ∧ (vc_cls 25 = 8) ∧ (vc_fld 25 5 0 = some (some 26)) ∧ (vc_fld 25 5 1 = some none) ∧ (vc_fld 25 5 2 = some none) ∧ (vc_fld 25 5 3 = some none) ∧ (vc_arr 26 = some (0, 60)) ∧ (vc_cls 27 = 8) := ⟨rfl, rfl, rfl, rfl, rfl, rfl, rfl, rfl, rfl, rfl, rfl, rfl, rfl, rfl, rfl, rfl, rfl, rfl, rfl, rfl, rfl, rfl, rfl, rfl, rfl, rfl, rfl, rfl, rfl, rfl, rfl, rfl, rfl, rfl, rfl, rfl, rfl, rfl, rfl, rfl⟩
theorem tb_x2 : (vc_fld 27 5 0 = some (some 28)) ∧ (vc_fld 27 5 1 = some none) ∧ (vc_fld 27 5 2 = some none) ∧ (vc_fld 27 5 3 = some none) ∧ (vc_arr 28 = some (0, 60)) ∧ (vc_cls 47 = 4) ∧ (vc_fld 47 1 0 = some (some 48)) ∧ (vc_fld 47 1 1 = some (some 49)) ∧ (vc_fld 47 1 2 = some (some 50)) ∧ (vc_fld 47 1 3 = some none) ∧ (vc_arr 48 = some (0, 9)) ∧ (vc_arr 49 = some (0, 9)) ∧ (vc_arr 50 = some (0, 9)) ∧ (vc_cls 51 = 5) ∧ (vc_fld 51 2 0 = some none) ∧ (vc_cls 52 = 9) ∧ (vc_fld 52 6 0 = some (some 53)) ∧ (vc_fld 52 6 1 = some none) ∧ (vc_arr 53 = some (0, 72)) ∧ (vc_arr 54 = some (0, 4)) ∧ (vc_arr 55 = some (0, 300)) ∧ (vc_arr 56 = some (0, 31)) := ⟨rfl, rfl, rfl, rfl, rfl, rfl, rfl, rfl, rfl, rfl, rfl, rfl, rfl, rfl, rfl, rfl, rfl, rfl, rfl, rfl, rfl, rfl⟩
theorem tb_y0 : (vc_cls 29 = 11) ∧ (vc_fld 29 8 0 = some (some 30)) ∧ (vc_fld 29 8 1 = some (some 31)) ∧ (vc_fld 29 8 2 = some (some 32)) ∧ (vc_fld 29 8 3 = some (some 33)) ∧ (vc_fld 29 8 4 = some (some 34)) ∧ (vc_fld 29 8 5 = some (some 35)) ∧ (vc_fld 29 8 6 = some (some 36)) ∧ (vc_fld 29 8 7 = some (some 37)) ∧ (vc_fld 29 8 8 = some none) ∧ (vc_fld 29 8 9 = some none) ∧ (vc_arr 30 = some (0, 496)) ∧ (vc_arr 31 = some (0, 744)) ∧ (vc_arr 32 = some (0, 248)) ∧ (vc_arr 33 = some (0, 240)) ∧ (vc_arr 34 = some (0, 16)) ∧ (vc_arr 35 = some (0, 8)) ∧ (vc_arr 36 = some (0, 16)) ∧ (vc_arr 37 = some (0, 3)) ∧ (vc_cls 38 = 11) ∧ (vc_fld 38 8 0 = some (some 39)) ∧ (vc_fld 38 8 1 = some (some 40)) ∧ (vc_fld 38 8 2 = some (some 41)) ∧ (vc_fld 38 8 3 = some (some 42)) ∧ (vc_fld 38 8 4 = some (some 43)) ∧ (vc_fld 38 8 5 = some (some 44)) ∧ (vc_fld 38 8 6 = some (some 45)) ∧ (vc_fld 38 8 7 = some (some 46)) ∧ (vc_fld 38 8 8 = some none) ∧ (vc_fld 38 8 9 = some none) ∧ (vc_arr 39 = some (0, 496)) ∧ (vc_arr 40 = some (0, 744)) ∧ (vc_arr 41 = some (0, 248)) ∧ (vc_arr 42 = some (0, 240)) ∧ (vc_arr 43 = some (0, 16)) ∧ (vc_arr 44 = some (0, 8)) ∧ (vc_arr 45 = some (0, 16)) ∧ (vc_arr 46 = some (0, 3)) := ⟨rfl, rfl, rfl, rfl, rfl, rfl, rfl, rfl, rfl, rfl, rfl, rfl, rfl, rfl, rfl, rfl, rfl, rfl, rfl, rfl, rfl, rfl, rfl, rfl, rfl, rfl, rfl, rfl, rfl, rfl, rfl, rfl, rfl, rfl, rfl, rfl, rfl, rfl⟩
theorem tb_m0 : (vc_cls 57 = 13) ∧ (vc_fld 57 10 0 = some (some 58)) ∧ (vc_fld 57 10 1 = some (some 59)) ∧ (vc_fld 57 10 2 = some none) ∧ (vc_fld 57 10 3 = some (some 60)) ∧ (vc_fld 57 10 4 = some (some 61)) ∧ (vc_fld 57 10 5 = some none) ∧ (vc_fld 57 10 6 = some (some 62)) ∧ (vc_fld 57 10 7 = some (some 63)) ∧ (vc_fld 57 10 8 = some none) ∧ (vc_fld 57 10 9 = some none) ∧ (vc_fld 57 10 10 = some (some 64)) ∧ (vc_fld 57 10 11 = some (some 65)) ∧ (vc_fld 57 10 12 = some (some 66)) ∧ (vc_fld 57 10 13 = some (some 67)) ∧ (vc_fld 57 10 14 = some none) ∧ (vc_fld 57 10 15 = some (some 68)) ∧ (vc_fld 57 10 16 = some (some 69)) ∧ (vc_fld 57 10 17 = some (some 70)) ∧ (vc_fld 57 10 18 = some none) ∧ (vc_fld 57 10 19 = some (some 71)) ∧ (vc_fld 57 10 20 = some (some 72)) ∧ (vc_fld 57 10 21 = some (some 73)) ∧ (vc_fld 57 10 22 = some (some 74)) ∧ (vc_fld 57 10 23 = some (some 75)) ∧ (vc_fld 57 10 24 = some (some 76)) ∧ (vc_fld 57 10 25 = some none) ∧ (vc_fld 57 10 26 = some (some 77)) ∧ (vc_fld 57 10 27 = some (some 78)) ∧ (vc_fld 57 10 28 = some (some 79)) ∧ (vc_fld 57 10 29 = some (some 80)) ∧ (vc_fld 57 10 30 = some (some 81)) ∧ (vc_fld 57 10 31 = some (some 82)) ∧ (vc_fld 57 10 32 = some none) ∧ (vc_fld 57 10 33 = some (some 83)) ∧ (vc_fld 57 10 34 = some (some 84)) ∧ (vc_fld 57 10 35 = some (some 85)) ∧ (vc_fld 57 10 36 = some (some 86)) ∧ (vc_fld 57 10 37 = some (some 87)) ∧ (vc_fld 57 10 38 = some (some 88)) := ⟨rfl, rfl, rfl, rfl, rfl, rfl, rfl, rfl, rfl, rfl, rfl, rfl, rfl, rfl, rfl, rfl, rfl, rfl, rfl, rfl, rfl, rfl, rfl, rfl, rfl, rfl, rfl, rfl, rfl, rfl, rfl, rfl, rfl, rfl, rfl, rfl, rfl, rfl, rfl, rfl⟩
theorem tb_m1 : (vc_fld 57 10 39 = some (some 89)) ∧ (vc_fld 57 10 40 = some (some 90)) ∧ (vc_fld 57 10 41 = some (some 91)) ∧ (vc_fld 57 10 42 = some (some 92)) ∧ (vc_fld 57 10 43 = some none) ∧ (vc_arr 58 = some (0, 2)) ∧ (vc_arr 59 = some (0, 78)) ∧ (vc_arr 60 = some (0, 9)) ∧ (vc_arr 61 = some (0, 27)) ∧ (vc_arr 62 = some (0, 16)) ∧ (vc_arr 63 = some (0, 16)) ∧ (vc_arr 64 = some (0, 9)) ∧ (vc_arr 65 = some (0, 9)) ∧ (vc_arr 66 = some (0, 9)) ∧ (vc_arr 67 = some (0, 16)) ∧ (vc_arr 68 = some (0, 9)) ∧ (vc_arr 69 = some (0, 9)) ∧ (vc_arr 70 = some (0, 9)) ∧ (vc_arr 71 = some (0, 3)) ∧ (vc_arr 72 = some (0, 16)) ∧ (vc_arr 73 = some (0, 24)) ∧ (vc_arr 74 = some (0, 8)) ∧ (vc_arr 75 = some (0, 8)) ∧ (vc_arr 76 = some (0, 16)) ∧ (vc_arr 77 = some (0, 480)) ∧ (vc_arr 78 = some (0, 240)) ∧ (vc_arr 79 = some (0, 240)) ∧ (vc_arr 80 = some (0, 720)) ∧ (vc_arr 81 = some (0, 8)) ∧ (vc_arr 82 = some (0, 2)) ∧ (vc_arr 83 = some (0, 8)) ∧ (vc_arr 84 = some (0, 8)) ∧ (vc_arr 85 = some (0, 8)) ∧ (vc_arr 86 = some (0, 8)) ∧ (vc_arr 87 = some (0, 300)) ∧ (vc_arr 88 = some (1, 4)) ∧ (vc_arr 89 = some (0, 4)) ∧ (vc_arr 90 = some (0, 4)) ∧ (vc_arr 91 = some (0, 240)) ∧ (vc_arr 92 = some (0, 60)) := ⟨rfl, rfl, rfl, rfl, rfl, rfl, rfl, rfl, rfl, rfl, rfl, rfl, rfl, rfl, rfl, rfl, rfl, rfl, rfl, rfl, rfl, rfl, rfl, rfl, rfl, rfl, rfl, rfl, rfl, rfl, rfl, rfl, rfl, rfl, rfl, rfl, rfl, rfl, rfl, rfl⟩
