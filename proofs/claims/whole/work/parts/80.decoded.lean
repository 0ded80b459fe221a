set_option maxRecDepth 20000 in
theorem tb_ok_0 : tb_0.all (chk1 0) = true := by decide +kernel
set_option maxRecDepth 20000 in
theorem tb_ok_1 : tb_1.all (chk1 1) = true := by decide +kernel
set_option maxRecDepth 20000 in
theorem tb_ok_2 : tb_2.all (chk1 2) = true := by decide +kernel
set_option maxRecDepth 20000 in
theorem tb_ok_3 : tb_3.all (chk1 3) = true := by decide +kernel
set_option maxRecDepth 20000 in
theorem tb_ok_4 : tb_4.all (chk1 4) = true := by decide +kernel
set_option maxRecDepth 20000 in
theorem tb_ok_5 : tb_5.all (chk1 5) = true := by decide +kernel
set_option maxRecDepth 20000 in
theorem tb_ok_6 : tb_6.all (chk1 6) = true := by decide +kernel
set_option maxRecDepth 20000 in
theorem tb_ok_7 : tb_7.all (chk1 7) = true := by decide +kernel
set_option maxRecDepth 20000 in
theorem tb_ok_8 : tb_8.all (chk1 8) = true := by decide +kernel
set_option maxRecDepth 20000 in
theorem tb_ok_9 : tb_9.all (chk1 9) = true := by decide +kernel
set_option maxRecDepth 20000 in
theorem tb_ok_10 : tb_10.all (chk1 10) = true := by decide +kernel
set_option maxRecDepth 20000 in
theorem tb_ok_11 : tb_11.all (chk1 11) = true := by decide +kernel
set_option maxRecDepth 20000 in
theorem tb_ok_12 : tb_12.all (chk1 12) = true := by decide +kernel
set_option maxRecDepth 20000 in
theorem tb_ok_13 : tb_13.all (chk1 13) = true := by decide +kernel
set_option maxRecDepth 20000 in
theorem tb_ok_14 : tb_14.all (chk1 14) = true := by decide +kernel
set_option maxRecDepth 20000 in
theorem tb_ok_15 : tb_15.all (chk1 15) = true := by decide +kernel
set_option maxRecDepth 20000 in
theorem tb_ok_16 : tb_16.all (chk1 16) = true := by decide +kernel
set_option maxRecDepth 20000 in
theorem tb_ok_17 : tb_17.all (chk1 17) = true := by decide +kernel
set_option maxRecDepth 20000 in
theorem tb_ok_18 : tb_18.all (chk1 18) = true := by decide +kernel
set_option maxRecDepth 20000 in
theorem tb_ok_19 : tb_19.all (chk1 19) = true := by decide +kernel
set_option maxRecDepth 20000 in
theorem tb_ok_20 : tb_20.all (chk1 20) = true := by decide +kernel
set_option maxRecDepth 20000 in
theorem tb_ok_21 : tb_21.all (chk1 21) = true := by decide +kernel
set_option maxRecDepth 20000 in
theorem tb_ok_22 : tb_22.all (chk1 22) = true := by decide +kernel
set_option maxRecDepth 20000 in
theorem tb_ok_23 : tb_23.all (chk1 23) = true := by decide +kernel
set_option maxRecDepth 20000 in
theorem tb_ok_24 : tb_24.all (chk1 24) = true := by decide +kernel
set_option maxRecDepth 20000 in
theorem tb_ok_25 : tb_25.all (chk1 25) = true := by decide +kernel
set_option maxRecDepth 20000 in
theorem tb_ok_26 : tb_26.all (chk1 26) = true := by decide +kernel
set_option maxRecDepth 20000 in
theorem tb_ok_27 : tb_27.all (chk1 27) = true := by decide +kernel
set_option maxRecDepth 20000 in
theorem tb_ok_28 : tb_28.all (chk1 28) = true := by decide +kernel
set_option maxRecDepth 20000 in
theorem tb_ok_29 : tb_29.all (chk1 29) = true := by decide +kernel
set_option maxRecDepth 20000 in
theorem tb_ok_30 : tb_30.all (chk1 30) = true := by decide +kernel
set_option maxRecDepth 20000 in
theorem tb_ok_31 : tb_31.all (chk1 31) = true := by decide +kernel
set_option maxRecDepth 20000 in
theorem tb_ok_32 : tb_32.all (chk1 32) = true := by decide +kernel
set_option maxRecDepth 20000 in
theorem tb_ok_33 : tb_33.all (chk1 33) = true := by decide +kernel
set_option maxRecDepth 20000 in
theorem tb_ok_34 : tb_34.all (chk1 34) = true := by decide +kernel
set_option maxRecDepth 20000 in
theorem tb_ok_35 : tb_35.all (chk1 35) = true := by decide +kernel
set_option maxRecDepth 20000 in
theorem tb_ok_36 : tb_36.all (chk1 36) = true := by decide +kernel
set_option maxRecDepth 20000 in
theorem tb_ok_37 : tb_37.all (chk1 37) = true := by decide +kernel
set_option maxRecDepth 20000 in
theorem tb_ok_38 : tb_38.all (chk1 38) = true := by decide +kernel
set_option maxRecDepth 20000 in
theorem tb_ok_39 : tb_39.all (chk1 39) = true := by decide +kernel
set_option maxRecDepth 20000 in
theorem tb_ok_40 : tb_40.all (chk1 40) = true := by decide +kernel
set_option maxRecDepth 20000 in
theorem tb_ok_41 : tb_41.all (chk1 41) = true := by decide +kernel
set_option maxRecDepth 20000 in
theorem tb_ok_42 : tb_42.all (chk1 42) = true := by decide +kernel
set_option maxRecDepth 20000 in
theorem tb_ok_43 : tb_43.all (chk1 43) = true := by decide +kernel
set_option maxRecDepth 20000 in
theorem tb_ok_44 : tb_44.all (chk1 44) = true := by decide +kernel
set_option maxRecDepth 20000 in
theorem tb_ok_45 : tb_45.all (chk1 45) = true := by decide +kernel
set_option maxRecDepth 20000 in
theorem tb_ok_46 : tb_46.all (chk1 46) = true := by decide +kernel
set_option maxRecDepth 20000 in
theorem tb_ok_47 : tb_47.all (chk1 47) = true := by decide +kernel
set_option maxRecDepth 20000 in
theorem tb_ok_48 : tb_48.all (chk1 48) = true := by decide +kernel
set_option maxRecDepth 20000 in
theorem tb_ok_49 : tb_49.all (chk1 49) = true := by decide +kernel
set_option maxRecDepth 20000 in
theorem tb_ok_50 : tb_50.all (chk1 50) = true := by decide +kernel
set_option maxRecDepth 20000 in
theorem tb_ok_51 : tb_51.all (chk1 51) = true := by decide +kernel
set_option maxRecDepth 20000 in
theorem tb_ok_52 : tb_52.all (chk1 52) = true := by decide +kernel
set_option maxRecDepth 20000 in
theorem tb_ok_53 : tb_53.all (chk1 53) = true := by decide +kernel
set_option maxRecDepth 20000 in
theorem tb_ok_54 : tb_54.all (chk1 54) = true := by decide +kernel
set_option maxRecDepth 20000 in
theorem tb_ok_55 : tb_55.all (chk1 55) = true := by decide +kernel
set_option maxRecDepth 20000 in
theorem tb_ok_56 : tb_56.all (chk1 56) = true := by decide +kernel
set_option maxRecDepth 20000 in
theorem tb_ok_57 : tb_57.all (chk1 57) = true := by decide +kernel
set_option maxRecDepth 20000 in
theorem tb_ok_58 : tb_58.all (chk1 58) = true := by decide +kernel
set_option maxRecDepth 20000 in
theorem tb_ok_59 : tb_59.all (chk1 59) = true := by decide +kernel
set_option maxRecDepth 20000 in
theorem tb_ok_60 : tb_60.all (chk1 60) = true := by decide +kernel
set_option maxRecDepth 20000 in
theorem tb_ok_61 : tb_61.all (chk1 61) = true := by decide +kernel
set_option maxRecDepth 20000 in
theorem tb_ok_62 : tb_62.all (chk1 62) = true := by decide +kernel
set_option maxRecDepth 20000 in
theorem tb_ok_63 : tb_63.all (chk1 63) = true := by decide +kernel
set_option maxRecDepth 20000 in
theorem tb_ok_64 : tb_64.all (chk1 64) = true := by decide +kernel
set_option maxRecDepth 20000 in
theorem tb_ok_65 : tb_65.all (chk1 65) = true := by decide +kernel
set_option maxRecDepth 20000 in
theorem tb_ok_66 : tb_66.all (chk1 66) = true := by decide +kernel
set_option maxRecDepth 20000 in
theorem tb_ok_67 : tb_67.all (chk1 67) = true := by decide +kernel
set_option maxRecDepth 20000 in
theorem tb_ok_68 : tb_68.all (chk1 68) = true := by decide +kernel
set_option maxRecDepth 20000 in
theorem tb_ok_69 : tb_69.all (chk1 69) = true := by decide +kernel
set_option maxRecDepth 20000 in
theorem tb_ok_70 : tb_70.all (chk1 70) = true := by decide +kernel
set_option maxRecDepth 20000 in
theorem tb_ok_71 : tb_71.all (chk1 71) = true := by decide +kernel
set_option maxRecDepth 20000 in
theorem tb_ok_72 : tb_72.all (chk1 72) = true := by decide +kernel
set_option maxRecDepth 20000 in
theorem tb_ok_73 : tb_73.all (chk1 73) = true := by decide +kernel
set_option maxRecDepth 20000 in
theorem tb_ok_74 : tb_74.all (chk1 74) = true := by decide +kernel
set_option maxRecDepth 20000 in
theorem tb_ok_75 : tb_75.all (chk1 75) = true := by decide +kernel
set_option maxRecDepth 20000 in
theorem tb_ok_76 : tb_76.all (chk1 76) = true := by decide +kernel
set_option maxRecDepth 20000 in
theorem tb_ok_77 : tb_77.all (chk1 77) = true := by decide +kernel
set_option maxRecDepth 20000 in
theorem tb_ok_78 : tb_78.all (chk1 78) = true := by decide +kernel
set_option maxRecDepth 20000 in
theorem tb_ok_79 : tb_79.all (chk1 79) = true := by decide +kernel
set_option maxRecDepth 20000 in
theorem tb_ok_80 : tb_80.all (chk1 80) = true := by decide +kernel
set_option maxRecDepth 20000 in
theorem tb_ok_81 : tb_81.all (chk1 81) = true := by decide +kernel
set_option maxRecDepth 20000 in
theorem tb_ok_82 : tb_82.all (chk1 82) = true := by decide +kernel
set_option maxRecDepth 20000 in
theorem tb_ok_83 : tb_83.all (chk1 83) = true := by decide +kernel
set_option maxRecDepth 20000 in
theorem tb_ok_84 : tb_84.all (chk1 84) = true := by decide +kernel
set_option maxRecDepth 20000 in
theorem tb_ok_85 : tb_85.all (chk1 85) = true := by decide +kernel
set_option maxRecDepth 20000 in
theorem tb_ok_86 : tb_86.all (chk1 86) = true := by decide +kernel
set_option maxRecDepth 20000 in
theorem tb_ok_87 : tb_87.all (chk1 87) = true := by decide +kernel
set_option maxRecDepth 20000 in
theorem tb_ok_88 : tb_88.all (chk1 88) = true := by decide +kernel
set_option maxRecDepth 20000 in
theorem tb_ok_89 : tb_89.all (chk1 89) = true := by decide +kernel
set_option maxRecDepth 20000 in
theorem tb_ok_90 : tb_90.all (chk1 90) = true := by decide +kernel
set_option maxRecDepth 20000 in
theorem tb_ok_91 : tb_91.all (chk1 91) = true := by decide +kernel
set_option maxRecDepth 20000 in
theorem tb_ok_92 : tb_92.all (chk1 92) = true := by decide +kernel
set_option maxRecDepth 20000 in
theorem tb_ok_93 : tb_93.all (chk1 93) = true := by decide +kernel
set_option maxRecDepth 20000 in
theorem tb_ok_94 : tb_94.all (chk1 94) = true := by decide +kernel
set_option maxRecDepth 20000 in
theorem tb_ok_95 : tb_95.all (chk1 95) = true := by decide +kernel
set_option maxRecDepth 20000 in
theorem tb_ok_96 : tb_96.all (chk1 96) = true := by decide +kernel
set_option maxRecDepth 20000 in
theorem tb_ok_97 : tb_97.all (chk1 97) = true := by decide +kernel
set_option maxRecDepth 20000 in
theorem tb_ok_98 : tb_98.all (chk1 98) = true := by decide +kernel
set_option maxRecDepth 20000 in
theorem tb_ok_99 : tb_99.all (chk1 99) = true := by decide +kernel
set_option maxRecDepth 20000 in
theorem tb_ok_100 : tb_100.all (chk1 100) = true := by decide +kernel
set_option maxRecDepth 20000 in
theorem tb_ok_101 : tb_101.all (chk1 101) = true := by decide +kernel
set_option maxRecDepth 20000 in
theorem tb_ok_102 : tb_102.all (chk1 102) = true := by decide +kernel
set_option maxRecDepth 20000 in
theorem tb_ok_103 : tb_103.all (chk1 103) = true := by decide +kernel
set_option maxRecDepth 20000 in
theorem tb_ok_104 : tb_104.all (chk1 104) = true := by decide +kernel
set_option maxRecDepth 20000 in
theorem tb_ok_105 : tb_105.all (chk1 105) = true := by decide +kernel
set_option maxRecDepth 20000 in
theorem tb_ok_106 : tb_106.all (chk1 106) = true := by decide +kernel
set_option maxRecDepth 20000 in
theorem tb_ok_107 : tb_107.all (chk1 107) = true := by decide +kernel
set_option maxRecDepth 20000 in
theorem tb_ok_108 : tb_108.all (chk1 108) = true := by decide +kernel
set_option maxRecDepth 20000 in
theorem tb_ok_109 : tb_109.all (chk1 109) = true := by decide +kernel
set_option maxRecDepth 20000 in
theorem tb_ok_110 : tb_110.all (chk1 110) = true := by decide +kernel
set_option maxRecDepth 20000 in
theorem tb_ok_111 : tb_111.all (chk1 111) = true := by decide +kernel
set_option maxRecDepth 20000 in
theorem tb_ok_112 : tb_112.all (chk1 112) = true := by decide +kernel
set_option maxRecDepth 20000 in
theorem tb_ok_113 : tb_113.all (chk1 113) = true := by decide +kernel
set_option maxRecDepth 20000 in
theorem tb_ok_114 : tb_114.all (chk1 114) = true := by decide +kernel
set_option maxRecDepth 20000 in
theorem tb_ok_115 : tb_115.all (chk1 115) = true := by decide +kernel
set_option maxRecDepth 20000 in
theorem tb_ok_116 : tb_116.all (chk1 116) = true := by decide +kernel
set_option maxRecDepth 20000 in
theorem tb_ok_117 : tb_117.all (chk1 117) = true := by decide +kernel
set_option maxRecDepth 20000 in
theorem tb_ok_118 : tb_118.all (chk1 118) = true := by decide +kernel
set_option maxRecDepth 20000 in
theorem tb_ok_119 : tb_119.all (chk1 119) = true := by decide +kernel
set_option maxRecDepth 20000 in
theorem tb_ok_120 : tb_120.all (chk1 120) = true := by decide +kernel
set_option maxRecDepth 20000 in
theorem tb_ok_121 : tb_121.all (chk1 121) = true := by decide +kernel
set_option maxRecDepth 20000 in
theorem tb_ok_122 : tb_122.all (chk1 122) = true := by decide +kernel
set_option maxRecDepth 20000 in
theorem tb_ok_123 : tb_123.all (chk1 123) = true := by decide +kernel
set_option maxRecDepth 20000 in
theorem tb_ok_124 : tb_124.all (chk1 124) = true := by decide +kernel
set_option maxRecDepth 20000 in
theorem tb_ok_125 : tb_125.all (chk1 125) = true := by decide +kernel
set_option maxRecDepth 20000 in
theorem tb_ok_126 : tb_126.all (chk1 126) = true := by decide +kernel
set_option maxRecDepth 20000 in
theorem tb_ok_127 : tb_127.all (chk1 127) = true := by decide +kernel
set_option maxRecDepth 20000 in
theorem tb_ok_128 : tb_128.all (chk1 128) = true := by decide +kernel
set_option maxRecDepth 20000 in
theorem tb_ok_129 : tb_129.all (chk1 129) = true := by decide +kernel
set_option maxRecDepth 20000 in
theorem tb_ok_130 : tb_130.all (chk1 130) = true := by decide +kernel
set_option maxRecDepth 20000 in
theorem tb_ok_131 : tb_131.all (chk1 131) = true := by decide +kernel
set_option maxRecDepth 20000 in
theorem tb_ok_132 : tb_132.all (chk1 132) = true := by decide +kernel
set_option maxRecDepth 20000 in
theorem tb_ok_133 : tb_133.all (chk1 133) = true := by decide +kernel
set_option maxRecDepth 20000 in
theorem tb_ok_134 : tb_134.all (chk1 134) = true := by decide +kernel
set_option maxRecDepth 20000 in
theorem tb_ok_135 : tb_135.all (chk1 135) = true := by decide +kernel
set_option maxRecDepth 20000 in
theorem tb_ok_136 : tb_136.all (chk1 136) = true := by decide +kernel
set_option maxRecDepth 20000 in
theorem tb_ok_137 : tb_137.all (chk1 137) = true := by decide +kernel
set_option maxRecDepth 20000 in
theorem tb_ok_138 : tb_138.all (chk1 138) = true := by decide +kernel
set_option maxRecDepth 20000 in
theorem tb_ok_139 : tb_139.all (chk1 139) = true := by decide +kernel
set_option maxRecDepth 20000 in
theorem tb_ok_140 : tb_140.all (chk1 140) = true := by decide +kernel
set_option maxRecDepth 20000 in
theorem tb_ok_141 : tb_141.all (chk1 141) = true := by decide +kernel
set_option maxRecDepth 20000 in
theorem tb_ok_142 : tb_142.all (chk1 142) = true := by decide +kernel
set_option maxRecDepth 20000 in
theorem tb_ok_143 : tb_143.all (chk1 143) = true := by decide +kernel
set_option maxRecDepth 20000 in
theorem tb_ok_144 : tb_144.all (chk1 144) = true := by decide +kernel
set_option maxRecDepth 20000 in
theorem tb_ok_145 : tb_145.all (chk1 145) = true := by decide +kernel
set_option maxRecDepth 20000 in
theorem tb_ok_146 : tb_146.all (chk1 146) = true := by decide +kernel
set_option maxRecDepth 20000 in
theorem tb_ok_147 : tb_147.all (chk1 147) = true := by decide +kernel
set_option maxRecDepth 20000 in
theorem tb_ok_148 : tb_148.all (chk1 148) = true := by decide +kernel
set_option maxRecDepth 20000 in
theorem tb_ok_149 : tb_149.all (chk1 149) = true := by decide +kernel
set_option maxRecDepth 20000 in
theorem tb_ok_150 : tb_150.all (chk1 150) = true := by decide +kernel
set_option maxRecDepth 20000 in
theorem tb_ok_151 : tb_151.all (chk1 151) = true := by decide +kernel
set_option maxRecDepth 20000 in
theorem tb_ok_152 : tb_152.all (chk1 152) = true := by decide +kernel
set_option maxRecDepth 20000 in
theorem tb_ok_153 : tb_153.all (chk1 153) = true := by decide +kernel
set_option maxRecDepth 20000 in
theorem tb_ok_154 : tb_154.all (chk1 154) = true := by decide +kernel
set_option maxRecDepth 20000 in
theorem tb_ok_155 : tb_155.all (chk1 155) = true := by decide +kernel
set_option maxRecDepth 20000 in
theorem tb_ok_156 : tb_156.all (chk1 156) = true := by decide +kernel
set_option maxRecDepth 20000 in
theorem tb_ok_157 : tb_157.all (chk1 157) = true := by decide +kernel
set_option maxRecDepth 20000 in
theorem tb_ok_158 : tb_158.all (chk1 158) = true := by decide +kernel
set_option maxRecDepth 20000 in
theorem tb_ok_159 : tb_159.all (chk1 159) = true := by decide +kernel
set_option maxRecDepth 20000 in
theorem tb_ok_160 : tb_160.all (chk1 160) = true := by decide +kernel
set_option maxRecDepth 20000 in
theorem tb_ok_161 : tb_161.all (chk1 161) = true := by decide +kernel
set_option maxRecDepth 20000 in
theorem tb_ok_162 : tb_162.all (chk1 162) = true := by decide +kernel
set_option maxRecDepth 20000 in
theorem tb_ok_163 : tb_163.all (chk1 163) = true := by decide +kernel
set_option maxRecDepth 20000 in
theorem tb_ok_164 : tb_164.all (chk1 164) = true := by decide +kernel
set_option maxRecDepth 20000 in
theorem tb_ok_165 : tb_165.all (chk1 165) = true := by decide +kernel
set_option maxRecDepth 20000 in
theorem tb_ok_166 : tb_166.all (chk1 166) = true := by decide +kernel
set_option maxRecDepth 20000 in
theorem tb_ok_167 : tb_167.all (chk1 167) = true := by decide +kernel
set_option maxRecDepth 20000 in
theorem tb_ok_168 : tb_168.all (chk1 168) = true := by decide +kernel
set_option maxRecDepth 20000 in
theorem tb_ok_169 : tb_169.all (chk1 169) = true := by decide +kernel
set_option maxRecDepth 20000 in
theorem tb_ok_170 : tb_170.all (chk1 170) = true := by decide +kernel
set_option maxRecDepth 20000 in
theorem tb_ok_171 : tb_171.all (chk1 171) = true := by decide +kernel
set_option maxRecDepth 20000 in
theorem tb_ok_172 : tb_172.all (chk1 172) = true := by decide +kernel
set_option maxRecDepth 20000 in
theorem tb_ok_173 : tb_173.all (chk1 173) = true := by decide +kernel
set_option maxRecDepth 20000 in
theorem tb_ok_174 : tb_174.all (chk1 174) = true := by decide +kernel
set_option maxRecDepth 20000 in
theorem tb_ok_175 : tb_175.all (chk1 175) = true := by decide +kernel
set_option maxRecDepth 20000 in
theorem tb_ok_176 : tb_176.all (chk1 176) = true := by decide +kernel
set_option maxRecDepth 20000 in
theorem tb_ok_177 : tb_177.all (chk1 177) = true := by decide +kernel
set_option maxRecDepth 20000 in
theorem tb_ok_178 : tb_178.all (chk1 178) = true := by decide +kernel
set_option maxRecDepth 20000 in
theorem tb_ok_179 : tb_179.all (chk1 179) = true := by decide +kernel
set_option maxRecDepth 20000 in
theorem tb_ok_180 : tb_180.all (chk1 180) = true := by decide +kernel
set_option maxRecDepth 20000 in
theorem tb_ok_181 : tb_181.all (chk1 181) = true := by decide +kernel
set_option maxRecDepth 20000 in
theorem tb_ok_182 : tb_182.all (chk1 182) = true := by decide +kernel
set_option maxRecDepth 20000 in
theorem tb_ok_183 : tb_183.all (chk1 183) = true := by decide +kernel
set_option maxRecDepth 20000 in
theorem tb_ok_184 : tb_184.all (chk1 184) = true := by decide +kernel
set_option maxRecDepth 20000 in
theorem tb_ok_185 : tb_185.all (chk1 185) = true := by decide +kernel
set_option maxRecDepth 20000 in
theorem tb_ok_186 : tb_186.all (chk1 186) = true := by decide +kernel
set_option maxRecDepth 20000 in
theorem tb_ok_187 : tb_187.all (chk1 187) = true := by decide +kernel
set_option maxRecDepth 20000 in
theorem tb_ok_188 : tb_188.all (chk1 188) = true := by decide +kernel
set_option maxRecDepth 20000 in
theorem tb_ok_189 : tb_189.all (chk1 189) = true := by decide +kernel
set_option maxRecDepth 20000 in
theorem tb_ok_190 : tb_190.all (chk1 190) = true := by decide +kernel
set_option maxRecDepth 20000 in
theorem tb_ok_191 : tb_191.all (chk1 191) = true := by decide +kernel
set_option maxRecDepth 20000 in
theorem tb_ok_192 : tb_192.all (chk1 192) = true := by decide +kernel
set_option maxRecDepth 20000 in
theorem tb_ok_193 : tb_193.all (chk1 193) = true := by decide +kernel
set_option maxRecDepth 20000 in
theorem tb_ok_194 : tb_194.all (chk1 194) = true := by decide +kernel
set_option maxRecDepth 20000 in
theorem tb_ok_195 : tb_195.all (chk1 195) = true := by decide +kernel
set_option maxRecDepth 20000 in
theorem tb_ok_196 : tb_196.all (chk1 196) = true := by decide +kernel
set_option maxRecDepth 20000 in
theorem tb_ok_197 : tb_197.all (chk1 197) = true := by decide +kernel
set_option maxRecDepth 20000 in
theorem tb_ok_198 : tb_198.all (chk1 198) = true := by decide +kernel
set_option maxRecDepth 20000 in
theorem tb_ok_199 : tb_199.all (chk1 199) = true := by decide +kernel
set_option maxRecDepth 20000 in
theorem tb_ok_200 : tb_200.all (chk1 200) = true := by decide +kernel
set_option maxRecDepth 20000 in
theorem tb_ok_201 : tb_201.all (chk1 201) = true := by decide +kernel
set_option maxRecDepth 20000 in
theorem tb_ok_202 : tb_202.all (chk1 202) = true := by decide +kernel
set_option maxRecDepth 20000 in
theorem tb_ok_203 : tb_203.all (chk1 203) = true := by decide +kernel
set_option maxRecDepth 20000 in
theorem tb_ok_204 : tb_204.all (chk1 204) = true := by decide +kernel
set_option maxRecDepth 20000 in
theorem tb_ok_205 : tb_205.all (chk1 205) = true := by decide +kernel
set_option maxRecDepth 20000 in
theorem tb_ok_206 : tb_206.all (chk1 206) = true := by decide +kernel
set_option maxRecDepth 20000 in
theorem tb_ok_207 : tb_207.all (chk1 207) = true := by decide +kernel
set_option maxRecDepth 20000 in
theorem tb_ok_208 : tb_208.all (chk1 208) = true := by decide +kernel
set_option maxRecDepth 20000 in
theorem tb_ok_209 : tb_209.all (chk1 209) = true := by decide +kernel
set_option maxRecDepth 20000 in
theorem tb_ok_210 : tb_210.all (chk1 210) = true := by decide +kernel
set_option maxRecDepth 20000 in
theorem tb_ok_211 : tb_211.all (chk1 211) = true := by decide +kernel
set_option maxRecDepth 20000 in
theorem tb_ok_212 : tb_212.all (chk1 212) = true := by decide +kernel
set_option maxRecDepth 20000 in
theorem tb_ok_213 : tb_213.all (chk1 213) = true := by decide +kernel
set_option maxRecDepth 20000 in
theorem tb_ok_214 : tb_214.all (chk1 214) = true := by decide +kernel
set_option maxRecDepth 20000 in
theorem tb_ok_215 : tb_215.all (chk1 215) = true := by decide +kernel
set_option maxRecDepth 20000 in
theorem tb_ok_216 : tb_216.all (chk1 216) = true := by decide +kernel
set_option maxRecDepth 20000 in
theorem tb_ok_217 : tb_217.all (chk1 217) = true := by decide +kernel
set_option maxRecDepth 20000 in
theorem tb_ok_218 : tb_218.all (chk1 218) = true := by decide +kernel
set_option maxRecDepth 20000 in
theorem tb_ok_219 : tb_219.all (chk1 219) = true := by decide +kernel
set_option maxRecDepth 20000 in
theorem tb_ok_220 : tb_220.all (chk1 220) = true := by decide +kernel
set_option maxRecDepth 20000 in
theorem tb_ok_221 : tb_221.all (chk1 221) = true := by decide +kernel
set_option maxRecDepth 20000 in
theorem tb_ok_222 : tb_222.all (chk1 222) = true := by decide +kernel
set_option maxRecDepth 20000 in
theorem tb_ok_223 : tb_223.all (chk1 223) = true := by decide +kernel
set_option maxRecDepth 20000 in
theorem tb_ok_224 : tb_224.all (chk1 224) = true := by decide +kernel
set_option maxRecDepth 20000 in
theorem tb_ok_225 : tb_225.all (chk1 225) = true := by decide +kernel
set_option maxRecDepth 20000 in
theorem tb_ok_226 : tb_226.all (chk1 226) = true := by decide +kernel
set_option maxRecDepth 20000 in
theorem tb_ok_227 : tb_227.all (chk1 227) = true := by decide +kernel
set_option maxRecDepth 20000 in
theorem tb_ok_228 : tb_228.all (chk1 228) = true := by decide +kernel
set_option maxRecDepth 20000 in
theorem tb_ok_229 : tb_229.all (chk1 229) = true := by decide +kernel
set_option maxRecDepth 20000 in
theorem tb_ok_230 : tb_230.all (chk1 230) = true := by decide +kernel
set_option maxRecDepth 20000 in
theorem tb_ok_231 : tb_231.all (chk1 231) = true := by decide +kernel
set_option maxRecDepth 20000 in
theorem tb_ok_232 : tb_232.all (chk1 232) = true := by decide +kernel
set_option maxRecDepth 20000 in
theorem tb_ok_233 : tb_233.all (chk1 233) = true := by decide +kernel
set_option maxRecDepth 20000 in
theorem tb_ok_234 : tb_234.all (chk1 234) = true := by decide +kernel
set_option maxRecDepth 20000 in
theorem tb_ok_235 : tb_235.all (chk1 235) = true := by decide +kernel
set_option maxRecDepth 20000 in
theorem tb_ok_236 : tb_236.all (chk1 236) = true := by decide +kernel
set_option maxRecDepth 20000 in
theorem tb_ok_237 : tb_237.all (chk1 237) = true := by decide +kernel
set_option maxRecDepth 20000 in
theorem tb_ok_238 : tb_238.all (chk1 238) = true := by decide +kernel
set_option maxRecDepth 20000 in
theorem tb_ok_239 : tb_239.all (chk1 239) = true := by decide +kernel
set_option maxRecDepth 20000 in
theorem tb_ok_240 : tb_240.all (chk1 240) = true := by decide +kernel
set_option maxRecDepth 20000 in
theorem tb_ok_241 : tb_241.all (chk1 241) = true := by decide +kernel
set_option maxRecDepth 20000 in
theorem tb_ok_242 : tb_242.all (chk1 242) = true := by decide +kernel
set_option maxRecDepth 20000 in
theorem tb_ok_243 : tb_243.all (chk1 243) = true := by decide +kernel
set_option maxRecDepth 20000 in
theorem tb_ok_244 : tb_244.all (chk1 244) = true := by decide +kernel
set_option maxRecDepth 20000 in
theorem tb_ok_245 : tb_245.all (chk1 245) = true := by decide +kernel
set_option maxRecDepth 20000 in
theorem tb_ok_246 : tb_246.all (chk1 246) = true := by decide +kernel
set_option maxRecDepth 20000 in
theorem tb_ok_247 : tb_247.all (chk1 247) = true := by decide +kernel
set_option maxRecDepth 20000 in
theorem tb_ok_248 : tb_248.all (chk1 248) = true := by decide +kernel
set_option maxRecDepth 20000 in
theorem tb_ok_249 : tb_249.all (chk1 249) = true := by decide +kernel
set_option maxRecDepth 20000 in
theorem tb_ok_250 : tb_250.all (chk1 250) = true := by decide +kernel
set_option maxRecDepth 20000 in
theorem tb_ok_251 : tb_251.all (chk1 251) = true := by decide +kernel
set_option maxRecDepth 20000 in
theorem tb_ok_252 : tb_252.all (chk1 252) = true := by decide +kernel
set_option maxRecDepth 20000 in
theorem tb_ok_253 : tb_253.all (chk1 253) = true := by decide +kernel
set_option maxRecDepth 20000 in
theorem tb_ok_254 : tb_254.all (chk1 254) = true := by decide +kernel
set_option maxRecDepth 20000 in
theorem tb_ok_255 : tb_255.all (chk1 255) = true := by decide +kernel
set_option maxRecDepth 20000 in
theorem tb_ok_256 : tb_256.all (chk1 256) = true := by decide +kernel
set_option maxRecDepth 20000 in
theorem tb_ok_257 : tb_257.all (chk1 257) = true := by decide +kernel
set_option maxRecDepth 20000 in
theorem tb_ok_258 : tb_258.all (chk1 258) = true := by decide +kernel
set_option maxRecDepth 20000 in
theorem tb_ok_259 : tb_259.all (chk1 259) = true := by decide +kernel
set_option maxRecDepth 20000 in
theorem tb_ok_260 : tb_260.all (chk1 260) = true := by decide +kernel
set_option maxRecDepth 20000 in
theorem tb_ok_261 : tb_261.all (chk1 261) = true := by decide +kernel
set_option maxRecDepth 20000 in
theorem tb_ok_262 : tb_262.all (chk1 262) = true := by decide +kernel
set_option maxRecDepth 20000 in
theorem tb_ok_263 : tb_263.all (chk1 263) = true := by decide +kernel
set_option maxRecDepth 20000 in
theorem tb_ok_264 : tb_264.all (chk1 264) = true := by decide +kernel
set_option maxRecDepth 20000 in
theorem tb_ok_265 : tb_265.all (chk1 265) = true := by decide +kernel
set_option maxRecDepth 20000 in
theorem tb_ok_266 : tb_266.all (chk1 266) = true := by decide +kernel
set_option maxRecDepth 20000 in
theorem tb_ok_267 : tb_267.all (chk1 267) = true := by decide +kernel
set_option maxRecDepth 20000 in
theorem tb_ok_268 : tb_268.all (chk1 268) = true := by decide +kernel
set_option maxRecDepth 20000 in
theorem tb_ok_269 : tb_269.all (chk1 269) = true := by decide +kernel
set_option maxRecDepth 20000 in
theorem tb_ok_270 : tb_270.all (chk1 270) = true := by decide +kernel
set_option maxRecDepth 20000 in
theorem tb_ok_271 : tb_271.all (chk1 271) = true := by decide +kernel
set_option maxRecDepth 20000 in
theorem tb_ok_272 : tb_272.all (chk1 272) = true := by decide +kernel
set_option maxRecDepth 20000 in
theorem tb_ok_273 : tb_273.all (chk1 273) = true := by decide +kernel
set_option maxRecDepth 20000 in
theorem tb_ok_274 : tb_274.all (chk1 274) = true := by decide +kernel
set_option maxRecDepth 20000 in
theorem tb_ok_275 : tb_275.all (chk1 275) = true := by decide +kernel
set_option maxRecDepth 20000 in
theorem tb_ok_276 : tb_276.all (chk1 276) = true := by decide +kernel
set_option maxRecDepth 20000 in
theorem tb_ok_277 : tb_277.all (chk1 277) = true := by decide +kernel
set_option maxRecDepth 20000 in
theorem tb_ok_278 : tb_278.all (chk1 278) = true := by decide +kernel
set_option maxRecDepth 20000 in
theorem tb_ok_279 : tb_279.all (chk1 279) = true := by decide +kernel
set_option maxRecDepth 20000 in
theorem tb_ok_280 : tb_280.all (chk1 280) = true := by decide +kernel
set_option maxRecDepth 20000 in
theorem tb_ok_281 : tb_281.all (chk1 281) = true := by decide +kernel
set_option maxRecDepth 20000 in
theorem tb_ok_282 : tb_282.all (chk1 282) = true := by decide +kernel
set_option maxRecDepth 20000 in
theorem tb_ok_283 : tb_283.all (chk1 283) = true := by decide +kernel
set_option maxRecDepth 20000 in
theorem tb_ok_284 : tb_284.all (chk1 284) = true := by decide +kernel
set_option maxRecDepth 20000 in
theorem tb_ok_285 : tb_285.all (chk1 285) = true := by decide +kernel
set_option maxRecDepth 20000 in
theorem tb_ok_286 : tb_286.all (chk1 286) = true := by decide +kernel
