set_option maxRecDepth 20000 in
theorem tb_ok_0 : tb_0.all (chk1 (mO 0) (mB 0)) = true := by decide +kernel
set_option maxRecDepth 20000 in
theorem tb_ok_1 : tb_1.all (chk1 (mO 1) (mB 1)) = true := by decide +kernel
set_option maxRecDepth 20000 in
theorem tb_ok_2 : tb_2.all (chk1 (mO 2) (mB 2)) = true := by decide +kernel
set_option maxRecDepth 20000 in
theorem tb_ok_3 : tb_3.all (chk1 (mO 3) (mB 3)) = true := by decide +kernel
set_option maxRecDepth 20000 in
theorem tb_ok_4 : tb_4.all (chk1 (mO 4) (mB 4)) = true := by decide +kernel
set_option maxRecDepth 20000 in
theorem tb_ok_5 : tb_5.all (chk1 (mO 5) (mB 5)) = true := by decide +kernel
set_option maxRecDepth 20000 in
theorem tb_ok_6 : tb_6.all (chk1 (mO 6) (mB 6)) = true := by decide +kernel
set_option maxRecDepth 20000 in
theorem tb_ok_7 : tb_7.all (chk1 (mO 7) (mB 7)) = true := by decide +kernel
set_option maxRecDepth 20000 in
theorem tb_ok_8 : tb_8.all (chk1 (mO 8) (mB 8)) = true := by decide +kernel
set_option maxRecDepth 20000 in
theorem tb_ok_9 : tb_9.all (chk1 (mO 9) (mB 9)) = true := by decide +kernel
set_option maxRecDepth 20000 in
theorem tb_ok_10 : tb_10.all (chk1 (mO 10) (mB 10)) = true := by decide +kernel
set_option maxRecDepth 20000 in
theorem tb_ok_11 : tb_11.all (chk1 (mO 11) (mB 11)) = true := by decide +kernel
set_option maxRecDepth 20000 in
theorem tb_ok_12 : tb_12.all (chk1 (mO 12) (mB 12)) = true := by decide +kernel
set_option maxRecDepth 20000 in
theorem tb_ok_13 : tb_13.all (chk1 (mO 13) (mB 13)) = true := by decide +kernel
set_option maxRecDepth 20000 in
theorem tb_ok_14 : tb_14.all (chk1 (mO 14) (mB 14)) = true := by decide +kernel
set_option maxRecDepth 20000 in
theorem tb_ok_15 : tb_15.all (chk1 (mO 15) (mB 15)) = true := by decide +kernel
set_option maxRecDepth 20000 in
theorem tb_ok_16 : tb_16.all (chk1 (mO 16) (mB 16)) = true := by decide +kernel
set_option maxRecDepth 20000 in
theorem tb_ok_17 : tb_17.all (chk1 (mO 17) (mB 17)) = true := by decide +kernel
set_option maxRecDepth 20000 in
theorem tb_ok_18 : tb_18.all (chk1 (mO 18) (mB 18)) = true := by decide +kernel
set_option maxRecDepth 20000 in
theorem tb_ok_19 : tb_19.all (chk1 (mO 19) (mB 19)) = true := by decide +kernel
set_option maxRecDepth 20000 in
theorem tb_ok_20 : tb_20.all (chk1 (mO 20) (mB 20)) = true := by decide +kernel
set_option maxRecDepth 20000 in
theorem tb_ok_21 : tb_21.all (chk1 (mO 21) (mB 21)) = true := by decide +kernel
set_option maxRecDepth 20000 in
theorem tb_ok_22 : tb_22.all (chk1 (mO 22) (mB 22)) = true := by decide +kernel
set_option maxRecDepth 20000 in
theorem tb_ok_23 : tb_23.all (chk1 (mO 23) (mB 23)) = true := by decide +kernel
set_option maxRecDepth 20000 in
theorem tb_ok_24 : tb_24.all (chk1 (mO 24) (mB 24)) = true := by decide +kernel
set_option maxRecDepth 20000 in
theorem tb_ok_25 : tb_25.all (chk1 (mO 25) (mB 25)) = true := by decide +kernel
set_option maxRecDepth 20000 in
theorem tb_ok_26 : tb_26.all (chk1 (mO 26) (mB 26)) = true := by decide +kernel
set_option maxRecDepth 20000 in
theorem tb_ok_27 : tb_27.all (chk1 (mO 27) (mB 27)) = true := by decide +kernel
set_option maxRecDepth 20000 in
theorem tb_ok_28 : tb_28.all (chk1 (mO 28) (mB 28)) = true := by decide +kernel
set_option maxRecDepth 20000 in
theorem tb_ok_29 : tb_29.all (chk1 (mO 29) (mB 29)) = true := by decide +kernel
set_option maxRecDepth 20000 in
theorem tb_ok_30 : tb_30.all (chk1 (mO 30) (mB 30)) = true := by decide +kernel
set_option maxRecDepth 20000 in
theorem tb_ok_31 : tb_31.all (chk1 (mO 31) (mB 31)) = true := by decide +kernel
set_option maxRecDepth 20000 in
theorem tb_ok_32 : tb_32.all (chk1 (mO 32) (mB 32)) = true := by decide +kernel
set_option maxRecDepth 20000 in
theorem tb_ok_33 : tb_33.all (chk1 (mO 33) (mB 33)) = true := by decide +kernel
set_option maxRecDepth 20000 in
theorem tb_ok_34 : tb_34.all (chk1 (mO 34) (mB 34)) = true := by decide +kernel
set_option maxRecDepth 20000 in
theorem tb_ok_35 : tb_35.all (chk1 (mO 35) (mB 35)) = true := by decide +kernel
set_option maxRecDepth 20000 in
theorem tb_ok_36 : tb_36.all (chk1 (mO 36) (mB 36)) = true := by decide +kernel
set_option maxRecDepth 20000 in
theorem tb_ok_37 : tb_37.all (chk1 (mO 37) (mB 37)) = true := by decide +kernel
set_option maxRecDepth 20000 in
theorem tb_ok_38 : tb_38.all (chk1 (mO 38) (mB 38)) = true := by decide +kernel
set_option maxRecDepth 20000 in
theorem tb_ok_39 : tb_39.all (chk1 (mO 39) (mB 39)) = true := by decide +kernel
set_option maxRecDepth 20000 in
theorem tb_ok_40 : tb_40.all (chk1 (mO 40) (mB 40)) = true := by decide +kernel
set_option maxRecDepth 20000 in
theorem tb_ok_41 : tb_41.all (chk1 (mO 41) (mB 41)) = true := by decide +kernel
set_option maxRecDepth 20000 in
theorem tb_ok_42 : tb_42.all (chk1 (mO 42) (mB 42)) = true := by decide +kernel
set_option maxRecDepth 20000 in
theorem tb_ok_43 : tb_43.all (chk1 (mO 43) (mB 43)) = true := by decide +kernel
set_option maxRecDepth 20000 in
theorem tb_ok_44 : tb_44.all (chk1 (mO 44) (mB 44)) = true := by decide +kernel
set_option maxRecDepth 20000 in
theorem tb_ok_45 : tb_45.all (chk1 (mO 45) (mB 45)) = true := by decide +kernel
set_option maxRecDepth 20000 in
theorem tb_ok_46 : tb_46.all (chk1 (mO 46) (mB 46)) = true := by decide +kernel
set_option maxRecDepth 20000 in
theorem tb_ok_47 : tb_47.all (chk1 (mO 47) (mB 47)) = true := by decide +kernel
set_option maxRecDepth 20000 in
theorem tb_ok_48 : tb_48.all (chk1 (mO 48) (mB 48)) = true := by decide +kernel
set_option maxRecDepth 20000 in
theorem tb_ok_49 : tb_49.all (chk1 (mO 49) (mB 49)) = true := by decide +kernel
set_option maxRecDepth 20000 in
theorem tb_ok_50 : tb_50.all (chk1 (mO 50) (mB 50)) = true := by decide +kernel
set_option maxRecDepth 20000 in
theorem tb_ok_51 : tb_51.all (chk1 (mO 51) (mB 51)) = true := by decide +kernel
set_option maxRecDepth 20000 in
theorem tb_ok_52 : tb_52.all (chk1 (mO 52) (mB 52)) = true := by decide +kernel
set_option maxRecDepth 20000 in
theorem tb_ok_53 : tb_53.all (chk1 (mO 53) (mB 53)) = true := by decide +kernel
set_option maxRecDepth 20000 in
theorem tb_ok_54 : tb_54.all (chk1 (mO 54) (mB 54)) = true := by decide +kernel
set_option maxRecDepth 20000 in
theorem tb_ok_55 : tb_55.all (chk1 (mO 55) (mB 55)) = true := by decide +kernel
set_option maxRecDepth 20000 in
theorem tb_ok_56 : tb_56.all (chk1 (mO 56) (mB 56)) = true := by decide +kernel
set_option maxRecDepth 20000 in
theorem tb_ok_57 : tb_57.all (chk1 (mO 57) (mB 57)) = true := by decide +kernel
set_option maxRecDepth 20000 in
theorem tb_ok_58 : tb_58.all (chk1 (mO 58) (mB 58)) = true := by decide +kernel
set_option maxRecDepth 20000 in
theorem tb_ok_59 : tb_59.all (chk1 (mO 59) (mB 59)) = true := by decide +kernel
set_option maxRecDepth 20000 in
theorem tb_ok_60 : tb_60.all (chk1 (mO 60) (mB 60)) = true := by decide +kernel
set_option maxRecDepth 20000 in
theorem tb_ok_61 : tb_61.all (chk1 (mO 61) (mB 61)) = true := by decide +kernel
set_option maxRecDepth 20000 in
theorem tb_ok_62 : tb_62.all (chk1 (mO 62) (mB 62)) = true := by decide +kernel
set_option maxRecDepth 20000 in
theorem tb_ok_63 : tb_63.all (chk1 (mO 63) (mB 63)) = true := by decide +kernel
set_option maxRecDepth 20000 in
theorem tb_ok_64 : tb_64.all (chk1 (mO 64) (mB 64)) = true := by decide +kernel
set_option maxRecDepth 20000 in
theorem tb_ok_65 : tb_65.all (chk1 (mO 65) (mB 65)) = true := by decide +kernel
set_option maxRecDepth 20000 in
theorem tb_ok_66 : tb_66.all (chk1 (mO 66) (mB 66)) = true := by decide +kernel
set_option maxRecDepth 20000 in
theorem tb_ok_67 : tb_67.all (chk1 (mO 67) (mB 67)) = true := by decide +kernel
set_option maxRecDepth 20000 in
theorem tb_ok_68 : tb_68.all (chk1 (mO 68) (mB 68)) = true := by decide +kernel
set_option maxRecDepth 20000 in
theorem tb_ok_69 : tb_69.all (chk1 (mO 69) (mB 69)) = true := by decide +kernel
set_option maxRecDepth 20000 in
theorem tb_ok_70 : tb_70.all (chk1 (mO 70) (mB 70)) = true := by decide +kernel
set_option maxRecDepth 20000 in
theorem tb_ok_71 : tb_71.all (chk1 (mO 71) (mB 71)) = true := by decide +kernel
set_option maxRecDepth 20000 in
theorem tb_ok_72 : tb_72.all (chk1 (mO 72) (mB 72)) = true := by decide +kernel
set_option maxRecDepth 20000 in
theorem tb_ok_73 : tb_73.all (chk1 (mO 73) (mB 73)) = true := by decide +kernel
set_option maxRecDepth 20000 in
theorem tb_ok_74 : tb_74.all (chk1 (mO 74) (mB 74)) = true := by decide +kernel
set_option maxRecDepth 20000 in
theorem tb_ok_75 : tb_75.all (chk1 (mO 75) (mB 75)) = true := by decide +kernel
set_option maxRecDepth 20000 in
theorem tb_ok_76 : tb_76.all (chk1 (mO 76) (mB 76)) = true := by decide +kernel
set_option maxRecDepth 20000 in
theorem tb_ok_77 : tb_77.all (chk1 (mO 77) (mB 77)) = true := by decide +kernel
set_option maxRecDepth 20000 in
theorem tb_ok_78 : tb_78.all (chk1 (mO 78) (mB 78)) = true := by decide +kernel
set_option maxRecDepth 20000 in
theorem tb_ok_79 : tb_79.all (chk1 (mO 79) (mB 79)) = true := by decide +kernel
set_option maxRecDepth 20000 in
theorem tb_ok_80 : tb_80.all (chk1 (mO 80) (mB 80)) = true := by decide +kernel
set_option maxRecDepth 20000 in
theorem tb_ok_81 : tb_81.all (chk1 (mO 81) (mB 81)) = true := by decide +kernel
set_option maxRecDepth 20000 in
theorem tb_ok_82 : tb_82.all (chk1 (mO 82) (mB 82)) = true := by decide +kernel
set_option maxRecDepth 20000 in
theorem tb_ok_83 : tb_83.all (chk1 (mO 83) (mB 83)) = true := by decide +kernel
set_option maxRecDepth 20000 in
theorem tb_ok_84 : tb_84.all (chk1 (mO 84) (mB 84)) = true := by decide +kernel
set_option maxRecDepth 20000 in
theorem tb_ok_85 : tb_85.all (chk1 (mO 85) (mB 85)) = true := by decide +kernel
set_option maxRecDepth 20000 in
theorem tb_ok_86 : tb_86.all (chk1 (mO 86) (mB 86)) = true := by decide +kernel
set_option maxRecDepth 20000 in
theorem tb_ok_87 : tb_87.all (chk1 (mO 87) (mB 87)) = true := by decide +kernel
set_option maxRecDepth 20000 in
theorem tb_ok_88 : tb_88.all (chk1 (mO 88) (mB 88)) = true := by decide +kernel
set_option maxRecDepth 20000 in
theorem tb_ok_89 : tb_89.all (chk1 (mO 89) (mB 89)) = true := by decide +kernel
set_option maxRecDepth 20000 in
theorem tb_ok_90 : tb_90.all (chk1 (mO 90) (mB 90)) = true := by decide +kernel
set_option maxRecDepth 20000 in
theorem tb_ok_91 : tb_91.all (chk1 (mO 91) (mB 91)) = true := by decide +kernel
set_option maxRecDepth 20000 in
theorem tb_ok_92 : tb_92.all (chk1 (mO 92) (mB 92)) = true := by decide +kernel
set_option maxRecDepth 20000 in
theorem tb_ok_93 : tb_93.all (chk1 (mO 93) (mB 93)) = true := by decide +kernel
set_option maxRecDepth 20000 in
theorem tb_ok_94 : tb_94.all (chk1 (mO 94) (mB 94)) = true := by decide +kernel
set_option maxRecDepth 20000 in
theorem tb_ok_95 : tb_95.all (chk1 (mO 95) (mB 95)) = true := by decide +kernel
set_option maxRecDepth 20000 in
theorem tb_ok_96 : tb_96.all (chk1 (mO 96) (mB 96)) = true := by decide +kernel
set_option maxRecDepth 20000 in
theorem tb_ok_97 : tb_97.all (chk1 (mO 97) (mB 97)) = true := by decide +kernel
set_option maxRecDepth 20000 in
theorem tb_ok_98 : tb_98.all (chk1 (mO 98) (mB 98)) = true := by decide +kernel
set_option maxRecDepth 20000 in
theorem tb_ok_99 : tb_99.all (chk1 (mO 99) (mB 99)) = true := by decide +kernel
set_option maxRecDepth 20000 in
theorem tb_ok_100 : tb_100.all (chk1 (mO 100) (mB 100)) = true := by decide +kernel
set_option maxRecDepth 20000 in
theorem tb_ok_101 : tb_101.all (chk1 (mO 101) (mB 101)) = true := by decide +kernel
set_option maxRecDepth 20000 in
theorem tb_ok_102 : tb_102.all (chk1 (mO 102) (mB 102)) = true := by decide +kernel
set_option maxRecDepth 20000 in
theorem tb_ok_103 : tb_103.all (chk1 (mO 103) (mB 103)) = true := by decide +kernel
set_option maxRecDepth 20000 in
theorem tb_ok_104 : tb_104.all (chk1 (mO 104) (mB 104)) = true := by decide +kernel
set_option maxRecDepth 20000 in
theorem tb_ok_105 : tb_105.all (chk1 (mO 105) (mB 105)) = true := by decide +kernel
set_option maxRecDepth 20000 in
theorem tb_ok_106 : tb_106.all (chk1 (mO 106) (mB 106)) = true := by decide +kernel
set_option maxRecDepth 20000 in
theorem tb_ok_107 : tb_107.all (chk1 (mO 107) (mB 107)) = true := by decide +kernel
set_option maxRecDepth 20000 in
theorem tb_ok_108 : tb_108.all (chk1 (mO 108) (mB 108)) = true := by decide +kernel
set_option maxRecDepth 20000 in
theorem tb_ok_109 : tb_109.all (chk1 (mO 109) (mB 109)) = true := by decide +kernel
set_option maxRecDepth 20000 in
theorem tb_ok_110 : tb_110.all (chk1 (mO 110) (mB 110)) = true := by decide +kernel
set_option maxRecDepth 20000 in
theorem tb_ok_111 : tb_111.all (chk1 (mO 111) (mB 111)) = true := by decide +kernel
set_option maxRecDepth 20000 in
theorem tb_ok_112 : tb_112.all (chk1 (mO 112) (mB 112)) = true := by decide +kernel
set_option maxRecDepth 20000 in
theorem tb_ok_113 : tb_113.all (chk1 (mO 113) (mB 113)) = true := by decide +kernel
set_option maxRecDepth 20000 in
theorem tb_ok_114 : tb_114.all (chk1 (mO 114) (mB 114)) = true := by decide +kernel
set_option maxRecDepth 20000 in
theorem tb_ok_115 : tb_115.all (chk1 (mO 115) (mB 115)) = true := by decide +kernel
set_option maxRecDepth 20000 in
theorem tb_ok_116 : tb_116.all (chk1 (mO 116) (mB 116)) = true := by decide +kernel
set_option maxRecDepth 20000 in
theorem tb_ok_117 : tb_117.all (chk1 (mO 117) (mB 117)) = true := by decide +kernel
set_option maxRecDepth 20000 in
theorem tb_ok_118 : tb_118.all (chk1 (mO 118) (mB 118)) = true := by decide +kernel
set_option maxRecDepth 20000 in
theorem tb_ok_119 : tb_119.all (chk1 (mO 119) (mB 119)) = true := by decide +kernel
set_option maxRecDepth 20000 in
theorem tb_ok_120 : tb_120.all (chk1 (mO 120) (mB 120)) = true := by decide +kernel
set_option maxRecDepth 20000 in
theorem tb_ok_121 : tb_121.all (chk1 (mO 121) (mB 121)) = true := by decide +kernel
set_option maxRecDepth 20000 in
theorem tb_ok_122 : tb_122.all (chk1 (mO 122) (mB 122)) = true := by decide +kernel
set_option maxRecDepth 20000 in
theorem tb_ok_123 : tb_123.all (chk1 (mO 123) (mB 123)) = true := by decide +kernel
set_option maxRecDepth 20000 in
theorem tb_ok_124 : tb_124.all (chk1 (mO 124) (mB 124)) = true := by decide +kernel
set_option maxRecDepth 20000 in
theorem tb_ok_125 : tb_125.all (chk1 (mO 125) (mB 125)) = true := by decide +kernel
set_option maxRecDepth 20000 in
theorem tb_ok_126 : tb_126.all (chk1 (mO 126) (mB 126)) = true := by decide +kernel
set_option maxRecDepth 20000 in
theorem tb_ok_127 : tb_127.all (chk1 (mO 127) (mB 127)) = true := by decide +kernel
set_option maxRecDepth 20000 in
theorem tb_ok_128 : tb_128.all (chk1 (mO 128) (mB 128)) = true := by decide +kernel
set_option maxRecDepth 20000 in
theorem tb_ok_129 : tb_129.all (chk1 (mO 129) (mB 129)) = true := by decide +kernel
set_option maxRecDepth 20000 in
theorem tb_ok_130 : tb_130.all (chk1 (mO 130) (mB 130)) = true := by decide +kernel
set_option maxRecDepth 20000 in
theorem tb_ok_131 : tb_131.all (chk1 (mO 131) (mB 131)) = true := by decide +kernel
set_option maxRecDepth 20000 in
theorem tb_ok_132 : tb_132.all (chk1 (mO 132) (mB 132)) = true := by decide +kernel
set_option maxRecDepth 20000 in
theorem tb_ok_133 : tb_133.all (chk1 (mO 133) (mB 133)) = true := by decide +kernel
set_option maxRecDepth 20000 in
theorem tb_ok_134 : tb_134.all (chk1 (mO 134) (mB 134)) = true := by decide +kernel
set_option maxRecDepth 20000 in
theorem tb_ok_135 : tb_135.all (chk1 (mO 135) (mB 135)) = true := by decide +kernel
set_option maxRecDepth 20000 in
theorem tb_ok_136 : tb_136.all (chk1 (mO 136) (mB 136)) = true := by decide +kernel
set_option maxRecDepth 20000 in
theorem tb_ok_137 : tb_137.all (chk1 (mO 137) (mB 137)) = true := by decide +kernel
set_option maxRecDepth 20000 in
theorem tb_ok_138 : tb_138.all (chk1 (mO 138) (mB 138)) = true := by decide +kernel
set_option maxRecDepth 20000 in
theorem tb_ok_139 : tb_139.all (chk1 (mO 139) (mB 139)) = true := by decide +kernel
set_option maxRecDepth 20000 in
theorem tb_ok_140 : tb_140.all (chk1 (mO 140) (mB 140)) = true := by decide +kernel
set_option maxRecDepth 20000 in
theorem tb_ok_141 : tb_141.all (chk1 (mO 141) (mB 141)) = true := by decide +kernel
set_option maxRecDepth 20000 in
theorem tb_ok_142 : tb_142.all (chk1 (mO 142) (mB 142)) = true := by decide +kernel
set_option maxRecDepth 20000 in
theorem tb_ok_143 : tb_143.all (chk1 (mO 143) (mB 143)) = true := by decide +kernel
set_option maxRecDepth 20000 in
theorem tb_ok_144 : tb_144.all (chk1 (mO 144) (mB 144)) = true := by decide +kernel
set_option maxRecDepth 20000 in
theorem tb_ok_145 : tb_145.all (chk1 (mO 145) (mB 145)) = true := by decide +kernel
set_option maxRecDepth 20000 in
theorem tb_ok_146 : tb_146.all (chk1 (mO 146) (mB 146)) = true := by decide +kernel
set_option maxRecDepth 20000 in
theorem tb_ok_147 : tb_147.all (chk1 (mO 147) (mB 147)) = true := by decide +kernel
set_option maxRecDepth 20000 in
theorem tb_ok_148 : tb_148.all (chk1 (mO 148) (mB 148)) = true := by decide +kernel
set_option maxRecDepth 20000 in
theorem tb_ok_149 : tb_149.all (chk1 (mO 149) (mB 149)) = true := by decide +kernel
set_option maxRecDepth 20000 in
theorem tb_ok_150 : tb_150.all (chk1 (mO 150) (mB 150)) = true := by decide +kernel
set_option maxRecDepth 20000 in
theorem tb_ok_151 : tb_151.all (chk1 (mO 151) (mB 151)) = true := by decide +kernel
set_option maxRecDepth 20000 in
theorem tb_ok_152 : tb_152.all (chk1 (mO 152) (mB 152)) = true := by decide +kernel
set_option maxRecDepth 20000 in
theorem tb_ok_153 : tb_153.all (chk1 (mO 153) (mB 153)) = true := by decide +kernel
set_option maxRecDepth 20000 in
theorem tb_ok_154 : tb_154.all (chk1 (mO 154) (mB 154)) = true := by decide +kernel
set_option maxRecDepth 20000 in
theorem tb_ok_155 : tb_155.all (chk1 (mO 155) (mB 155)) = true := by decide +kernel
set_option maxRecDepth 20000 in
theorem tb_ok_156 : tb_156.all (chk1 (mO 156) (mB 156)) = true := by decide +kernel
set_option maxRecDepth 20000 in
theorem tb_ok_157 : tb_157.all (chk1 (mO 157) (mB 157)) = true := by decide +kernel
set_option maxRecDepth 20000 in
theorem tb_ok_158 : tb_158.all (chk1 (mO 158) (mB 158)) = true := by decide +kernel
set_option maxRecDepth 20000 in
theorem tb_ok_159 : tb_159.all (chk1 (mO 159) (mB 159)) = true := by decide +kernel
set_option maxRecDepth 20000 in
theorem tb_ok_160 : tb_160.all (chk1 (mO 160) (mB 160)) = true := by decide +kernel
set_option maxRecDepth 20000 in
theorem tb_ok_161 : tb_161.all (chk1 (mO 161) (mB 161)) = true := by decide +kernel
set_option maxRecDepth 20000 in
theorem tb_ok_162 : tb_162.all (chk1 (mO 162) (mB 162)) = true := by decide +kernel
set_option maxRecDepth 20000 in
theorem tb_ok_163 : tb_163.all (chk1 (mO 163) (mB 163)) = true := by decide +kernel
set_option maxRecDepth 20000 in
theorem tb_ok_164 : tb_164.all (chk1 (mO 164) (mB 164)) = true := by decide +kernel
set_option maxRecDepth 20000 in
theorem tb_ok_165 : tb_165.all (chk1 (mO 165) (mB 165)) = true := by decide +kernel
set_option maxRecDepth 20000 in
theorem tb_ok_166 : tb_166.all (chk1 (mO 166) (mB 166)) = true := by decide +kernel
set_option maxRecDepth 20000 in
theorem tb_ok_167 : tb_167.all (chk1 (mO 167) (mB 167)) = true := by decide +kernel
set_option maxRecDepth 20000 in
theorem tb_ok_168 : tb_168.all (chk1 (mO 168) (mB 168)) = true := by decide +kernel
set_option maxRecDepth 20000 in
theorem tb_ok_169 : tb_169.all (chk1 (mO 169) (mB 169)) = true := by decide +kernel
set_option maxRecDepth 20000 in
theorem tb_ok_170 : tb_170.all (chk1 (mO 170) (mB 170)) = true := by decide +kernel
set_option maxRecDepth 20000 in
theorem tb_ok_171 : tb_171.all (chk1 (mO 171) (mB 171)) = true := by decide +kernel
set_option maxRecDepth 20000 in
theorem tb_ok_172 : tb_172.all (chk1 (mO 172) (mB 172)) = true := by decide +kernel
set_option maxRecDepth 20000 in
theorem tb_ok_173 : tb_173.all (chk1 (mO 173) (mB 173)) = true := by decide +kernel
set_option maxRecDepth 20000 in
theorem tb_ok_174 : tb_174.all (chk1 (mO 174) (mB 174)) = true := by decide +kernel
set_option maxRecDepth 20000 in
theorem tb_ok_175 : tb_175.all (chk1 (mO 175) (mB 175)) = true := by decide +kernel
set_option maxRecDepth 20000 in
theorem tb_ok_176 : tb_176.all (chk1 (mO 176) (mB 176)) = true := by decide +kernel
set_option maxRecDepth 20000 in
theorem tb_ok_177 : tb_177.all (chk1 (mO 177) (mB 177)) = true := by decide +kernel
set_option maxRecDepth 20000 in
theorem tb_ok_178 : tb_178.all (chk1 (mO 178) (mB 178)) = true := by decide +kernel
set_option maxRecDepth 20000 in
theorem tb_ok_179 : tb_179.all (chk1 (mO 179) (mB 179)) = true := by decide +kernel
set_option maxRecDepth 20000 in
theorem tb_ok_180 : tb_180.all (chk1 (mO 180) (mB 180)) = true := by decide +kernel
set_option maxRecDepth 20000 in
theorem tb_ok_181 : tb_181.all (chk1 (mO 181) (mB 181)) = true := by decide +kernel
set_option maxRecDepth 20000 in
theorem tb_ok_182 : tb_182.all (chk1 (mO 182) (mB 182)) = true := by decide +kernel
set_option maxRecDepth 20000 in
theorem tb_ok_183 : tb_183.all (chk1 (mO 183) (mB 183)) = true := by decide +kernel
set_option maxRecDepth 20000 in
theorem tb_ok_184 : tb_184.all (chk1 (mO 184) (mB 184)) = true := by decide +kernel
set_option maxRecDepth 20000 in
theorem tb_ok_185 : tb_185.all (chk1 (mO 185) (mB 185)) = true := by decide +kernel
set_option maxRecDepth 20000 in
theorem tb_ok_186 : tb_186.all (chk1 (mO 186) (mB 186)) = true := by decide +kernel
set_option maxRecDepth 20000 in
theorem tb_ok_187 : tb_187.all (chk1 (mO 187) (mB 187)) = true := by decide +kernel
set_option maxRecDepth 20000 in
theorem tb_ok_188 : tb_188.all (chk1 (mO 188) (mB 188)) = true := by decide +kernel
set_option maxRecDepth 20000 in
theorem tb_ok_189 : tb_189.all (chk1 (mO 189) (mB 189)) = true := by decide +kernel
set_option maxRecDepth 20000 in
theorem tb_ok_190 : tb_190.all (chk1 (mO 190) (mB 190)) = true := by decide +kernel
set_option maxRecDepth 20000 in
theorem tb_ok_191 : tb_191.all (chk1 (mO 191) (mB 191)) = true := by decide +kernel
set_option maxRecDepth 20000 in
theorem tb_ok_192 : tb_192.all (chk1 (mO 192) (mB 192)) = true := by decide +kernel
set_option maxRecDepth 20000 in
theorem tb_ok_193 : tb_193.all (chk1 (mO 193) (mB 193)) = true := by decide +kernel
set_option maxRecDepth 20000 in
theorem tb_ok_194 : tb_194.all (chk1 (mO 194) (mB 194)) = true := by decide +kernel
set_option maxRecDepth 20000 in
theorem tb_ok_195 : tb_195.all (chk1 (mO 195) (mB 195)) = true := by decide +kernel
set_option maxRecDepth 20000 in
theorem tb_ok_196 : tb_196.all (chk1 (mO 196) (mB 196)) = true := by decide +kernel
set_option maxRecDepth 20000 in
theorem tb_ok_197 : tb_197.all (chk1 (mO 197) (mB 197)) = true := by decide +kernel
set_option maxRecDepth 20000 in
theorem tb_ok_198 : tb_198.all (chk1 (mO 198) (mB 198)) = true := by decide +kernel
set_option maxRecDepth 20000 in
theorem tb_ok_199 : tb_199.all (chk1 (mO 199) (mB 199)) = true := by decide +kernel
set_option maxRecDepth 20000 in
theorem tb_ok_200 : tb_200.all (chk1 (mO 200) (mB 200)) = true := by decide +kernel
set_option maxRecDepth 20000 in
theorem tb_ok_201 : tb_201.all (chk1 (mO 201) (mB 201)) = true := by decide +kernel
set_option maxRecDepth 20000 in
theorem tb_ok_202 : tb_202.all (chk1 (mO 202) (mB 202)) = true := by decide +kernel
set_option maxRecDepth 20000 in
theorem tb_ok_203 : tb_203.all (chk1 (mO 203) (mB 203)) = true := by decide +kernel
set_option maxRecDepth 20000 in
theorem tb_ok_204 : tb_204.all (chk1 (mO 204) (mB 204)) = true := by decide +kernel
set_option maxRecDepth 20000 in
theorem tb_ok_205 : tb_205.all (chk1 (mO 205) (mB 205)) = true := by decide +kernel
set_option maxRecDepth 20000 in
theorem tb_ok_206 : tb_206.all (chk1 (mO 206) (mB 206)) = true := by decide +kernel
set_option maxRecDepth 20000 in
theorem tb_ok_207 : tb_207.all (chk1 (mO 207) (mB 207)) = true := by decide +kernel
set_option maxRecDepth 20000 in
theorem tb_ok_208 : tb_208.all (chk1 (mO 208) (mB 208)) = true := by decide +kernel
set_option maxRecDepth 20000 in
theorem tb_ok_209 : tb_209.all (chk1 (mO 209) (mB 209)) = true := by decide +kernel
set_option maxRecDepth 20000 in
theorem tb_ok_210 : tb_210.all (chk1 (mO 210) (mB 210)) = true := by decide +kernel
set_option maxRecDepth 20000 in
theorem tb_ok_211 : tb_211.all (chk1 (mO 211) (mB 211)) = true := by decide +kernel
set_option maxRecDepth 20000 in
theorem tb_ok_212 : tb_212.all (chk1 (mO 212) (mB 212)) = true := by decide +kernel
set_option maxRecDepth 20000 in
theorem tb_ok_213 : tb_213.all (chk1 (mO 213) (mB 213)) = true := by decide +kernel
set_option maxRecDepth 20000 in
theorem tb_ok_214 : tb_214.all (chk1 (mO 214) (mB 214)) = true := by decide +kernel
set_option maxRecDepth 20000 in
theorem tb_ok_215 : tb_215.all (chk1 (mO 215) (mB 215)) = true := by decide +kernel
set_option maxRecDepth 20000 in
theorem tb_ok_216 : tb_216.all (chk1 (mO 216) (mB 216)) = true := by decide +kernel
set_option maxRecDepth 20000 in
theorem tb_ok_217 : tb_217.all (chk1 (mO 217) (mB 217)) = true := by decide +kernel
set_option maxRecDepth 20000 in
theorem tb_ok_218 : tb_218.all (chk1 (mO 218) (mB 218)) = true := by decide +kernel
set_option maxRecDepth 20000 in
theorem tb_ok_219 : tb_219.all (chk1 (mO 219) (mB 219)) = true := by decide +kernel
set_option maxRecDepth 20000 in
theorem tb_ok_220 : tb_220.all (chk1 (mO 220) (mB 220)) = true := by decide +kernel
set_option maxRecDepth 20000 in
theorem tb_ok_221 : tb_221.all (chk1 (mO 221) (mB 221)) = true := by decide +kernel
set_option maxRecDepth 20000 in
theorem tb_ok_222 : tb_222.all (chk1 (mO 222) (mB 222)) = true := by decide +kernel
set_option maxRecDepth 20000 in
theorem tb_ok_223 : tb_223.all (chk1 (mO 223) (mB 223)) = true := by decide +kernel
set_option maxRecDepth 20000 in
theorem tb_ok_224 : tb_224.all (chk1 (mO 224) (mB 224)) = true := by decide +kernel
set_option maxRecDepth 20000 in
theorem tb_ok_225 : tb_225.all (chk1 (mO 225) (mB 225)) = true := by decide +kernel
set_option maxRecDepth 20000 in
theorem tb_ok_226 : tb_226.all (chk1 (mO 226) (mB 226)) = true := by decide +kernel
set_option maxRecDepth 20000 in
theorem tb_ok_227 : tb_227.all (chk1 (mO 227) (mB 227)) = true := by decide +kernel
set_option maxRecDepth 20000 in
theorem tb_ok_228 : tb_228.all (chk1 (mO 228) (mB 228)) = true := by decide +kernel
set_option maxRecDepth 20000 in
theorem tb_ok_229 : tb_229.all (chk1 (mO 229) (mB 229)) = true := by decide +kernel
set_option maxRecDepth 20000 in
theorem tb_ok_230 : tb_230.all (chk1 (mO 230) (mB 230)) = true := by decide +kernel
set_option maxRecDepth 20000 in
theorem tb_ok_231 : tb_231.all (chk1 (mO 231) (mB 231)) = true := by decide +kernel
set_option maxRecDepth 20000 in
theorem tb_ok_232 : tb_232.all (chk1 (mO 232) (mB 232)) = true := by decide +kernel
set_option maxRecDepth 20000 in
theorem tb_ok_233 : tb_233.all (chk1 (mO 233) (mB 233)) = true := by decide +kernel
set_option maxRecDepth 20000 in
theorem tb_ok_234 : tb_234.all (chk1 (mO 234) (mB 234)) = true := by decide +kernel
set_option maxRecDepth 20000 in
theorem tb_ok_235 : tb_235.all (chk1 (mO 235) (mB 235)) = true := by decide +kernel
set_option maxRecDepth 20000 in
theorem tb_ok_236 : tb_236.all (chk1 (mO 236) (mB 236)) = true := by decide +kernel
set_option maxRecDepth 20000 in
theorem tb_ok_237 : tb_237.all (chk1 (mO 237) (mB 237)) = true := by decide +kernel
set_option maxRecDepth 20000 in
theorem tb_ok_238 : tb_238.all (chk1 (mO 238) (mB 238)) = true := by decide +kernel
set_option maxRecDepth 20000 in
theorem tb_ok_239 : tb_239.all (chk1 (mO 239) (mB 239)) = true := by decide +kernel
set_option maxRecDepth 20000 in
theorem tb_ok_240 : tb_240.all (chk1 (mO 240) (mB 240)) = true := by decide +kernel
set_option maxRecDepth 20000 in
theorem tb_ok_241 : tb_241.all (chk1 (mO 241) (mB 241)) = true := by decide +kernel
set_option maxRecDepth 20000 in
theorem tb_ok_242 : tb_242.all (chk1 (mO 242) (mB 242)) = true := by decide +kernel
set_option maxRecDepth 20000 in
theorem tb_ok_243 : tb_243.all (chk1 (mO 243) (mB 243)) = true := by decide +kernel
set_option maxRecDepth 20000 in
theorem tb_ok_244 : tb_244.all (chk1 (mO 244) (mB 244)) = true := by decide +kernel
set_option maxRecDepth 20000 in
theorem tb_ok_245 : tb_245.all (chk1 (mO 245) (mB 245)) = true := by decide +kernel
set_option maxRecDepth 20000 in
theorem tb_ok_246 : tb_246.all (chk1 (mO 246) (mB 246)) = true := by decide +kernel
set_option maxRecDepth 20000 in
theorem tb_ok_247 : tb_247.all (chk1 (mO 247) (mB 247)) = true := by decide +kernel
set_option maxRecDepth 20000 in
theorem tb_ok_248 : tb_248.all (chk1 (mO 248) (mB 248)) = true := by decide +kernel
set_option maxRecDepth 20000 in
theorem tb_ok_249 : tb_249.all (chk1 (mO 249) (mB 249)) = true := by decide +kernel
set_option maxRecDepth 20000 in
theorem tb_ok_250 : tb_250.all (chk1 (mO 250) (mB 250)) = true := by decide +kernel
set_option maxRecDepth 20000 in
theorem tb_ok_251 : tb_251.all (chk1 (mO 251) (mB 251)) = true := by decide +kernel
set_option maxRecDepth 20000 in
theorem tb_ok_252 : tb_252.all (chk1 (mO 252) (mB 252)) = true := by decide +kernel
set_option maxRecDepth 20000 in
theorem tb_ok_253 : tb_253.all (chk1 (mO 253) (mB 253)) = true := by decide +kernel
set_option maxRecDepth 20000 in
theorem tb_ok_254 : tb_254.all (chk1 (mO 254) (mB 254)) = true := by decide +kernel
set_option maxRecDepth 20000 in
theorem tb_ok_255 : tb_255.all (chk1 (mO 255) (mB 255)) = true := by decide +kernel
set_option maxRecDepth 20000 in
theorem tb_ok_256 : tb_256.all (chk1 (mO 256) (mB 256)) = true := by decide +kernel
set_option maxRecDepth 20000 in
theorem tb_ok_257 : tb_257.all (chk1 (mO 257) (mB 257)) = true := by decide +kernel
set_option maxRecDepth 20000 in
theorem tb_ok_258 : tb_258.all (chk1 (mO 258) (mB 258)) = true := by decide +kernel
set_option maxRecDepth 20000 in
theorem tb_ok_259 : tb_259.all (chk1 (mO 259) (mB 259)) = true := by decide +kernel
set_option maxRecDepth 20000 in
theorem tb_ok_260 : tb_260.all (chk1 (mO 260) (mB 260)) = true := by decide +kernel
set_option maxRecDepth 20000 in
theorem tb_ok_261 : tb_261.all (chk1 (mO 261) (mB 261)) = true := by decide +kernel
set_option maxRecDepth 20000 in
theorem tb_ok_262 : tb_262.all (chk1 (mO 262) (mB 262)) = true := by decide +kernel
set_option maxRecDepth 20000 in
theorem tb_ok_263 : tb_263.all (chk1 (mO 263) (mB 263)) = true := by decide +kernel
set_option maxRecDepth 20000 in
theorem tb_ok_264 : tb_264.all (chk1 (mO 264) (mB 264)) = true := by decide +kernel
set_option maxRecDepth 20000 in
theorem tb_ok_265 : tb_265.all (chk1 (mO 265) (mB 265)) = true := by decide +kernel
set_option maxRecDepth 20000 in
theorem tb_ok_266 : tb_266.all (chk1 (mO 266) (mB 266)) = true := by decide +kernel
set_option maxRecDepth 20000 in
theorem tb_ok_267 : tb_267.all (chk1 (mO 267) (mB 267)) = true := by decide +kernel
set_option maxRecDepth 20000 in
theorem tb_ok_268 : tb_268.all (chk1 (mO 268) (mB 268)) = true := by decide +kernel
set_option maxRecDepth 20000 in
theorem tb_ok_269 : tb_269.all (chk1 (mO 269) (mB 269)) = true := by decide +kernel
set_option maxRecDepth 20000 in
theorem tb_ok_270 : tb_270.all (chk1 (mO 270) (mB 270)) = true := by decide +kernel
set_option maxRecDepth 20000 in
theorem tb_ok_271 : tb_271.all (chk1 (mO 271) (mB 271)) = true := by decide +kernel
set_option maxRecDepth 20000 in
theorem tb_ok_272 : tb_272.all (chk1 (mO 272) (mB 272)) = true := by decide +kernel
set_option maxRecDepth 20000 in
theorem tb_ok_273 : tb_273.all (chk1 (mO 273) (mB 273)) = true := by decide +kernel
set_option maxRecDepth 20000 in
theorem tb_ok_274 : tb_274.all (chk1 (mO 274) (mB 274)) = true := by decide +kernel
set_option maxRecDepth 20000 in
theorem tb_ok_275 : tb_275.all (chk1 (mO 275) (mB 275)) = true := by decide +kernel
set_option maxRecDepth 20000 in
theorem tb_ok_276 : tb_276.all (chk1 (mO 276) (mB 276)) = true := by decide +kernel
set_option maxRecDepth 20000 in
theorem tb_ok_277 : tb_277.all (chk1 (mO 277) (mB 277)) = true := by decide +kernel
set_option maxRecDepth 20000 in
theorem tb_ok_278 : tb_278.all (chk1 (mO 278) (mB 278)) = true := by decide +kernel
set_option maxRecDepth 20000 in
theorem tb_ok_279 : tb_279.all (chk1 (mO 279) (mB 279)) = true := by decide +kernel
set_option maxRecDepth 20000 in
theorem tb_ok_280 : tb_280.all (chk1 (mO 280) (mB 280)) = true := by decide +kernel
set_option maxRecDepth 20000 in
theorem tb_ok_281 : tb_281.all (chk1 (mO 281) (mB 281)) = true := by decide +kernel
set_option maxRecDepth 20000 in
theorem tb_ok_282 : tb_282.all (chk1 (mO 282) (mB 282)) = true := by decide +kernel
set_option maxRecDepth 20000 in
theorem tb_ok_283 : tb_283.all (chk1 (mO 283) (mB 283)) = true := by decide +kernel
set_option maxRecDepth 20000 in
theorem tb_ok_284 : tb_284.all (chk1 (mO 284) (mB 284)) = true := by decide +kernel
set_option maxRecDepth 20000 in
theorem tb_ok_285 : tb_285.all (chk1 (mO 285) (mB 285)) = true := by decide +kernel
set_option maxRecDepth 20000 in
theorem tb_ok_286 : tb_286.all (chk1 (mO 286) (mB 286)) = true := by decide +kernel
