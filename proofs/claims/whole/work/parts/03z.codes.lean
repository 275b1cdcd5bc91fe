/-- handlers of the methods that have some -/
def hhTab : List (List (Nat × Nat × Nat × Nat)) := [[(0, 9, 12, 13)], [(0, 9, 12, 13)], [(0, 9, 12, 13)], [(0, 9, 12, 13)], [(0, 9, 12, 13)], [(0, 10, 13, 31), (0, 10, 17, 13)], [(0, 10, 13, 31), (0, 10, 17, 13)], [(0, 24, 27, 13)], [(0, 16, 19, 31)], [(0, 10, 13, 13)], [(0, 9, 12, 31)], [(0, 10, 13, 31), (0, 10, 17, 13)], [(0, 9, 12, 13)], [(0, 9, 12, 31)], [(0, 9, 12, 31)], [(0, 9, 12, 13)], [(0, 9, 12, 13)], [(0, 9, 12, 13)], [(0, 12, 15, 13)], [(0, 13, 16, 13)], [(0, 12, 15, 31), (0, 12, 19, 13)], [(0, 9, 12, 13)], [(0, 9, 12, 13)], [(0, 9, 12, 31)], [(0, 9, 12, 13)], [(0, 9, 12, 13)], [(0, 9, 12, 13)], [(0, 14, 17, 13)], [(0, 18, 21, 13)]]
def hh (y : Nat) : List (Nat × Nat × Nat × Nat) := hhTab.getD (y - 290) []
def isH (y : Nat) : Bool := decide (290 ≤ y) && decide (y ≤ 318)
def cdW (y : Nat) : Cond := if isH y then Cond.codeWith (mY y) (mB y) (mL y) (mR y) (hh y) else Cond.code (mY y) (mB y) (mL y) (mR y)
set_option maxRecDepth 100000 in
theorem cd_0 : lw_tbl[240]? = some (cdW 0) := rfl
set_option maxRecDepth 100000 in
theorem cd_1 : lw_tbl[753]? = some (cdW 1) := rfl
set_option maxRecDepth 100000 in
theorem cd_2 : lw_tbl[989]? = some (cdW 2) := rfl
set_option maxRecDepth 100000 in
theorem cd_3 : lw_tbl[983]? = some (cdW 3) := rfl
set_option maxRecDepth 100000 in
theorem cd_4 : lw_tbl[971]? = some (cdW 4) := rfl
set_option maxRecDepth 100000 in
theorem cd_5 : lw_tbl[978]? = some (cdW 5) := rfl
set_option maxRecDepth 100000 in
theorem cd_6 : lw_tbl[219]? = some (cdW 6) := rfl
set_option maxRecDepth 100000 in
theorem cd_7 : lw_tbl[749]? = some (cdW 7) := rfl
set_option maxRecDepth 100000 in
theorem cd_8 : lw_tbl[815]? = some (cdW 8) := rfl
set_option maxRecDepth 100000 in
theorem cd_9 : lw_tbl[776]? = some (cdW 9) := rfl
set_option maxRecDepth 100000 in
theorem cd_10 : lw_tbl[780]? = some (cdW 10) := rfl
set_option maxRecDepth 100000 in
theorem cd_11 : lw_tbl[784]? = some (cdW 11) := rfl
set_option maxRecDepth 100000 in
theorem cd_12 : lw_tbl[788]? = some (cdW 12) := rfl
set_option maxRecDepth 100000 in
theorem cd_13 : lw_tbl[810]? = some (cdW 13) := rfl
set_option maxRecDepth 100000 in
theorem cd_14 : lw_tbl[798]? = some (cdW 14) := rfl
set_option maxRecDepth 100000 in
theorem cd_15 : lw_tbl[912]? = some (cdW 15) := rfl
set_option maxRecDepth 100000 in
theorem cd_16 : lw_tbl[915]? = some (cdW 16) := rfl
set_option maxRecDepth 100000 in
theorem cd_17 : lw_tbl[291]? = some (cdW 17) := rfl
set_option maxRecDepth 100000 in
theorem cd_18 : lw_tbl[761]? = some (cdW 18) := rfl
set_option maxRecDepth 100000 in
theorem cd_19 : lw_tbl[1113]? = some (cdW 19) := rfl
set_option maxRecDepth 100000 in
theorem cd_20 : lw_tbl[955]? = some (cdW 20) := rfl
set_option maxRecDepth 100000 in
theorem cd_21 : lw_tbl[947]? = some (cdW 21) := rfl
set_option maxRecDepth 100000 in
theorem cd_22 : lw_tbl[1003]? = some (cdW 22) := rfl
set_option maxRecDepth 100000 in
theorem cd_23 : lw_tbl[504]? = some (cdW 23) := rfl
set_option maxRecDepth 100000 in
theorem cd_24 : lw_tbl[908]? = some (cdW 24) := rfl
set_option maxRecDepth 100000 in
theorem cd_25 : lw_tbl[939]? = some (cdW 25) := rfl
set_option maxRecDepth 100000 in
theorem cd_26 : lw_tbl[904]? = some (cdW 26) := rfl
set_option maxRecDepth 100000 in
theorem cd_27 : lw_tbl[1065]? = some (cdW 27) := rfl
set_option maxRecDepth 100000 in
theorem cd_28 : lw_tbl[1081]? = some (cdW 28) := rfl
set_option maxRecDepth 100000 in
theorem cd_29 : lw_tbl[1085]? = some (cdW 29) := rfl
set_option maxRecDepth 100000 in
theorem cd_30 : lw_tbl[512]? = some (cdW 30) := rfl
set_option maxRecDepth 100000 in
theorem cd_31 : lw_tbl[515]? = some (cdW 31) := rfl
set_option maxRecDepth 100000 in
theorem cd_32 : lw_tbl[889]? = some (cdW 32) := rfl
set_option maxRecDepth 100000 in
theorem cd_33 : lw_tbl[885]? = some (cdW 33) := rfl
set_option maxRecDepth 100000 in
theorem cd_34 : lw_tbl[881]? = some (cdW 34) := rfl
set_option maxRecDepth 100000 in
theorem cd_35 : lw_tbl[927]? = some (cdW 35) := rfl
set_option maxRecDepth 100000 in
theorem cd_36 : lw_tbl[923]? = some (cdW 36) := rfl
set_option maxRecDepth 100000 in
theorem cd_37 : lw_tbl[931]? = some (cdW 37) := rfl
set_option maxRecDepth 100000 in
theorem cd_38 : lw_tbl[935]? = some (cdW 38) := rfl
set_option maxRecDepth 100000 in
theorem cd_39 : lw_tbl[943]? = some (cdW 39) := rfl
set_option maxRecDepth 100000 in
theorem cd_40 : lw_tbl[951]? = some (cdW 40) := rfl
set_option maxRecDepth 100000 in
theorem cd_41 : lw_tbl[959]? = some (cdW 41) := rfl
set_option maxRecDepth 100000 in
theorem cd_42 : lw_tbl[1129]? = some (cdW 42) := rfl
set_option maxRecDepth 100000 in
theorem cd_43 : lw_tbl[1007]? = some (cdW 43) := rfl
set_option maxRecDepth 100000 in
theorem cd_44 : lw_tbl[1118]? = some (cdW 44) := rfl
set_option maxRecDepth 100000 in
theorem cd_45 : lw_tbl[1011]? = some (cdW 45) := rfl
set_option maxRecDepth 100000 in
theorem cd_46 : lw_tbl[1015]? = some (cdW 46) := rfl
set_option maxRecDepth 100000 in
theorem cd_47 : lw_tbl[1019]? = some (cdW 47) := rfl
set_option maxRecDepth 100000 in
theorem cd_48 : lw_tbl[1023]? = some (cdW 48) := rfl
set_option maxRecDepth 100000 in
theorem cd_49 : lw_tbl[500]? = some (cdW 49) := rfl
set_option maxRecDepth 100000 in
theorem cd_50 : lw_tbl[1057]? = some (cdW 50) := rfl
set_option maxRecDepth 100000 in
theorem cd_51 : lw_tbl[1061]? = some (cdW 51) := rfl
set_option maxRecDepth 100000 in
theorem cd_52 : lw_tbl[893]? = some (cdW 52) := rfl
set_option maxRecDepth 100000 in
theorem cd_53 : lw_tbl[1207]? = some (cdW 53) := rfl
set_option maxRecDepth 100000 in
theorem cd_54 : lw_tbl[1203]? = some (cdW 54) := rfl
set_option maxRecDepth 100000 in
theorem cd_55 : lw_tbl[1218]? = some (cdW 55) := rfl
set_option maxRecDepth 100000 in
theorem cd_56 : lw_tbl[311]? = some (cdW 56) := rfl
set_option maxRecDepth 100000 in
theorem cd_57 : lw_tbl[757]? = some (cdW 57) := rfl
set_option maxRecDepth 100000 in
theorem cd_58 : lw_tbl[826]? = some (cdW 58) := rfl
set_option maxRecDepth 100000 in
theorem cd_59 : lw_tbl[857]? = some (cdW 59) := rfl
set_option maxRecDepth 100000 in
theorem cd_60 : lw_tbl[491]? = some (cdW 60) := rfl
set_option maxRecDepth 100000 in
theorem cd_61 : lw_tbl[523]? = some (cdW 61) := rfl
set_option maxRecDepth 100000 in
theorem cd_62 : lw_tbl[531]? = some (cdW 62) := rfl
set_option maxRecDepth 100000 in
theorem cd_63 : lw_tbl[403]? = some (cdW 63) := rfl
set_option maxRecDepth 100000 in
theorem cd_64 : lw_tbl[1361]? = some (cdW 64) := rfl
set_option maxRecDepth 100000 in
theorem cd_65 : lw_tbl[1366]? = some (cdW 65) := rfl
set_option maxRecDepth 100000 in
theorem cd_66 : lw_tbl[1370]? = some (cdW 66) := rfl
set_option maxRecDepth 100000 in
theorem cd_67 : lw_tbl[342]? = some (cdW 67) := rfl
set_option maxRecDepth 100000 in
theorem cd_68 : lw_tbl[1144]? = some (cdW 68) := rfl
set_option maxRecDepth 100000 in
theorem cd_69 : lw_tbl[1157]? = some (cdW 69) := rfl
set_option maxRecDepth 100000 in
theorem cd_70 : lw_tbl[1163]? = some (cdW 70) := rfl
set_option maxRecDepth 100000 in
theorem cd_71 : lw_tbl[1172]? = some (cdW 71) := rfl
set_option maxRecDepth 100000 in
theorem cd_72 : lw_tbl[1192]? = some (cdW 72) := rfl
set_option maxRecDepth 100000 in
theorem cd_73 : lw_tbl[1140]? = some (cdW 73) := rfl
set_option maxRecDepth 100000 in
theorem cd_74 : lw_tbl[1183]? = some (cdW 74) := rfl
set_option maxRecDepth 100000 in
theorem cd_75 : lw_tbl[1188]? = some (cdW 75) := rfl
set_option maxRecDepth 100000 in
theorem cd_76 : lw_tbl[1267]? = some (cdW 76) := rfl
set_option maxRecDepth 100000 in
theorem cd_77 : lw_tbl[1229]? = some (cdW 77) := rfl
set_option maxRecDepth 100000 in
theorem cd_78 : lw_tbl[1234]? = some (cdW 78) := rfl
set_option maxRecDepth 100000 in
theorem cd_79 : lw_tbl[1245]? = some (cdW 79) := rfl
set_option maxRecDepth 100000 in
theorem cd_80 : lw_tbl[1250]? = some (cdW 80) := rfl
set_option maxRecDepth 100000 in
theorem cd_81 : lw_tbl[1254]? = some (cdW 81) := rfl
set_option maxRecDepth 100000 in
theorem cd_82 : lw_tbl[258]? = some (cdW 82) := rfl
set_option maxRecDepth 100000 in
theorem cd_83 : lw_tbl[830]? = some (cdW 83) := rfl
set_option maxRecDepth 100000 in
theorem cd_84 : lw_tbl[834]? = some (cdW 84) := rfl
set_option maxRecDepth 100000 in
theorem cd_85 : lw_tbl[844]? = some (cdW 85) := rfl
set_option maxRecDepth 100000 in
theorem cd_86 : lw_tbl[851]? = some (cdW 86) := rfl
set_option maxRecDepth 100000 in
theorem cd_87 : lw_tbl[862]? = some (cdW 87) := rfl
set_option maxRecDepth 100000 in
theorem cd_88 : lw_tbl[866]? = some (cdW 88) := rfl
set_option maxRecDepth 100000 in
theorem cd_89 : lw_tbl[870]? = some (cdW 89) := rfl
set_option maxRecDepth 100000 in
theorem cd_90 : lw_tbl[877]? = some (cdW 90) := rfl
set_option maxRecDepth 100000 in
theorem cd_91 : lw_tbl[348]? = some (cdW 91) := rfl
set_option maxRecDepth 100000 in
theorem cd_92 : lw_tbl[1149]? = some (cdW 92) := rfl
set_option maxRecDepth 100000 in
theorem cd_93 : lw_tbl[1168]? = some (cdW 93) := rfl
set_option maxRecDepth 100000 in
theorem cd_94 : lw_tbl[128]? = some (cdW 94) := rfl
set_option maxRecDepth 100000 in
theorem cd_95 : lw_tbl[475]? = some (cdW 95) := rfl
set_option maxRecDepth 100000 in
theorem cd_96 : lw_tbl[479]? = some (cdW 96) := rfl
set_option maxRecDepth 100000 in
theorem cd_97 : lw_tbl[628]? = some (cdW 97) := rfl
set_option maxRecDepth 100000 in
theorem cd_98 : lw_tbl[637]? = some (cdW 98) := rfl
set_option maxRecDepth 100000 in
theorem cd_99 : lw_tbl[710]? = some (cdW 99) := rfl
set_option maxRecDepth 100000 in
theorem cd_100 : lw_tbl[641]? = some (cdW 100) := rfl
set_option maxRecDepth 100000 in
theorem cd_101 : lw_tbl[840]? = some (cdW 101) := rfl
set_option maxRecDepth 100000 in
theorem cd_102 : lw_tbl[793]? = some (cdW 102) := rfl
set_option maxRecDepth 100000 in
theorem cd_103 : lw_tbl[802]? = some (cdW 103) := rfl
set_option maxRecDepth 100000 in
theorem cd_104 : lw_tbl[739]? = some (cdW 104) := rfl
set_option maxRecDepth 100000 in
theorem cd_105 : lw_tbl[723]? = some (cdW 105) := rfl
set_option maxRecDepth 100000 in
theorem cd_106 : lw_tbl[650]? = some (cdW 106) := rfl
set_option maxRecDepth 100000 in
theorem cd_107 : lw_tbl[658]? = some (cdW 107) := rfl
set_option maxRecDepth 100000 in
theorem cd_108 : lw_tbl[645]? = some (cdW 108) := rfl
set_option maxRecDepth 100000 in
theorem cd_109 : lw_tbl[726]? = some (cdW 109) := rfl
set_option maxRecDepth 100000 in
theorem cd_110 : lw_tbl[654]? = some (cdW 110) := rfl
set_option maxRecDepth 100000 in
theorem cd_111 : lw_tbl[160]? = some (cdW 111) := rfl
set_option maxRecDepth 100000 in
theorem cd_112 : lw_tbl[744]? = some (cdW 112) := rfl
set_option maxRecDepth 100000 in
theorem cd_113 : lw_tbl[633]? = some (cdW 113) := rfl
set_option maxRecDepth 100000 in
theorem cd_114 : lw_tbl[715]? = some (cdW 114) := rfl
set_option maxRecDepth 100000 in
theorem cd_115 : lw_tbl[719]? = some (cdW 115) := rfl
set_option maxRecDepth 100000 in
theorem cd_116 : lw_tbl[731]? = some (cdW 116) := rfl
set_option maxRecDepth 100000 in
theorem cd_117 : lw_tbl[735]? = some (cdW 117) := rfl
set_option maxRecDepth 100000 in
theorem cd_118 : lw_tbl[1305]? = some (cdW 118) := rfl
set_option maxRecDepth 100000 in
theorem cd_119 : lw_tbl[120]? = some (cdW 119) := rfl
set_option maxRecDepth 100000 in
theorem cd_120 : lw_tbl[471]? = some (cdW 120) := rfl
set_option maxRecDepth 100000 in
theorem cd_121 : lw_tbl[547]? = some (cdW 121) := rfl
set_option maxRecDepth 100000 in
theorem cd_122 : lw_tbl[772]? = some (cdW 122) := rfl
set_option maxRecDepth 100000 in
theorem cd_123 : lw_tbl[822]? = some (cdW 123) := rfl
set_option maxRecDepth 100000 in
theorem cd_124 : lw_tbl[967]? = some (cdW 124) := rfl
set_option maxRecDepth 100000 in
theorem cd_125 : lw_tbl[483]? = some (cdW 125) := rfl
set_option maxRecDepth 100000 in
theorem cd_126 : lw_tbl[487]? = some (cdW 126) := rfl
set_option maxRecDepth 100000 in
theorem cd_127 : lw_tbl[997]? = some (cdW 127) := rfl
set_option maxRecDepth 100000 in
theorem cd_128 : lw_tbl[1031]? = some (cdW 128) := rfl
set_option maxRecDepth 100000 in
theorem cd_129 : lw_tbl[1072]? = some (cdW 129) := rfl
set_option maxRecDepth 100000 in
theorem cd_130 : lw_tbl[1093]? = some (cdW 130) := rfl
set_option maxRecDepth 100000 in
theorem cd_131 : lw_tbl[1101]? = some (cdW 131) := rfl
set_option maxRecDepth 100000 in
theorem cd_132 : lw_tbl[1109]? = some (cdW 132) := rfl
set_option maxRecDepth 100000 in
theorem cd_133 : lw_tbl[1125]? = some (cdW 133) := rfl
set_option maxRecDepth 100000 in
theorem cd_134 : lw_tbl[1136]? = some (cdW 134) := rfl
set_option maxRecDepth 100000 in
theorem cd_135 : lw_tbl[1179]? = some (cdW 135) := rfl
set_option maxRecDepth 100000 in
theorem cd_136 : lw_tbl[1199]? = some (cdW 136) := rfl
set_option maxRecDepth 100000 in
theorem cd_137 : lw_tbl[1214]? = some (cdW 137) := rfl
set_option maxRecDepth 100000 in
theorem cd_138 : lw_tbl[1225]? = some (cdW 138) := rfl
set_option maxRecDepth 100000 in
theorem cd_139 : lw_tbl[1241]? = some (cdW 139) := rfl
set_option maxRecDepth 100000 in
theorem cd_140 : lw_tbl[1263]? = some (cdW 140) := rfl
set_option maxRecDepth 100000 in
theorem cd_141 : lw_tbl[1274]? = some (cdW 141) := rfl
set_option maxRecDepth 100000 in
theorem cd_142 : lw_tbl[1287]? = some (cdW 142) := rfl
set_option maxRecDepth 100000 in
theorem cd_143 : lw_tbl[1301]? = some (cdW 143) := rfl
set_option maxRecDepth 100000 in
theorem cd_144 : lw_tbl[1313]? = some (cdW 144) := rfl
set_option maxRecDepth 100000 in
theorem cd_145 : lw_tbl[1321]? = some (cdW 145) := rfl
set_option maxRecDepth 100000 in
theorem cd_146 : lw_tbl[1328]? = some (cdW 146) := rfl
set_option maxRecDepth 100000 in
theorem cd_147 : lw_tbl[1335]? = some (cdW 147) := rfl
set_option maxRecDepth 100000 in
theorem cd_148 : lw_tbl[496]? = some (cdW 148) := rfl
set_option maxRecDepth 100000 in
theorem cd_149 : lw_tbl[1343]? = some (cdW 149) := rfl
set_option maxRecDepth 100000 in
theorem cd_150 : lw_tbl[1350]? = some (cdW 150) := rfl
set_option maxRecDepth 100000 in
theorem cd_151 : lw_tbl[508]? = some (cdW 151) := rfl
set_option maxRecDepth 100000 in
theorem cd_152 : lw_tbl[1357]? = some (cdW 152) := rfl
set_option maxRecDepth 100000 in
theorem cd_153 : lw_tbl[1383]? = some (cdW 153) := rfl
set_option maxRecDepth 100000 in
theorem cd_154 : lw_tbl[519]? = some (cdW 154) := rfl
set_option maxRecDepth 100000 in
theorem cd_155 : lw_tbl[527]? = some (cdW 155) := rfl
set_option maxRecDepth 100000 in
theorem cd_156 : lw_tbl[535]? = some (cdW 156) := rfl
set_option maxRecDepth 100000 in
theorem cd_157 : lw_tbl[539]? = some (cdW 157) := rfl
set_option maxRecDepth 100000 in
theorem cd_158 : lw_tbl[558]? = some (cdW 158) := rfl
set_option maxRecDepth 100000 in
theorem cd_159 : lw_tbl[551]? = some (cdW 159) := rfl
set_option maxRecDepth 100000 in
theorem cd_160 : lw_tbl[1035]? = some (cdW 160) := rfl
set_option maxRecDepth 100000 in
theorem cd_161 : lw_tbl[1076]? = some (cdW 161) := rfl
set_option maxRecDepth 100000 in
theorem cd_162 : lw_tbl[1280]? = some (cdW 162) := rfl
set_option maxRecDepth 100000 in
theorem cd_163 : lw_tbl[1277]? = some (cdW 163) := rfl
set_option maxRecDepth 100000 in
theorem cd_164 : lw_tbl[1290]? = some (cdW 164) := rfl
set_option maxRecDepth 100000 in
theorem cd_165 : lw_tbl[1293]? = some (cdW 165) := rfl
set_option maxRecDepth 100000 in
theorem cd_166 : lw_tbl[1390]? = some (cdW 166) := rfl
set_option maxRecDepth 100000 in
theorem cd_167 : lw_tbl[1397]? = some (cdW 167) := rfl
set_option maxRecDepth 100000 in
theorem cd_168 : lw_tbl[1539]? = some (cdW 168) := rfl
set_option maxRecDepth 100000 in
theorem cd_169 : lw_tbl[1554]? = some (cdW 169) := rfl
set_option maxRecDepth 100000 in
theorem cd_170 : lw_tbl[1550]? = some (cdW 170) := rfl
set_option maxRecDepth 100000 in
theorem cd_171 : lw_tbl[1731]? = some (cdW 171) := rfl
set_option maxRecDepth 100000 in
theorem cd_172 : lw_tbl[1734]? = some (cdW 172) := rfl
set_option maxRecDepth 100000 in
theorem cd_173 : lw_tbl[1658]? = some (cdW 173) := rfl
set_option maxRecDepth 100000 in
theorem cd_174 : lw_tbl[1543]? = some (cdW 174) := rfl
set_option maxRecDepth 100000 in
theorem cd_175 : lw_tbl[1566]? = some (cdW 175) := rfl
set_option maxRecDepth 100000 in
theorem cd_176 : lw_tbl[1562]? = some (cdW 176) := rfl
set_option maxRecDepth 100000 in
theorem cd_177 : lw_tbl[1592]? = some (cdW 177) := rfl
set_option maxRecDepth 100000 in
theorem cd_178 : lw_tbl[1606]? = some (cdW 178) := rfl
set_option maxRecDepth 100000 in
theorem cd_179 : lw_tbl[1585]? = some (cdW 179) := rfl
set_option maxRecDepth 100000 in
theorem cd_180 : lw_tbl[1603]? = some (cdW 180) := rfl
set_option maxRecDepth 100000 in
theorem cd_181 : lw_tbl[1582]? = some (cdW 181) := rfl
set_option maxRecDepth 100000 in
theorem cd_182 : lw_tbl[1588]? = some (cdW 182) := rfl
set_option maxRecDepth 100000 in
theorem cd_183 : lw_tbl[1578]? = some (cdW 183) := rfl
set_option maxRecDepth 100000 in
theorem cd_184 : lw_tbl[1599]? = some (cdW 184) := rfl
set_option maxRecDepth 100000 in
theorem cd_185 : lw_tbl[1647]? = some (cdW 185) := rfl
set_option maxRecDepth 100000 in
theorem cd_186 : lw_tbl[1611]? = some (cdW 186) := rfl
set_option maxRecDepth 100000 in
theorem cd_187 : lw_tbl[1651]? = some (cdW 187) := rfl
set_option maxRecDepth 100000 in
theorem cd_188 : lw_tbl[1558]? = some (cdW 188) := rfl
set_option maxRecDepth 100000 in
theorem cd_189 : lw_tbl[1615]? = some (cdW 189) := rfl
set_option maxRecDepth 100000 in
theorem cd_190 : lw_tbl[1678]? = some (cdW 190) := rfl
set_option maxRecDepth 100000 in
theorem cd_191 : lw_tbl[1574]? = some (cdW 191) := rfl
set_option maxRecDepth 100000 in
theorem cd_192 : lw_tbl[1595]? = some (cdW 192) := rfl
set_option maxRecDepth 100000 in
theorem cd_193 : lw_tbl[1570]? = some (cdW 193) := rfl
set_option maxRecDepth 100000 in
theorem cd_194 : lw_tbl[1547]? = some (cdW 194) := rfl
set_option maxRecDepth 100000 in
theorem cd_195 : lw_tbl[1404]? = some (cdW 195) := rfl
set_option maxRecDepth 100000 in
theorem cd_196 : lw_tbl[1681]? = some (cdW 196) := rfl
set_option maxRecDepth 100000 in
theorem cd_197 : lw_tbl[1401]? = some (cdW 197) := rfl
set_option maxRecDepth 100000 in
theorem cd_198 : lw_tbl[1639]? = some (cdW 198) := rfl
set_option maxRecDepth 100000 in
theorem cd_199 : lw_tbl[1635]? = some (cdW 199) := rfl
set_option maxRecDepth 100000 in
theorem cd_200 : lw_tbl[1623]? = some (cdW 200) := rfl
set_option maxRecDepth 100000 in
theorem cd_201 : lw_tbl[1627]? = some (cdW 201) := rfl
set_option maxRecDepth 100000 in
theorem cd_202 : lw_tbl[1643]? = some (cdW 202) := rfl
set_option maxRecDepth 100000 in
theorem cd_203 : lw_tbl[1631]? = some (cdW 203) := rfl
set_option maxRecDepth 100000 in
theorem cd_204 : lw_tbl[1619]? = some (cdW 204) := rfl
set_option maxRecDepth 100000 in
theorem cd_205 : lw_tbl[1728]? = some (cdW 205) := rfl
set_option maxRecDepth 100000 in
theorem cd_206 : lw_tbl[1725]? = some (cdW 206) := rfl
set_option maxRecDepth 100000 in
theorem cd_207 : lw_tbl[1674]? = some (cdW 207) := rfl
set_option maxRecDepth 100000 in
theorem cd_208 : lw_tbl[1670]? = some (cdW 208) := rfl
set_option maxRecDepth 100000 in
theorem cd_209 : lw_tbl[1655]? = some (cdW 209) := rfl
set_option maxRecDepth 100000 in
theorem cd_210 : lw_tbl[1662]? = some (cdW 210) := rfl
set_option maxRecDepth 100000 in
theorem cd_211 : lw_tbl[1721]? = some (cdW 211) := rfl
set_option maxRecDepth 100000 in
theorem cd_212 : lw_tbl[1699]? = some (cdW 212) := rfl
set_option maxRecDepth 100000 in
theorem cd_213 : lw_tbl[1710]? = some (cdW 213) := rfl
set_option maxRecDepth 100000 in
theorem cd_214 : lw_tbl[1714]? = some (cdW 214) := rfl
set_option maxRecDepth 100000 in
theorem cd_215 : lw_tbl[1762]? = some (cdW 215) := rfl
set_option maxRecDepth 100000 in
theorem cd_216 : lw_tbl[1717]? = some (cdW 216) := rfl
set_option maxRecDepth 100000 in
theorem cd_217 : lw_tbl[1706]? = some (cdW 217) := rfl
set_option maxRecDepth 100000 in
theorem cd_218 : lw_tbl[1702]? = some (cdW 218) := rfl
set_option maxRecDepth 100000 in
theorem cd_219 : lw_tbl[1696]? = some (cdW 219) := rfl
set_option maxRecDepth 100000 in
theorem cd_220 : lw_tbl[1737]? = some (cdW 220) := rfl
set_option maxRecDepth 100000 in
theorem cd_221 : lw_tbl[1693]? = some (cdW 221) := rfl
set_option maxRecDepth 100000 in
theorem cd_222 : lw_tbl[1740]? = some (cdW 222) := rfl
set_option maxRecDepth 100000 in
theorem cd_223 : lw_tbl[1746]? = some (cdW 223) := rfl
set_option maxRecDepth 100000 in
theorem cd_224 : lw_tbl[1743]? = some (cdW 224) := rfl
set_option maxRecDepth 100000 in
theorem cd_225 : lw_tbl[1750]? = some (cdW 225) := rfl
set_option maxRecDepth 100000 in
theorem cd_226 : lw_tbl[1689]? = some (cdW 226) := rfl
set_option maxRecDepth 100000 in
theorem cd_227 : lw_tbl[1685]? = some (cdW 227) := rfl
set_option maxRecDepth 100000 in
theorem cd_228 : lw_tbl[1666]? = some (cdW 228) := rfl
set_option maxRecDepth 100000 in
theorem cd_229 : lw_tbl[1754]? = some (cdW 229) := rfl
set_option maxRecDepth 100000 in
theorem cd_230 : lw_tbl[1770]? = some (cdW 230) := rfl
set_option maxRecDepth 100000 in
theorem cd_231 : lw_tbl[1766]? = some (cdW 231) := rfl
set_option maxRecDepth 100000 in
theorem cd_232 : lw_tbl[1774]? = some (cdW 232) := rfl
set_option maxRecDepth 100000 in
theorem cd_233 : lw_tbl[1778]? = some (cdW 233) := rfl
set_option maxRecDepth 100000 in
theorem cd_234 : lw_tbl[1758]? = some (cdW 234) := rfl
set_option maxRecDepth 100000 in
theorem cd_235 : lw_tbl[1786]? = some (cdW 235) := rfl
set_option maxRecDepth 100000 in
theorem cd_236 : lw_tbl[1798]? = some (cdW 236) := rfl
set_option maxRecDepth 100000 in
theorem cd_237 : lw_tbl[1790]? = some (cdW 237) := rfl
set_option maxRecDepth 100000 in
theorem cd_238 : lw_tbl[1782]? = some (cdW 238) := rfl
set_option maxRecDepth 100000 in
theorem cd_239 : lw_tbl[1794]? = some (cdW 239) := rfl
set_option maxRecDepth 100000 in
theorem cd_240 : lw_tbl[1802]? = some (cdW 240) := rfl
set_option maxRecDepth 100000 in
theorem cd_241 : lw_tbl[1806]? = some (cdW 241) := rfl
set_option maxRecDepth 100000 in
theorem cd_242 : lw_tbl[1810]? = some (cdW 242) := rfl
set_option maxRecDepth 100000 in
theorem cd_243 : lw_tbl[1814]? = some (cdW 243) := rfl
set_option maxRecDepth 100000 in
theorem cd_244 : lw_tbl[1822]? = some (cdW 244) := rfl
set_option maxRecDepth 100000 in
theorem cd_245 : lw_tbl[1834]? = some (cdW 245) := rfl
set_option maxRecDepth 100000 in
theorem cd_246 : lw_tbl[1830]? = some (cdW 246) := rfl
set_option maxRecDepth 100000 in
theorem cd_247 : lw_tbl[1826]? = some (cdW 247) := rfl
set_option maxRecDepth 100000 in
theorem cd_248 : lw_tbl[1818]? = some (cdW 248) := rfl
set_option maxRecDepth 100000 in
theorem cd_249 : lw_tbl[1838]? = some (cdW 249) := rfl
set_option maxRecDepth 100000 in
theorem cd_250 : lw_tbl[1846]? = some (cdW 250) := rfl
set_option maxRecDepth 100000 in
theorem cd_251 : lw_tbl[1842]? = some (cdW 251) := rfl
set_option maxRecDepth 100000 in
theorem cd_252 : lw_tbl[1850]? = some (cdW 252) := rfl
set_option maxRecDepth 100000 in
theorem cd_253 : lw_tbl[1854]? = some (cdW 253) := rfl
set_option maxRecDepth 100000 in
theorem cd_254 : lw_tbl[1858]? = some (cdW 254) := rfl
set_option maxRecDepth 100000 in
theorem cd_255 : lw_tbl[1862]? = some (cdW 255) := rfl
set_option maxRecDepth 100000 in
theorem cd_256 : lw_tbl[1866]? = some (cdW 256) := rfl
set_option maxRecDepth 100000 in
theorem cd_257 : lw_tbl[1874]? = some (cdW 257) := rfl
set_option maxRecDepth 100000 in
theorem cd_258 : lw_tbl[1870]? = some (cdW 258) := rfl
set_option maxRecDepth 100000 in
theorem cd_259 : lw_tbl[1882]? = some (cdW 259) := rfl
set_option maxRecDepth 100000 in
theorem cd_260 : lw_tbl[1886]? = some (cdW 260) := rfl
set_option maxRecDepth 100000 in
theorem cd_261 : lw_tbl[1878]? = some (cdW 261) := rfl
set_option maxRecDepth 100000 in
theorem cd_262 : lw_tbl[1890]? = some (cdW 262) := rfl
set_option maxRecDepth 100000 in
theorem cd_263 : lw_tbl[1900]? = some (cdW 263) := rfl
set_option maxRecDepth 100000 in
theorem cd_264 : lw_tbl[1897]? = some (cdW 264) := rfl
set_option maxRecDepth 100000 in
theorem cd_265 : lw_tbl[1894]? = some (cdW 265) := rfl
set_option maxRecDepth 100000 in
theorem cd_266 : lw_tbl[1904]? = some (cdW 266) := rfl
set_option maxRecDepth 100000 in
theorem cd_267 : lw_tbl[1912]? = some (cdW 267) := rfl
set_option maxRecDepth 100000 in
theorem cd_268 : lw_tbl[1908]? = some (cdW 268) := rfl
set_option maxRecDepth 100000 in
theorem cd_269 : lw_tbl[1916]? = some (cdW 269) := rfl
set_option maxRecDepth 100000 in
theorem cd_270 : lw_tbl[1920]? = some (cdW 270) := rfl
set_option maxRecDepth 100000 in
theorem cd_271 : lw_tbl[1924]? = some (cdW 271) := rfl
set_option maxRecDepth 100000 in
theorem cd_272 : lw_tbl[1928]? = some (cdW 272) := rfl
set_option maxRecDepth 100000 in
theorem cd_273 : lw_tbl[1943]? = some (cdW 273) := rfl
set_option maxRecDepth 100000 in
theorem cd_274 : lw_tbl[1939]? = some (cdW 274) := rfl
set_option maxRecDepth 100000 in
theorem cd_275 : lw_tbl[1948]? = some (cdW 275) := rfl
set_option maxRecDepth 100000 in
theorem cd_276 : lw_tbl[1935]? = some (cdW 276) := rfl
set_option maxRecDepth 100000 in
theorem cd_277 : lw_tbl[1932]? = some (cdW 277) := rfl
set_option maxRecDepth 100000 in
theorem cd_278 : lw_tbl[1952]? = some (cdW 278) := rfl
set_option maxRecDepth 100000 in
theorem cd_279 : lw_tbl[1964]? = some (cdW 279) := rfl
set_option maxRecDepth 100000 in
theorem cd_280 : lw_tbl[1960]? = some (cdW 280) := rfl
set_option maxRecDepth 100000 in
theorem cd_281 : lw_tbl[1956]? = some (cdW 281) := rfl
set_option maxRecDepth 100000 in
theorem cd_282 : lw_tbl[1968]? = some (cdW 282) := rfl
set_option maxRecDepth 100000 in
theorem cd_283 : lw_tbl[1972]? = some (cdW 283) := rfl
set_option maxRecDepth 100000 in
theorem cd_284 : lw_tbl[1976]? = some (cdW 284) := rfl
set_option maxRecDepth 100000 in
theorem cd_285 : lw_tbl[1152]? = some (cdW 285) := rfl
set_option maxRecDepth 100000 in
theorem cd_286 : lw_tbl[897]? = some (cdW 286) := rfl
set_option maxRecDepth 100000 in
theorem cd_287 : lw_tbl[873]? = some (cdW 287) := rfl
set_option maxRecDepth 100000 in
theorem cd_288 : lw_tbl[554]? = some (cdW 288) := rfl
set_option maxRecDepth 100000 in
theorem cd_289 : lw_tbl[764]? = some (cdW 289) := rfl
set_option maxRecDepth 100000 in
theorem cd_290 : lw_tbl[542]? = some (cdW 290) := rfl
set_option maxRecDepth 100000 in
theorem cd_291 : lw_tbl[768]? = some (cdW 291) := rfl
set_option maxRecDepth 100000 in
theorem cd_292 : lw_tbl[818]? = some (cdW 292) := rfl
set_option maxRecDepth 100000 in
theorem cd_293 : lw_tbl[963]? = some (cdW 293) := rfl
set_option maxRecDepth 100000 in
theorem cd_294 : lw_tbl[993]? = some (cdW 294) := rfl
set_option maxRecDepth 100000 in
theorem cd_295 : lw_tbl[1026]? = some (cdW 295) := rfl
set_option maxRecDepth 100000 in
theorem cd_296 : lw_tbl[1068]? = some (cdW 296) := rfl
set_option maxRecDepth 100000 in
theorem cd_297 : lw_tbl[1089]? = some (cdW 297) := rfl
set_option maxRecDepth 100000 in
theorem cd_298 : lw_tbl[1097]? = some (cdW 298) := rfl
set_option maxRecDepth 100000 in
theorem cd_299 : lw_tbl[1105]? = some (cdW 299) := rfl
set_option maxRecDepth 100000 in
theorem cd_300 : lw_tbl[1121]? = some (cdW 300) := rfl
set_option maxRecDepth 100000 in
theorem cd_301 : lw_tbl[1132]? = some (cdW 301) := rfl
set_option maxRecDepth 100000 in
theorem cd_302 : lw_tbl[1175]? = some (cdW 302) := rfl
set_option maxRecDepth 100000 in
theorem cd_303 : lw_tbl[1195]? = some (cdW 303) := rfl
set_option maxRecDepth 100000 in
theorem cd_304 : lw_tbl[1210]? = some (cdW 304) := rfl
set_option maxRecDepth 100000 in
theorem cd_305 : lw_tbl[1221]? = some (cdW 305) := rfl
set_option maxRecDepth 100000 in
theorem cd_306 : lw_tbl[1237]? = some (cdW 306) := rfl
set_option maxRecDepth 100000 in
theorem cd_307 : lw_tbl[1259]? = some (cdW 307) := rfl
set_option maxRecDepth 100000 in
theorem cd_308 : lw_tbl[1270]? = some (cdW 308) := rfl
set_option maxRecDepth 100000 in
theorem cd_309 : lw_tbl[1283]? = some (cdW 309) := rfl
set_option maxRecDepth 100000 in
theorem cd_310 : lw_tbl[1297]? = some (cdW 310) := rfl
set_option maxRecDepth 100000 in
theorem cd_311 : lw_tbl[1309]? = some (cdW 311) := rfl
set_option maxRecDepth 100000 in
theorem cd_312 : lw_tbl[1317]? = some (cdW 312) := rfl
set_option maxRecDepth 100000 in
theorem cd_313 : lw_tbl[1324]? = some (cdW 313) := rfl
set_option maxRecDepth 100000 in
theorem cd_314 : lw_tbl[1331]? = some (cdW 314) := rfl
set_option maxRecDepth 100000 in
theorem cd_315 : lw_tbl[1339]? = some (cdW 315) := rfl
set_option maxRecDepth 100000 in
theorem cd_316 : lw_tbl[1346]? = some (cdW 316) := rfl
set_option maxRecDepth 100000 in
theorem cd_317 : lw_tbl[1353]? = some (cdW 317) := rfl
set_option maxRecDepth 100000 in
theorem cd_318 : lw_tbl[1379]? = some (cdW 318) := rfl
theorem cd_good (y : Nat) : goodWord (cdW y) = true := by
  unfold cdW
  split <;> rfl
theorem cd_mem {y p : Nat} (h : lw_tbl[p]? = some (cdW y)) : cdW y ∈ wsG := List.mem_filter.mpr ⟨List.mem_of_getElem? h, cd_good y⟩
theorem cdr_0 : ∀ k, k < 40 → cdW (0 + k) ∈ wsG
  | 0, _ => cd_mem cd_0
  | 1, _ => cd_mem cd_1
  | 2, _ => cd_mem cd_2
  | 3, _ => cd_mem cd_3
  | 4, _ => cd_mem cd_4
  | 5, _ => cd_mem cd_5
  | 6, _ => cd_mem cd_6
  | 7, _ => cd_mem cd_7
  | 8, _ => cd_mem cd_8
  | 9, _ => cd_mem cd_9
  | 10, _ => cd_mem cd_10
  | 11, _ => cd_mem cd_11
  | 12, _ => cd_mem cd_12
  | 13, _ => cd_mem cd_13
  | 14, _ => cd_mem cd_14
  | 15, _ => cd_mem cd_15
  | 16, _ => cd_mem cd_16
  | 17, _ => cd_mem cd_17
  | 18, _ => cd_mem cd_18
  | 19, _ => cd_mem cd_19
  | 20, _ => cd_mem cd_20
  | 21, _ => cd_mem cd_21
  | 22, _ => cd_mem cd_22
  | 23, _ => cd_mem cd_23
  | 24, _ => cd_mem cd_24
  | 25, _ => cd_mem cd_25
  | 26, _ => cd_mem cd_26
  | 27, _ => cd_mem cd_27
  | 28, _ => cd_mem cd_28
  | 29, _ => cd_mem cd_29
  | 30, _ => cd_mem cd_30
  | 31, _ => cd_mem cd_31
  | 32, _ => cd_mem cd_32
  | 33, _ => cd_mem cd_33
  | 34, _ => cd_mem cd_34
  | 35, _ => cd_mem cd_35
  | 36, _ => cd_mem cd_36
  | 37, _ => cd_mem cd_37
  | 38, _ => cd_mem cd_38
  | 39, _ => cd_mem cd_39
  | n + 40, h => absurd h (by omega)
theorem cdr_1 : ∀ k, k < 40 → cdW (40 + k) ∈ wsG
  | 0, _ => cd_mem cd_40
  | 1, _ => cd_mem cd_41
  | 2, _ => cd_mem cd_42
  | 3, _ => cd_mem cd_43
  | 4, _ => cd_mem cd_44
  | 5, _ => cd_mem cd_45
  | 6, _ => cd_mem cd_46
  | 7, _ => cd_mem cd_47
  | 8, _ => cd_mem cd_48
  | 9, _ => cd_mem cd_49
  | 10, _ => cd_mem cd_50
  | 11, _ => cd_mem cd_51
  | 12, _ => cd_mem cd_52
  | 13, _ => cd_mem cd_53
  | 14, _ => cd_mem cd_54
  | 15, _ => cd_mem cd_55
  | 16, _ => cd_mem cd_56
  | 17, _ => cd_mem cd_57
  | 18, _ => cd_mem cd_58
  | 19, _ => cd_mem cd_59
  | 20, _ => cd_mem cd_60
  | 21, _ => cd_mem cd_61
  | 22, _ => cd_mem cd_62
  | 23, _ => cd_mem cd_63
  | 24, _ => cd_mem cd_64
  | 25, _ => cd_mem cd_65
  | 26, _ => cd_mem cd_66
  | 27, _ => cd_mem cd_67
  | 28, _ => cd_mem cd_68
  | 29, _ => cd_mem cd_69
  | 30, _ => cd_mem cd_70
  | 31, _ => cd_mem cd_71
  | 32, _ => cd_mem cd_72
  | 33, _ => cd_mem cd_73
  | 34, _ => cd_mem cd_74
  | 35, _ => cd_mem cd_75
  | 36, _ => cd_mem cd_76
  | 37, _ => cd_mem cd_77
  | 38, _ => cd_mem cd_78
  | 39, _ => cd_mem cd_79
  | n + 40, h => absurd h (by omega)
theorem cdr_2 : ∀ k, k < 40 → cdW (80 + k) ∈ wsG
  | 0, _ => cd_mem cd_80
  | 1, _ => cd_mem cd_81
  | 2, _ => cd_mem cd_82
  | 3, _ => cd_mem cd_83
  | 4, _ => cd_mem cd_84
  | 5, _ => cd_mem cd_85
  | 6, _ => cd_mem cd_86
  | 7, _ => cd_mem cd_87
  | 8, _ => cd_mem cd_88
  | 9, _ => cd_mem cd_89
  | 10, _ => cd_mem cd_90
  | 11, _ => cd_mem cd_91
  | 12, _ => cd_mem cd_92
  | 13, _ => cd_mem cd_93
  | 14, _ => cd_mem cd_94
  | 15, _ => cd_mem cd_95
  | 16, _ => cd_mem cd_96
  | 17, _ => cd_mem cd_97
  | 18, _ => cd_mem cd_98
  | 19, _ => cd_mem cd_99
  | 20, _ => cd_mem cd_100
  | 21, _ => cd_mem cd_101
  | 22, _ => cd_mem cd_102
  | 23, _ => cd_mem cd_103
  | 24, _ => cd_mem cd_104
  | 25, _ => cd_mem cd_105
  | 26, _ => cd_mem cd_106
  | 27, _ => cd_mem cd_107
  | 28, _ => cd_mem cd_108
  | 29, _ => cd_mem cd_109
  | 30, _ => cd_mem cd_110
  | 31, _ => cd_mem cd_111
  | 32, _ => cd_mem cd_112
  | 33, _ => cd_mem cd_113
  | 34, _ => cd_mem cd_114
  | 35, _ => cd_mem cd_115
  | 36, _ => cd_mem cd_116
  | 37, _ => cd_mem cd_117
  | 38, _ => cd_mem cd_118
  | 39, _ => cd_mem cd_119
  | n + 40, h => absurd h (by omega)
theorem cdr_3 : ∀ k, k < 40 → cdW (120 + k) ∈ wsG
  | 0, _ => cd_mem cd_120
  | 1, _ => cd_mem cd_121
  | 2, _ => cd_mem cd_122
  | 3, _ => cd_mem cd_123
  | 4, _ => cd_mem cd_124
  | 5, _ => cd_mem cd_125
  | 6, _ => cd_mem cd_126
  | 7, _ => cd_mem cd_127
  | 8, _ => cd_mem cd_128
  | 9, _ => cd_mem cd_129
  | 10, _ => cd_mem cd_130
  | 11, _ => cd_mem cd_131
  | 12, _ => cd_mem cd_132
  | 13, _ => cd_mem cd_133
  | 14, _ => cd_mem cd_134
  | 15, _ => cd_mem cd_135
  | 16, _ => cd_mem cd_136
  | 17, _ => cd_mem cd_137
  | 18, _ => cd_mem cd_138
  | 19, _ => cd_mem cd_139
  | 20, _ => cd_mem cd_140
  | 21, _ => cd_mem cd_141
  | 22, _ => cd_mem cd_142
  | 23, _ => cd_mem cd_143
  | 24, _ => cd_mem cd_144
  | 25, _ => cd_mem cd_145
  | 26, _ => cd_mem cd_146
  | 27, _ => cd_mem cd_147
  | 28, _ => cd_mem cd_148
  | 29, _ => cd_mem cd_149
  | 30, _ => cd_mem cd_150
  | 31, _ => cd_mem cd_151
  | 32, _ => cd_mem cd_152
  | 33, _ => cd_mem cd_153
  | 34, _ => cd_mem cd_154
  | 35, _ => cd_mem cd_155
  | 36, _ => cd_mem cd_156
  | 37, _ => cd_mem cd_157
  | 38, _ => cd_mem cd_158
  | 39, _ => cd_mem cd_159
  | n + 40, h => absurd h (by omega)
theorem cdr_4 : ∀ k, k < 40 → cdW (160 + k) ∈ wsG
  | 0, _ => cd_mem cd_160
  | 1, _ => cd_mem cd_161
  | 2, _ => cd_mem cd_162
  | 3, _ => cd_mem cd_163
  | 4, _ => cd_mem cd_164
  | 5, _ => cd_mem cd_165
  | 6, _ => cd_mem cd_166
  | 7, _ => cd_mem cd_167
  | 8, _ => cd_mem cd_168
  | 9, _ => cd_mem cd_169
  | 10, _ => cd_mem cd_170
  | 11, _ => cd_mem cd_171
  | 12, _ => cd_mem cd_172
  | 13, _ => cd_mem cd_173
  | 14, _ => cd_mem cd_174
  | 15, _ => cd_mem cd_175
  | 16, _ => cd_mem cd_176
  | 17, _ => cd_mem cd_177
  | 18, _ => cd_mem cd_178
  | 19, _ => cd_mem cd_179
  | 20, _ => cd_mem cd_180
  | 21, _ => cd_mem cd_181
  | 22, _ => cd_mem cd_182
  | 23, _ => cd_mem cd_183
  | 24, _ => cd_mem cd_184
  | 25, _ => cd_mem cd_185
  | 26, _ => cd_mem cd_186
  | 27, _ => cd_mem cd_187
  | 28, _ => cd_mem cd_188
  | 29, _ => cd_mem cd_189
  | 30, _ => cd_mem cd_190
  | 31, _ => cd_mem cd_191
  | 32, _ => cd_mem cd_192
  | 33, _ => cd_mem cd_193
  | 34, _ => cd_mem cd_194
  | 35, _ => cd_mem cd_195
  | 36, _ => cd_mem cd_196
  | 37, _ => cd_mem cd_197
  | 38, _ => cd_mem cd_198
  | 39, _ => cd_mem cd_199
  | n + 40, h => absurd h (by omega)
theorem cdr_5 : ∀ k, k < 40 → cdW (200 + k) ∈ wsG
  | 0, _ => cd_mem cd_200
  | 1, _ => cd_mem cd_201
  | 2, _ => cd_mem cd_202
  | 3, _ => cd_mem cd_203
  | 4, _ => cd_mem cd_204
  | 5, _ => cd_mem cd_205
  | 6, _ => cd_mem cd_206
  | 7, _ => cd_mem cd_207
  | 8, _ => cd_mem cd_208
  | 9, _ => cd_mem cd_209
  | 10, _ => cd_mem cd_210
  | 11, _ => cd_mem cd_211
  | 12, _ => cd_mem cd_212
  | 13, _ => cd_mem cd_213
  | 14, _ => cd_mem cd_214
  | 15, _ => cd_mem cd_215
  | 16, _ => cd_mem cd_216
  | 17, _ => cd_mem cd_217
  | 18, _ => cd_mem cd_218
  | 19, _ => cd_mem cd_219
  | 20, _ => cd_mem cd_220
  | 21, _ => cd_mem cd_221
  | 22, _ => cd_mem cd_222
  | 23, _ => cd_mem cd_223
  | 24, _ => cd_mem cd_224
  | 25, _ => cd_mem cd_225
  | 26, _ => cd_mem cd_226
  | 27, _ => cd_mem cd_227
  | 28, _ => cd_mem cd_228
  | 29, _ => cd_mem cd_229
  | 30, _ => cd_mem cd_230
  | 31, _ => cd_mem cd_231
  | 32, _ => cd_mem cd_232
  | 33, _ => cd_mem cd_233
  | 34, _ => cd_mem cd_234
  | 35, _ => cd_mem cd_235
  | 36, _ => cd_mem cd_236
  | 37, _ => cd_mem cd_237
  | 38, _ => cd_mem cd_238
  | 39, _ => cd_mem cd_239
  | n + 40, h => absurd h (by omega)
theorem cdr_6 : ∀ k, k < 40 → cdW (240 + k) ∈ wsG
  | 0, _ => cd_mem cd_240
  | 1, _ => cd_mem cd_241
  | 2, _ => cd_mem cd_242
  | 3, _ => cd_mem cd_243
  | 4, _ => cd_mem cd_244
  | 5, _ => cd_mem cd_245
  | 6, _ => cd_mem cd_246
  | 7, _ => cd_mem cd_247
  | 8, _ => cd_mem cd_248
  | 9, _ => cd_mem cd_249
  | 10, _ => cd_mem cd_250
  | 11, _ => cd_mem cd_251
  | 12, _ => cd_mem cd_252
  | 13, _ => cd_mem cd_253
  | 14, _ => cd_mem cd_254
  | 15, _ => cd_mem cd_255
  | 16, _ => cd_mem cd_256
  | 17, _ => cd_mem cd_257
  | 18, _ => cd_mem cd_258
  | 19, _ => cd_mem cd_259
  | 20, _ => cd_mem cd_260
  | 21, _ => cd_mem cd_261
  | 22, _ => cd_mem cd_262
  | 23, _ => cd_mem cd_263
  | 24, _ => cd_mem cd_264
  | 25, _ => cd_mem cd_265
  | 26, _ => cd_mem cd_266
  | 27, _ => cd_mem cd_267
  | 28, _ => cd_mem cd_268
  | 29, _ => cd_mem cd_269
  | 30, _ => cd_mem cd_270
  | 31, _ => cd_mem cd_271
  | 32, _ => cd_mem cd_272
  | 33, _ => cd_mem cd_273
  | 34, _ => cd_mem cd_274
  | 35, _ => cd_mem cd_275
  | 36, _ => cd_mem cd_276
  | 37, _ => cd_mem cd_277
  | 38, _ => cd_mem cd_278
  | 39, _ => cd_mem cd_279
  | n + 40, h => absurd h (by omega)
theorem cdr_7 : ∀ k, k < 39 → cdW (280 + k) ∈ wsG
  | 0, _ => cd_mem cd_280
  | 1, _ => cd_mem cd_281
  | 2, _ => cd_mem cd_282
  | 3, _ => cd_mem cd_283
  | 4, _ => cd_mem cd_284
  | 5, _ => cd_mem cd_285
  | 6, _ => cd_mem cd_286
  | 7, _ => cd_mem cd_287
  | 8, _ => cd_mem cd_288
  | 9, _ => cd_mem cd_289
  | 10, _ => cd_mem cd_290
  | 11, _ => cd_mem cd_291
  | 12, _ => cd_mem cd_292
  | 13, _ => cd_mem cd_293
  | 14, _ => cd_mem cd_294
  | 15, _ => cd_mem cd_295
  | 16, _ => cd_mem cd_296
  | 17, _ => cd_mem cd_297
  | 18, _ => cd_mem cd_298
  | 19, _ => cd_mem cd_299
  | 20, _ => cd_mem cd_300
  | 21, _ => cd_mem cd_301
  | 22, _ => cd_mem cd_302
  | 23, _ => cd_mem cd_303
  | 24, _ => cd_mem cd_304
  | 25, _ => cd_mem cd_305
  | 26, _ => cd_mem cd_306
  | 27, _ => cd_mem cd_307
  | 28, _ => cd_mem cd_308
  | 29, _ => cd_mem cd_309
  | 30, _ => cd_mem cd_310
  | 31, _ => cd_mem cd_311
  | 32, _ => cd_mem cd_312
  | 33, _ => cd_mem cd_313
  | 34, _ => cd_mem cd_314
  | 35, _ => cd_mem cd_315
  | 36, _ => cd_mem cd_316
  | 37, _ => cd_mem cd_317
  | 38, _ => cd_mem cd_318
  | n + 39, h => absurd h (by omega)
theorem cd_ok {y : Nat} (h : y < 319) : cdW y ∈ wsG := by
  by_cases h0 : y < 40
  · have := cdr_0 (y - 0) (by omega)
    rwa [show 0 + (y - 0) = y by omega] at this
  by_cases h1 : y < 80
  · have := cdr_1 (y - 40) (by omega)
    rwa [show 40 + (y - 40) = y by omega] at this
  by_cases h2 : y < 120
  · have := cdr_2 (y - 80) (by omega)
    rwa [show 80 + (y - 80) = y by omega] at this
  by_cases h3 : y < 160
  · have := cdr_3 (y - 120) (by omega)
    rwa [show 120 + (y - 120) = y by omega] at this
  by_cases h4 : y < 200
  · have := cdr_4 (y - 160) (by omega)
    rwa [show 160 + (y - 160) = y by omega] at this
  by_cases h5 : y < 240
  · have := cdr_5 (y - 200) (by omega)
    rwa [show 200 + (y - 200) = y by omega] at this
  by_cases h6 : y < 280
  · have := cdr_6 (y - 240) (by omega)
    rwa [show 240 + (y - 240) = y by omega] at this
  by_cases h7 : y < 319
  · have := cdr_7 (y - 280) (by omega)
    rwa [show 280 + (y - 280) = y by omega] at this
  omega
theorem mk_kd : mkTab.all (fun e => (decide (e.2.2.2.1 = 2) || decide (mO e.2.2.1 < 12)) && (decide (e.2.2.2.1 = 1) || decide (e.2.2.2.2.1 = 0)) && (decide (e.2.2.2.1 = 2) || !isH e.2.2.1) && decide (e.2.2.1 < 319)) = true := by decide +kernel
theorem cC_oR : ∀ ci, ci < 12 → (cC ci).1 = oR ci := by decide +kernel
