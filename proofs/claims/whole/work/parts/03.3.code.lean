theorem am_ok_0 : (List.range (am_sz 0)).all (am_okP 0) = true := by
  refine List.all_eq_true.mpr fun q hq => ?_
  have hq : q < 1295 := List.mem_range.mp hq
  by_cases h0 : q < 100
  · have h := List.all_eq_true.mp am_okl_0 (q - 0) (List.mem_range.mpr (by omega))
    have e : 0 + (q - 0) = q := by omega
    rw [e] at h
    exact h
  by_cases h1 : q < 200
  · have h := List.all_eq_true.mp am_okl_1 (q - 100) (List.mem_range.mpr (by omega))
    have e : 100 + (q - 100) = q := by omega
    rw [e] at h
    exact h
  by_cases h2 : q < 300
  · have h := List.all_eq_true.mp am_okl_2 (q - 200) (List.mem_range.mpr (by omega))
    have e : 200 + (q - 200) = q := by omega
    rw [e] at h
    exact h
  by_cases h3 : q < 400
  · have h := List.all_eq_true.mp am_okl_3 (q - 300) (List.mem_range.mpr (by omega))
    have e : 300 + (q - 300) = q := by omega
    rw [e] at h
    exact h
  by_cases h4 : q < 500
  · have h := List.all_eq_true.mp am_okl_4 (q - 400) (List.mem_range.mpr (by omega))
    have e : 400 + (q - 400) = q := by omega
    rw [e] at h
    exact h
  by_cases h5 : q < 600
  · have h := List.all_eq_true.mp am_okl_5 (q - 500) (List.mem_range.mpr (by omega))
    have e : 500 + (q - 500) = q := by omega
    rw [e] at h
    exact h
  by_cases h6 : q < 700
  · have h := List.all_eq_true.mp am_okl_6 (q - 600) (List.mem_range.mpr (by omega))
    have e : 600 + (q - 600) = q := by omega
    rw [e] at h
    exact h
  by_cases h7 : q < 800
  · have h := List.all_eq_true.mp am_okl_7 (q - 700) (List.mem_range.mpr (by omega))
    have e : 700 + (q - 700) = q := by omega
    rw [e] at h
    exact h
  by_cases h8 : q < 900
  · have h := List.all_eq_true.mp am_okl_8 (q - 800) (List.mem_range.mpr (by omega))
    have e : 800 + (q - 800) = q := by omega
    rw [e] at h
    exact h
  by_cases h9 : q < 1000
  · have h := List.all_eq_true.mp am_okl_9 (q - 900) (List.mem_range.mpr (by omega))
    have e : 900 + (q - 900) = q := by omega
    rw [e] at h
    exact h
  by_cases h10 : q < 1100
  · have h := List.all_eq_true.mp am_okl_10 (q - 1000) (List.mem_range.mpr (by omega))
    have e : 1000 + (q - 1000) = q := by omega
    rw [e] at h
    exact h
  by_cases h11 : q < 1200
  · have h := List.all_eq_true.mp am_okl_11 (q - 1100) (List.mem_range.mpr (by omega))
    have e : 1100 + (q - 1100) = q := by omega
    rw [e] at h
    exact h
  by_cases h12 : q < 1300
  · have h := List.all_eq_true.mp am_okl_12 (q - 1200) (List.mem_range.mpr (by omega))
    have e : 1200 + (q - 1200) = q := by omega
    rw [e] at h
    exact h
  omega
theorem am_ok_1 : (List.range (am_sz 1)).all (am_okP 1) = true := by decide +kernel
theorem am_ok_2 : (List.range (am_sz 2)).all (am_okP 2) = true := by decide +kernel
theorem am_ok_3 : (List.range (am_sz 3)).all (am_okP 3) = true := by decide +kernel
theorem am_ok_4 : (List.range (am_sz 4)).all (am_okP 4) = true := by decide +kernel
theorem am_ok_5 : (List.range (am_sz 5)).all (am_okP 5) = true := by decide +kernel
theorem am_ok_6 : (List.range (am_sz 6)).all (am_okP 6) = true := by decide +kernel
theorem am_ok_7 : (List.range (am_sz 7)).all (am_okP 7) = true := by decide +kernel
theorem am_ok_8 : (List.range (am_sz 8)).all (am_okP 8) = true := by decide +kernel
theorem am_ok_9 : (List.range (am_sz 9)).all (am_okP 9) = true := by decide +kernel
theorem am_ok_10 : (List.range (am_sz 10)).all (am_okP 10) = true := by decide +kernel
theorem am_ok_11 : (List.range (am_sz 11)).all (am_okP 11) = true := by decide +kernel
theorem am_ok_12 : (List.range (am_sz 12)).all (am_okP 12) = true := by decide +kernel
theorem am_ok_13 : (List.range (am_sz 13)).all (am_okP 13) = true := by decide +kernel
theorem am_ok_14 : (List.range (am_sz 14)).all (am_okP 14) = true := by decide +kernel
theorem am_ok_15 : (List.range (am_sz 15)).all (am_okP 15) = true := by decide +kernel
theorem am_ok_16 : (List.range (am_sz 16)).all (am_okP 16) = true := by decide +kernel
theorem am_ok_17 : (List.range (am_sz 17)).all (am_okP 17) = true := by decide +kernel
theorem am_ok_18 : (List.range (am_sz 18)).all (am_okP 18) = true := by decide +kernel
theorem am_ok_19 : (List.range (am_sz 19)).all (am_okP 19) = true := by decide +kernel
theorem am_ok_20 : (List.range (am_sz 20)).all (am_okP 20) = true := by decide +kernel
theorem am_ok_21 : (List.range (am_sz 21)).all (am_okP 21) = true := by decide +kernel
theorem am_ok_22 : (List.range (am_sz 22)).all (am_okP 22) = true := by decide +kernel
theorem am_ok_23 : (List.range (am_sz 23)).all (am_okP 23) = true := by decide +kernel
theorem am_ok_24 : (List.range (am_sz 24)).all (am_okP 24) = true := by decide +kernel
theorem am_ok_25 : (List.range (am_sz 25)).all (am_okP 25) = true := by decide +kernel
theorem am_ok_26 : (List.range (am_sz 26)).all (am_okP 26) = true := by decide +kernel
theorem am_ok_27 : (List.range (am_sz 27)).all (am_okP 27) = true := by decide +kernel
theorem am_ok_28 : (List.range (am_sz 28)).all (am_okP 28) = true := by decide +kernel
theorem am_ok_29 : (List.range (am_sz 29)).all (am_okP 29) = true := by decide +kernel
theorem am_ok_30 : (List.range (am_sz 30)).all (am_okP 30) = true := by decide +kernel
theorem am_ok_31 : (List.range (am_sz 31)).all (am_okP 31) = true := by decide +kernel
theorem am_ok_32 : (List.range (am_sz 32)).all (am_okP 32) = true := by decide +kernel
theorem am_ok_33 : (List.range (am_sz 33)).all (am_okP 33) = true := by decide +kernel
theorem am_ok_34 : (List.range (am_sz 34)).all (am_okP 34) = true := by decide +kernel
theorem am_ok_35 : (List.range (am_sz 35)).all (am_okP 35) = true := by decide +kernel
theorem am_ok_36 : (List.range (am_sz 36)).all (am_okP 36) = true := by decide +kernel
theorem am_ok_37 : (List.range (am_sz 37)).all (am_okP 37) = true := by decide +kernel
theorem am_ok_38 : (List.range (am_sz 38)).all (am_okP 38) = true := by decide +kernel
theorem am_ok_39 : (List.range (am_sz 39)).all (am_okP 39) = true := by decide +kernel
theorem am_ok_40 : (List.range (am_sz 40)).all (am_okP 40) = true := by decide +kernel
theorem am_ok_41 : (List.range (am_sz 41)).all (am_okP 41) = true := by decide +kernel
theorem am_ok_42 : (List.range (am_sz 42)).all (am_okP 42) = true := by decide +kernel
theorem am_ok_43 : (List.range (am_sz 43)).all (am_okP 43) = true := by decide +kernel
theorem am_ok_44 : (List.range (am_sz 44)).all (am_okP 44) = true := by decide +kernel
theorem am_ok_45 : (List.range (am_sz 45)).all (am_okP 45) = true := by decide +kernel
theorem am_ok_46 : (List.range (am_sz 46)).all (am_okP 46) = true := by decide +kernel
theorem am_ok_47 : (List.range (am_sz 47)).all (am_okP 47) = true := by decide +kernel
theorem am_ok_48 : (List.range (am_sz 48)).all (am_okP 48) = true := by decide +kernel
theorem am_ok_49 : (List.range (am_sz 49)).all (am_okP 49) = true := by decide +kernel
theorem am_ok_50 : (List.range (am_sz 50)).all (am_okP 50) = true := by decide +kernel
theorem am_ok_51 : (List.range (am_sz 51)).all (am_okP 51) = true := by decide +kernel
theorem am_ok_52 : (List.range (am_sz 52)).all (am_okP 52) = true := by decide +kernel
theorem am_ok_53 : (List.range (am_sz 53)).all (am_okP 53) = true := by decide +kernel
theorem am_ok_54 : (List.range (am_sz 54)).all (am_okP 54) = true := by decide +kernel
theorem am_ok_55 : (List.range (am_sz 55)).all (am_okP 55) = true := by decide +kernel
theorem am_ok_56 : (List.range (am_sz 56)).all (am_okP 56) = true := by decide +kernel
theorem am_ok_57 : (List.range (am_sz 57)).all (am_okP 57) = true := by decide +kernel
theorem am_ok_58 : (List.range (am_sz 58)).all (am_okP 58) = true := by decide +kernel
theorem am_ok_59 : (List.range (am_sz 59)).all (am_okP 59) = true := by decide +kernel
theorem am_ok_60 : (List.range (am_sz 60)).all (am_okP 60) = true := by decide +kernel
theorem am_ok_61 : (List.range (am_sz 61)).all (am_okP 61) = true := by decide +kernel
theorem am_ok_62 : (List.range (am_sz 62)).all (am_okP 62) = true := by decide +kernel
theorem am_ok_63 : (List.range (am_sz 63)).all (am_okP 63) = true := by decide +kernel
theorem am_ok_64 : (List.range (am_sz 64)).all (am_okP 64) = true := by decide +kernel
theorem am_ok_65 : (List.range (am_sz 65)).all (am_okP 65) = true := by decide +kernel
theorem am_ok_66 : (List.range (am_sz 66)).all (am_okP 66) = true := by decide +kernel
theorem am_ok_67 : (List.range (am_sz 67)).all (am_okP 67) = true := by decide +kernel
theorem am_ok_68 : (List.range (am_sz 68)).all (am_okP 68) = true := by decide +kernel
theorem am_ok_69 : (List.range (am_sz 69)).all (am_okP 69) = true := by decide +kernel
theorem am_ok_70 : (List.range (am_sz 70)).all (am_okP 70) = true := by decide +kernel
theorem am_ok_71 : (List.range (am_sz 71)).all (am_okP 71) = true := by decide +kernel
theorem am_ok_72 : (List.range (am_sz 72)).all (am_okP 72) = true := by decide +kernel
theorem am_ok_73 : (List.range (am_sz 73)).all (am_okP 73) = true := by decide +kernel
theorem am_ok_74 : (List.range (am_sz 74)).all (am_okP 74) = true := by decide +kernel
theorem am_ok_75 : (List.range (am_sz 75)).all (am_okP 75) = true := by decide +kernel
theorem am_ok_76 : (List.range (am_sz 76)).all (am_okP 76) = true := by decide +kernel
theorem am_ok_77 : (List.range (am_sz 77)).all (am_okP 77) = true := by decide +kernel
theorem am_ok_78 : (List.range (am_sz 78)).all (am_okP 78) = true := by decide +kernel
theorem am_ok_79 : (List.range (am_sz 79)).all (am_okP 79) = true := by decide +kernel
theorem am_ok_80 : (List.range (am_sz 80)).all (am_okP 80) = true := by decide +kernel
theorem am_ok_81 : (List.range (am_sz 81)).all (am_okP 81) = true := by decide +kernel
theorem am_ok_82 : (List.range (am_sz 82)).all (am_okP 82) = true := by decide +kernel
theorem am_ok_83 : (List.range (am_sz 83)).all (am_okP 83) = true := by decide +kernel
theorem am_ok_84 : (List.range (am_sz 84)).all (am_okP 84) = true := by decide +kernel
theorem am_ok_85 : (List.range (am_sz 85)).all (am_okP 85) = true := by decide +kernel
theorem am_ok_86 : (List.range (am_sz 86)).all (am_okP 86) = true := by decide +kernel
theorem am_ok_87 : (List.range (am_sz 87)).all (am_okP 87) = true := by decide +kernel
theorem am_ok_88 : (List.range (am_sz 88)).all (am_okP 88) = true := by decide +kernel
theorem am_ok_89 : (List.range (am_sz 89)).all (am_okP 89) = true := by decide +kernel
theorem am_ok_90 : (List.range (am_sz 90)).all (am_okP 90) = true := by decide +kernel
theorem am_ok_91 : (List.range (am_sz 91)).all (am_okP 91) = true := by decide +kernel
theorem am_ok_92 : (List.range (am_sz 92)).all (am_okP 92) = true := by decide +kernel
theorem am_ok_93 : (List.range (am_sz 93)).all (am_okP 93) = true := by decide +kernel
theorem am_ok_94 : (List.range (am_sz 94)).all (am_okP 94) = true := by decide +kernel
theorem am_ok_95 : (List.range (am_sz 95)).all (am_okP 95) = true := by decide +kernel
theorem am_ok_96 : (List.range (am_sz 96)).all (am_okP 96) = true := by decide +kernel
theorem am_ok_97 : (List.range (am_sz 97)).all (am_okP 97) = true := by decide +kernel
theorem am_ok_98 : (List.range (am_sz 98)).all (am_okP 98) = true := by decide +kernel
theorem am_ok_99 : (List.range (am_sz 99)).all (am_okP 99) = true := by decide +kernel
theorem am_ok_100 : (List.range (am_sz 100)).all (am_okP 100) = true := by decide +kernel
theorem am_ok_101 : (List.range (am_sz 101)).all (am_okP 101) = true := by decide +kernel
theorem am_ok_102 : (List.range (am_sz 102)).all (am_okP 102) = true := by decide +kernel
theorem am_ok_103 : (List.range (am_sz 103)).all (am_okP 103) = true := by decide +kernel
theorem am_ok_104 : (List.range (am_sz 104)).all (am_okP 104) = true := by decide +kernel
theorem am_ok_105 : (List.range (am_sz 105)).all (am_okP 105) = true := by decide +kernel
theorem am_ok_106 : (List.range (am_sz 106)).all (am_okP 106) = true := by decide +kernel
theorem am_ok_107 : (List.range (am_sz 107)).all (am_okP 107) = true := by decide +kernel
theorem am_ok_108 : (List.range (am_sz 108)).all (am_okP 108) = true := by decide +kernel
theorem am_ok_109 : (List.range (am_sz 109)).all (am_okP 109) = true := by decide +kernel
theorem am_ok_110 : (List.range (am_sz 110)).all (am_okP 110) = true := by decide +kernel
theorem am_ok_111 : (List.range (am_sz 111)).all (am_okP 111) = true := by decide +kernel
theorem am_ok_112 : (List.range (am_sz 112)).all (am_okP 112) = true := by decide +kernel
theorem am_ok_113 : (List.range (am_sz 113)).all (am_okP 113) = true := by decide +kernel
theorem am_ok_114 : (List.range (am_sz 114)).all (am_okP 114) = true := by decide +kernel
theorem am_ok_115 : (List.range (am_sz 115)).all (am_okP 115) = true := by decide +kernel
theorem am_ok_116 : (List.range (am_sz 116)).all (am_okP 116) = true := by decide +kernel
theorem am_ok_117 : (List.range (am_sz 117)).all (am_okP 117) = true := by decide +kernel
theorem am_ok_118 : (List.range (am_sz 118)).all (am_okP 118) = true := by decide +kernel
theorem am_ok_119 : (List.range (am_sz 119)).all (am_okP 119) = true := by decide +kernel
theorem am_ok_120 : (List.range (am_sz 120)).all (am_okP 120) = true := by decide +kernel
theorem am_ok_121 : (List.range (am_sz 121)).all (am_okP 121) = true := by decide +kernel
theorem am_ok_122 : (List.range (am_sz 122)).all (am_okP 122) = true := by decide +kernel
theorem am_ok_123 : (List.range (am_sz 123)).all (am_okP 123) = true := by decide +kernel
theorem am_ok_124 : (List.range (am_sz 124)).all (am_okP 124) = true := by decide +kernel
theorem am_ok_125 : (List.range (am_sz 125)).all (am_okP 125) = true := by decide +kernel
theorem am_ok_126 : (List.range (am_sz 126)).all (am_okP 126) = true := by decide +kernel
theorem am_ok_127 : (List.range (am_sz 127)).all (am_okP 127) = true := by decide +kernel
theorem am_ok_128 : (List.range (am_sz 128)).all (am_okP 128) = true := by decide +kernel
theorem am_ok_129 : (List.range (am_sz 129)).all (am_okP 129) = true := by decide +kernel
theorem am_ok_130 : (List.range (am_sz 130)).all (am_okP 130) = true := by decide +kernel
theorem am_ok_131 : (List.range (am_sz 131)).all (am_okP 131) = true := by decide +kernel
theorem am_ok_132 : (List.range (am_sz 132)).all (am_okP 132) = true := by decide +kernel
theorem am_ok_133 : (List.range (am_sz 133)).all (am_okP 133) = true := by decide +kernel
theorem am_ok_134 : (List.range (am_sz 134)).all (am_okP 134) = true := by decide +kernel
theorem am_ok_135 : (List.range (am_sz 135)).all (am_okP 135) = true := by decide +kernel
theorem am_ok_136 : (List.range (am_sz 136)).all (am_okP 136) = true := by decide +kernel
theorem am_ok_137 : (List.range (am_sz 137)).all (am_okP 137) = true := by decide +kernel
theorem am_ok_138 : (List.range (am_sz 138)).all (am_okP 138) = true := by decide +kernel
theorem am_ok_139 : (List.range (am_sz 139)).all (am_okP 139) = true := by decide +kernel
theorem am_ok_140 : (List.range (am_sz 140)).all (am_okP 140) = true := by decide +kernel
theorem am_ok_141 : (List.range (am_sz 141)).all (am_okP 141) = true := by decide +kernel
theorem am_ok_142 : (List.range (am_sz 142)).all (am_okP 142) = true := by decide +kernel
theorem am_ok_143 : (List.range (am_sz 143)).all (am_okP 143) = true := by decide +kernel
theorem am_ok_144 : (List.range (am_sz 144)).all (am_okP 144) = true := by decide +kernel
theorem am_ok_145 : (List.range (am_sz 145)).all (am_okP 145) = true := by decide +kernel
theorem am_ok_146 : (List.range (am_sz 146)).all (am_okP 146) = true := by decide +kernel
theorem am_ok_147 : (List.range (am_sz 147)).all (am_okP 147) = true := by decide +kernel
theorem am_ok_148 : (List.range (am_sz 148)).all (am_okP 148) = true := by decide +kernel
theorem am_ok_149 : (List.range (am_sz 149)).all (am_okP 149) = true := by decide +kernel
theorem am_ok_150 : (List.range (am_sz 150)).all (am_okP 150) = true := by decide +kernel
theorem am_ok_151 : (List.range (am_sz 151)).all (am_okP 151) = true := by decide +kernel
theorem am_ok_152 : (List.range (am_sz 152)).all (am_okP 152) = true := by decide +kernel
theorem am_ok_153 : (List.range (am_sz 153)).all (am_okP 153) = true := by decide +kernel
theorem am_ok_154 : (List.range (am_sz 154)).all (am_okP 154) = true := by decide +kernel
theorem am_ok_155 : (List.range (am_sz 155)).all (am_okP 155) = true := by decide +kernel
theorem am_ok_156 : (List.range (am_sz 156)).all (am_okP 156) = true := by decide +kernel
theorem am_ok_157 : (List.range (am_sz 157)).all (am_okP 157) = true := by decide +kernel
theorem am_ok_158 : (List.range (am_sz 158)).all (am_okP 158) = true := by decide +kernel
theorem am_ok_159 : (List.range (am_sz 159)).all (am_okP 159) = true := by decide +kernel
theorem am_ok_160 : (List.range (am_sz 160)).all (am_okP 160) = true := by decide +kernel
theorem am_ok_161 : (List.range (am_sz 161)).all (am_okP 161) = true := by decide +kernel
theorem am_ok_162 : (List.range (am_sz 162)).all (am_okP 162) = true := by decide +kernel
theorem am_ok_163 : (List.range (am_sz 163)).all (am_okP 163) = true := by decide +kernel
theorem am_ok_164 : (List.range (am_sz 164)).all (am_okP 164) = true := by decide +kernel
theorem am_ok_165 : (List.range (am_sz 165)).all (am_okP 165) = true := by decide +kernel
theorem am_ok_166 : (List.range (am_sz 166)).all (am_okP 166) = true := by decide +kernel
theorem am_ok_167 : (List.range (am_sz 167)).all (am_okP 167) = true := by decide +kernel
theorem am_ok_168 : (List.range (am_sz 168)).all (am_okP 168) = true := by decide +kernel
theorem am_ok_169 : (List.range (am_sz 169)).all (am_okP 169) = true := by decide +kernel
theorem am_ok_170 : (List.range (am_sz 170)).all (am_okP 170) = true := by decide +kernel
theorem am_ok_171 : (List.range (am_sz 171)).all (am_okP 171) = true := by decide +kernel
theorem am_ok_172 : (List.range (am_sz 172)).all (am_okP 172) = true := by decide +kernel
theorem am_ok_173 : (List.range (am_sz 173)).all (am_okP 173) = true := by decide +kernel
theorem am_ok_174 : (List.range (am_sz 174)).all (am_okP 174) = true := by decide +kernel
theorem am_ok_175 : (List.range (am_sz 175)).all (am_okP 175) = true := by decide +kernel
theorem am_ok_176 : (List.range (am_sz 176)).all (am_okP 176) = true := by decide +kernel
theorem am_ok_177 : (List.range (am_sz 177)).all (am_okP 177) = true := by decide +kernel
theorem am_ok_178 : (List.range (am_sz 178)).all (am_okP 178) = true := by decide +kernel
theorem am_ok_179 : (List.range (am_sz 179)).all (am_okP 179) = true := by decide +kernel
theorem am_ok_180 : (List.range (am_sz 180)).all (am_okP 180) = true := by decide +kernel
theorem am_ok_181 : (List.range (am_sz 181)).all (am_okP 181) = true := by decide +kernel
theorem am_ok_182 : (List.range (am_sz 182)).all (am_okP 182) = true := by decide +kernel
theorem am_ok_183 : (List.range (am_sz 183)).all (am_okP 183) = true := by decide +kernel
theorem am_ok_184 : (List.range (am_sz 184)).all (am_okP 184) = true := by decide +kernel
theorem am_ok_185 : (List.range (am_sz 185)).all (am_okP 185) = true := by decide +kernel
theorem am_ok_186 : (List.range (am_sz 186)).all (am_okP 186) = true := by decide +kernel
theorem am_ok_187 : (List.range (am_sz 187)).all (am_okP 187) = true := by decide +kernel
theorem am_ok_188 : (List.range (am_sz 188)).all (am_okP 188) = true := by decide +kernel
theorem am_ok_189 : (List.range (am_sz 189)).all (am_okP 189) = true := by decide +kernel
theorem am_ok_190 : (List.range (am_sz 190)).all (am_okP 190) = true := by decide +kernel
theorem am_ok_191 : (List.range (am_sz 191)).all (am_okP 191) = true := by decide +kernel
theorem am_ok_192 : (List.range (am_sz 192)).all (am_okP 192) = true := by decide +kernel
theorem am_ok_193 : (List.range (am_sz 193)).all (am_okP 193) = true := by decide +kernel
theorem am_ok_194 : (List.range (am_sz 194)).all (am_okP 194) = true := by decide +kernel
theorem am_ok_195 : (List.range (am_sz 195)).all (am_okP 195) = true := by decide +kernel
theorem am_ok_196 : (List.range (am_sz 196)).all (am_okP 196) = true := by decide +kernel
theorem am_ok_197 : (List.range (am_sz 197)).all (am_okP 197) = true := by decide +kernel
theorem am_ok_198 : (List.range (am_sz 198)).all (am_okP 198) = true := by decide +kernel
theorem am_ok_199 : (List.range (am_sz 199)).all (am_okP 199) = true := by decide +kernel
theorem am_ok_200 : (List.range (am_sz 200)).all (am_okP 200) = true := by decide +kernel
theorem am_ok_201 : (List.range (am_sz 201)).all (am_okP 201) = true := by decide +kernel
theorem am_ok_202 : (List.range (am_sz 202)).all (am_okP 202) = true := by decide +kernel
theorem am_ok_203 : (List.range (am_sz 203)).all (am_okP 203) = true := by decide +kernel
theorem am_ok_204 : (List.range (am_sz 204)).all (am_okP 204) = true := by decide +kernel
theorem am_ok_205 : (List.range (am_sz 205)).all (am_okP 205) = true := by decide +kernel
theorem am_ok_206 : (List.range (am_sz 206)).all (am_okP 206) = true := by decide +kernel
theorem am_ok_207 : (List.range (am_sz 207)).all (am_okP 207) = true := by decide +kernel
theorem am_ok_208 : (List.range (am_sz 208)).all (am_okP 208) = true := by decide +kernel
theorem am_ok_209 : (List.range (am_sz 209)).all (am_okP 209) = true := by decide +kernel
theorem am_ok_210 : (List.range (am_sz 210)).all (am_okP 210) = true := by decide +kernel
theorem am_ok_211 : (List.range (am_sz 211)).all (am_okP 211) = true := by decide +kernel
theorem am_ok_212 : (List.range (am_sz 212)).all (am_okP 212) = true := by decide +kernel
theorem am_ok_213 : (List.range (am_sz 213)).all (am_okP 213) = true := by decide +kernel
theorem am_ok_214 : (List.range (am_sz 214)).all (am_okP 214) = true := by decide +kernel
theorem am_ok_215 : (List.range (am_sz 215)).all (am_okP 215) = true := by decide +kernel
theorem am_ok_216 : (List.range (am_sz 216)).all (am_okP 216) = true := by decide +kernel
theorem am_ok_217 : (List.range (am_sz 217)).all (am_okP 217) = true := by decide +kernel
theorem am_ok_218 : (List.range (am_sz 218)).all (am_okP 218) = true := by decide +kernel
theorem am_ok_219 : (List.range (am_sz 219)).all (am_okP 219) = true := by decide +kernel
theorem am_ok_220 : (List.range (am_sz 220)).all (am_okP 220) = true := by decide +kernel
theorem am_ok_221 : (List.range (am_sz 221)).all (am_okP 221) = true := by decide +kernel
theorem am_ok_222 : (List.range (am_sz 222)).all (am_okP 222) = true := by decide +kernel
theorem am_ok_223 : (List.range (am_sz 223)).all (am_okP 223) = true := by decide +kernel
def am_okQ (M : Nat) : Prop := (List.range (am_sz M)).all (am_okP M) = true
theorem am_okA_25 : ∀ a, a < 25 → am_okQ a := lt_s (lt_s (lt_s (lt_s (lt_s (lt_s (lt_s (lt_s (lt_s (lt_s (lt_s (lt_s (lt_s (lt_s (lt_s (lt_s (lt_s (lt_s (lt_s (lt_s (lt_s (lt_s (lt_s (lt_s (lt_s ((lt_0 : ∀ a, a < 0 → am_okQ a)) am_ok_0) am_ok_1) am_ok_2) am_ok_3) am_ok_4) am_ok_5) am_ok_6) am_ok_7) am_ok_8) am_ok_9) am_ok_10) am_ok_11) am_ok_12) am_ok_13) am_ok_14) am_ok_15) am_ok_16) am_ok_17) am_ok_18) am_ok_19) am_ok_20) am_ok_21) am_ok_22) am_ok_23) am_ok_24
theorem am_okA_50 : ∀ a, a < 50 → am_okQ a := lt_s (lt_s (lt_s (lt_s (lt_s (lt_s (lt_s (lt_s (lt_s (lt_s (lt_s (lt_s (lt_s (lt_s (lt_s (lt_s (lt_s (lt_s (lt_s (lt_s (lt_s (lt_s (lt_s (lt_s (lt_s (am_okA_25) am_ok_25) am_ok_26) am_ok_27) am_ok_28) am_ok_29) am_ok_30) am_ok_31) am_ok_32) am_ok_33) am_ok_34) am_ok_35) am_ok_36) am_ok_37) am_ok_38) am_ok_39) am_ok_40) am_ok_41) am_ok_42) am_ok_43) am_ok_44) am_ok_45) am_ok_46) am_ok_47) am_ok_48) am_ok_49
theorem am_okA_75 : ∀ a, a < 75 → am_okQ a := lt_s (lt_s (lt_s (lt_s (lt_s (lt_s (lt_s (lt_s (lt_s (lt_s (lt_s (lt_s (lt_s (lt_s (lt_s (lt_s (lt_s (lt_s (lt_s (lt_s (lt_s (lt_s (lt_s (lt_s (lt_s (am_okA_50) am_ok_50) am_ok_51) am_ok_52) am_ok_53) am_ok_54) am_ok_55) am_ok_56) am_ok_57) am_ok_58) am_ok_59) am_ok_60) am_ok_61) am_ok_62) am_ok_63) am_ok_64) am_ok_65) am_ok_66) am_ok_67) am_ok_68) am_ok_69) am_ok_70) am_ok_71) am_ok_72) am_ok_73) am_ok_74
theorem am_okA_100 : ∀ a, a < 100 → am_okQ a := lt_s (lt_s (lt_s (lt_s (lt_s (lt_s (lt_s (lt_s (lt_s (lt_s (lt_s (lt_s (lt_s (lt_s (lt_s (lt_s (lt_s (lt_s (lt_s (lt_s (lt_s (lt_s (lt_s (lt_s (lt_s (am_okA_75) am_ok_75) am_ok_76) am_ok_77) am_ok_78) am_ok_79) am_ok_80) am_ok_81) am_ok_82) am_ok_83) am_ok_84) am_ok_85) am_ok_86) am_ok_87) am_ok_88) am_ok_89) am_ok_90) am_ok_91) am_ok_92) am_ok_93) am_ok_94) am_ok_95) am_ok_96) am_ok_97) am_ok_98) am_ok_99
theorem am_okA_125 : ∀ a, a < 125 → am_okQ a := lt_s (lt_s (lt_s (lt_s (lt_s (lt_s (lt_s (lt_s (lt_s (lt_s (lt_s (lt_s (lt_s (lt_s (lt_s (lt_s (lt_s (lt_s (lt_s (lt_s (lt_s (lt_s (lt_s (lt_s (lt_s (am_okA_100) am_ok_100) am_ok_101) am_ok_102) am_ok_103) am_ok_104) am_ok_105) am_ok_106) am_ok_107) am_ok_108) am_ok_109) am_ok_110) am_ok_111) am_ok_112) am_ok_113) am_ok_114) am_ok_115) am_ok_116) am_ok_117) am_ok_118) am_ok_119) am_ok_120) am_ok_121) am_ok_122) am_ok_123) am_ok_124
theorem am_okA_150 : ∀ a, a < 150 → am_okQ a := lt_s (lt_s (lt_s (lt_s (lt_s (lt_s (lt_s (lt_s (lt_s (lt_s (lt_s (lt_s (lt_s (lt_s (lt_s (lt_s (lt_s (lt_s (lt_s (lt_s (lt_s (lt_s (lt_s (lt_s (lt_s (am_okA_125) am_ok_125) am_ok_126) am_ok_127) am_ok_128) am_ok_129) am_ok_130) am_ok_131) am_ok_132) am_ok_133) am_ok_134) am_ok_135) am_ok_136) am_ok_137) am_ok_138) am_ok_139) am_ok_140) am_ok_141) am_ok_142) am_ok_143) am_ok_144) am_ok_145) am_ok_146) am_ok_147) am_ok_148) am_ok_149
theorem am_okA_175 : ∀ a, a < 175 → am_okQ a := lt_s (lt_s (lt_s (lt_s (lt_s (lt_s (lt_s (lt_s (lt_s (lt_s (lt_s (lt_s (lt_s (lt_s (lt_s (lt_s (lt_s (lt_s (lt_s (lt_s (lt_s (lt_s (lt_s (lt_s (lt_s (am_okA_150) am_ok_150) am_ok_151) am_ok_152) am_ok_153) am_ok_154) am_ok_155) am_ok_156) am_ok_157) am_ok_158) am_ok_159) am_ok_160) am_ok_161) am_ok_162) am_ok_163) am_ok_164) am_ok_165) am_ok_166) am_ok_167) am_ok_168) am_ok_169) am_ok_170) am_ok_171) am_ok_172) am_ok_173) am_ok_174
theorem am_okA_200 : ∀ a, a < 200 → am_okQ a := lt_s (lt_s (lt_s (lt_s (lt_s (lt_s (lt_s (lt_s (lt_s (lt_s (lt_s (lt_s (lt_s (lt_s (lt_s (lt_s (lt_s (lt_s (lt_s (lt_s (lt_s (lt_s (lt_s (lt_s (lt_s (am_okA_175) am_ok_175) am_ok_176) am_ok_177) am_ok_178) am_ok_179) am_ok_180) am_ok_181) am_ok_182) am_ok_183) am_ok_184) am_ok_185) am_ok_186) am_ok_187) am_ok_188) am_ok_189) am_ok_190) am_ok_191) am_ok_192) am_ok_193) am_ok_194) am_ok_195) am_ok_196) am_ok_197) am_ok_198) am_ok_199
theorem am_okA_224 : ∀ a, a < 224 → am_okQ a := lt_s (lt_s (lt_s (lt_s (lt_s (lt_s (lt_s (lt_s (lt_s (lt_s (lt_s (lt_s (lt_s (lt_s (lt_s (lt_s (lt_s (lt_s (lt_s (lt_s (lt_s (lt_s (lt_s (lt_s (am_okA_200) am_ok_200) am_ok_201) am_ok_202) am_ok_203) am_ok_204) am_ok_205) am_ok_206) am_ok_207) am_ok_208) am_ok_209) am_ok_210) am_ok_211) am_ok_212) am_ok_213) am_ok_214) am_ok_215) am_ok_216) am_ok_217) am_ok_218) am_ok_219) am_ok_220) am_ok_221) am_ok_222) am_ok_223
theorem am_okW {M pc : Nat} {i : ClassFile.Instr} {nx a b c : Nat} {k : Int32} {sw : List (Int × Nat)} (h : am_ins M pc = some (i, nx, a, b, c, k, sw)) :
    M < 224 ∧ (∃ n, decode (am_by M) pc = .ok (i, am_ln i n) ∧ nx = pc + am_ln i n) ∧ am_okI (am_ow M) (am_rt M) (am_in M) pc i a b c k sw = true := by
  have hM : M < 224 ∧ pc < am_sz M := by
    unfold am_ins at h
    cases hb : (Nat.blt M 224 && Nat.blt pc (am_sz M)) with
    | false => rw [hb] at h; cases h
    | true =>
      rw [Bool.and_eq_true] at hb
      exact ⟨Nat.le_of_ble_eq_true hb.1, Nat.le_of_ble_eq_true hb.2⟩
  have h1 : (List.range (am_sz M)).all (am_okP M) = true := am_okA_224 M hM.1
  have h2 := List.all_eq_true.mp h1 pc (List.mem_range.mpr hM.2)
  unfold am_okP at h2
  rw [h] at h2
  dsimp only at h2
  rw [Bool.and_eq_true] at h2
  refine ⟨hM.1, ?_, h2.2⟩
  have h3 := h2.1
  unfold am_dec at h3
  split at h3
  · rename_i i' n hd
    rw [Bool.and_eq_true, Bool.and_eq_true, decide_eq_true_eq, decide_eq_true_eq, decide_eq_true_eq] at h3
    exact ⟨n, by rw [hd, ← h3.1.2, h3.1.1], by rw [← h3.1.2]; exact h3.2⟩
  · cases h3
