def aLn (i : Instr) (n : Nat) : Bool := match i with | .tableswitch .. | .lookupswitch .. => true | .bipush _ | .ldc _ | .iload _ | .aload _ | .istore _ | .astore _ | .newarray _ => n == 2 | .sipush _ | .ldc_w _ | .iinc _ _ | .ifCond _ _ | .if_icmp _ _ | .ifnonnull _ | .ifnull _ | .goto _ | .getfield _ | .putfield _ | .getstatic _ | .invokevirtual _ | .invokestatic _ | .invokespecial _ | .new _ | .anewarray _ => n == 3 | _ => n == 1
abbrev aDo (b : ByteArray) (l : List (Nat × Instr × Nat)) : Prop := ∀ e ∈ l, decode b e.1 = .ok (e.2.1, e.2.2) ∧ aLn e.2.1 e.2.2 = true
theorem aDo_cut {b : ByteArray} {l : List (Nat × Instr × Nat)} {n : Nat} (h1 : aDo b (l.take n)) (h2 : aDo b (l.drop n)) : aDo b l := fun e he => by
  rw [← List.take_append_drop n l] at he
  exact (List.mem_append.mp he).elim (h1 e) (h2 e)
theorem aD0 : aDo (aBy 0) aG0 := by decide +kernel
theorem aD1 : aDo (aBy 1) aG1 := by decide +kernel
theorem aD2 : aDo (aBy 2) aG2 := by decide +kernel
theorem aD3 : aDo (aBy 3) aG3 := by decide +kernel
theorem aD4 : aDo (aBy 4) aG4 := by decide +kernel
theorem aD5 : aDo (aBy 5) aG5 := by decide +kernel
theorem aD6 : aDo (aBy 6) aG6 := by decide +kernel
theorem aD7 : aDo (aBy 7) aG7 := by decide +kernel
theorem aD8_0 : aDo (aBy 8) ((aG8).take 60) := by decide +kernel
theorem aD8_60 : aDo (aBy 8) ((aG8).drop 60) := by decide +kernel
theorem aD8 : aDo (aBy 8) aG8 := (aDo_cut aD8_0 aD8_60)
theorem aD9_0 : aDo (aBy 9) ((aG9).take 60) := by decide +kernel
theorem aD9_60 : aDo (aBy 9) ((aG9).drop 60) := by decide +kernel
theorem aD9 : aDo (aBy 9) aG9 := (aDo_cut aD9_0 aD9_60)
theorem aD10_0 : aDo (aBy 10) ((aG10).take 60) := by decide +kernel
theorem aD10_60 : aDo (aBy 10) ((aG10).drop 60) := by decide +kernel
theorem aD10 : aDo (aBy 10) aG10 := (aDo_cut aD10_0 aD10_60)
theorem aD11 : aDo (aBy 11) aG11 := by decide +kernel
theorem aD12 : aDo (aBy 12) aG12 := by decide +kernel
theorem aD13 : aDo (aBy 13) aG13 := by decide +kernel
theorem aD14 : aDo (aBy 14) aG14 := by decide +kernel
theorem aD15 : aDo (aBy 15) aG15 := by decide +kernel
theorem aD16 : aDo (aBy 16) aG16 := by decide +kernel
theorem aD17 : aDo (aBy 17) aG17 := by decide +kernel
theorem aD18 : aDo (aBy 18) aG18 := by decide +kernel
theorem aD19 : aDo (aBy 19) aG19 := by decide +kernel
theorem aD20 : aDo (aBy 20) aG20 := by decide +kernel
theorem aD21 : aDo (aBy 21) aG21 := by decide +kernel
theorem aD22 : aDo (aBy 22) aG22 := by decide +kernel
theorem aD23 : aDo (aBy 23) aG23 := by decide +kernel
theorem aD24 : aDo (aBy 24) aG24 := by decide +kernel
theorem aD25 : aDo (aBy 25) aG25 := by decide +kernel
theorem aD26 : aDo (aBy 26) aG26 := by decide +kernel
theorem aD27_0 : aDo (aBy 27) ((aG27).take 60) := by decide +kernel
theorem aD27_60 : aDo (aBy 27) ((aG27).drop 60) := by decide +kernel
theorem aD27 : aDo (aBy 27) aG27 := (aDo_cut aD27_0 aD27_60)
theorem aD28 : aDo (aBy 28) aG28 := by decide +kernel
theorem aD29 : aDo (aBy 29) aG29 := by decide +kernel
theorem aD30 : aDo (aBy 30) aG30 := by decide +kernel
theorem aD31 : aDo (aBy 31) aG31 := by decide +kernel
theorem aD32 : aDo (aBy 32) aG32 := by decide +kernel
theorem aD33 : aDo (aBy 33) aG33 := by decide +kernel
theorem aD34 : aDo (aBy 34) aG34 := by decide +kernel
theorem aD35 : aDo (aBy 35) aG35 := by decide +kernel
theorem aD36 : aDo (aBy 36) aG36 := by decide +kernel
theorem aD37 : aDo (aBy 37) aG37 := by decide +kernel
theorem aD38 : aDo (aBy 38) aG38 := by decide +kernel
theorem aD39 : aDo (aBy 39) aG39 := by decide +kernel
theorem aD40 : aDo (aBy 40) aG40 := by decide +kernel
theorem aD41_0 : aDo (aBy 41) ((aG41).take 60) := by decide +kernel
theorem aD41_60 : aDo (aBy 41) ((aG41).drop 60) := by decide +kernel
theorem aD41 : aDo (aBy 41) aG41 := (aDo_cut aD41_0 aD41_60)
theorem aD42 : aDo (aBy 42) aG42 := by decide +kernel
theorem aD43 : aDo (aBy 43) aG43 := by decide +kernel
theorem aD44_0 : aDo (aBy 44) ((aG44).take 60) := by decide +kernel
theorem aD44_60 : aDo (aBy 44) ((aG44).drop 60) := by decide +kernel
theorem aD44 : aDo (aBy 44) aG44 := (aDo_cut aD44_0 aD44_60)
theorem aD45 : aDo (aBy 45) aG45 := by decide +kernel
theorem aD46 : aDo (aBy 46) aG46 := by decide +kernel
theorem aD47 : aDo (aBy 47) aG47 := by decide +kernel
theorem aD48 : aDo (aBy 48) aG48 := by decide +kernel
theorem aD49 : aDo (aBy 49) aG49 := by decide +kernel
theorem aD50 : aDo (aBy 50) aG50 := by decide +kernel
theorem aD51_0 : aDo (aBy 51) ((aG51).take 60) := by decide +kernel
theorem aD51_60 : aDo (aBy 51) ((aG51).drop 60) := by decide +kernel
theorem aD51 : aDo (aBy 51) aG51 := (aDo_cut aD51_0 aD51_60)
theorem aD52 : aDo (aBy 52) aG52 := by decide +kernel
theorem aD53 : aDo (aBy 53) aG53 := by decide +kernel
theorem aD54 : aDo (aBy 54) aG54 := by decide +kernel
theorem aD55 : aDo (aBy 55) aG55 := by decide +kernel
theorem aD56 : aDo (aBy 56) aG56 := by decide +kernel
theorem aD57 : aDo (aBy 57) aG57 := by decide +kernel
theorem aD58 : aDo (aBy 58) aG58 := by decide +kernel
theorem aD59 : aDo (aBy 59) aG59 := by decide +kernel
theorem aD60 : aDo (aBy 60) aG60 := by decide +kernel
theorem aD61 : aDo (aBy 61) aG61 := by decide +kernel
theorem aD62 : aDo (aBy 62) aG62 := by decide +kernel
theorem aD63 : aDo (aBy 63) aG63 := by decide +kernel
theorem aD64 : aDo (aBy 64) aG64 := by decide +kernel
theorem aD65 : aDo (aBy 65) aG65 := by decide +kernel
theorem aD66 : aDo (aBy 66) aG66 := by decide +kernel
theorem aD67_0 : aDo (aBy 67) ((aG67).take 60) := by decide +kernel
theorem aD67_60 : aDo (aBy 67) ((aG67).drop 60) := by decide +kernel
theorem aD67 : aDo (aBy 67) aG67 := (aDo_cut aD67_0 aD67_60)
theorem aD68 : aDo (aBy 68) aG68 := by decide +kernel
theorem aD69 : aDo (aBy 69) aG69 := by decide +kernel
theorem aD70 : aDo (aBy 70) aG70 := by decide +kernel
theorem aD71 : aDo (aBy 71) aG71 := by decide +kernel
theorem aD72 : aDo (aBy 72) aG72 := by decide +kernel
theorem aD73 : aDo (aBy 73) aG73 := by decide +kernel
theorem aD74 : aDo (aBy 74) aG74 := by decide +kernel
theorem aD75 : aDo (aBy 75) aG75 := by decide +kernel
theorem aD76_0 : aDo (aBy 76) ((aG76).take 60) := by decide +kernel
theorem aD76_60 : aDo (aBy 76) ((aG76).drop 60) := by decide +kernel
theorem aD76 : aDo (aBy 76) aG76 := (aDo_cut aD76_0 aD76_60)
theorem aD77 : aDo (aBy 77) aG77 := by decide +kernel
theorem aD78 : aDo (aBy 78) aG78 := by decide +kernel
theorem aD79 : aDo (aBy 79) aG79 := by decide +kernel
theorem aD80 : aDo (aBy 80) aG80 := by decide +kernel
theorem aD81 : aDo (aBy 81) aG81 := by decide +kernel
theorem aD82 : aDo (aBy 82) aG82 := by decide +kernel
theorem aD83 : aDo (aBy 83) aG83 := by decide +kernel
theorem aD84 : aDo (aBy 84) aG84 := by decide +kernel
theorem aD85 : aDo (aBy 85) aG85 := by decide +kernel
theorem aD86 : aDo (aBy 86) aG86 := by decide +kernel
theorem aD87 : aDo (aBy 87) aG87 := by decide +kernel
theorem aD88 : aDo (aBy 88) aG88 := by decide +kernel
theorem aD89 : aDo (aBy 89) aG89 := by decide +kernel
theorem aD90 : aDo (aBy 90) aG90 := by decide +kernel
theorem aD91 : aDo (aBy 91) aG91 := by decide +kernel
theorem aD92 : aDo (aBy 92) aG92 := by decide +kernel
theorem aD93 : aDo (aBy 93) aG93 := by decide +kernel
theorem aD94 : aDo (aBy 94) aG94 := by decide +kernel
theorem aD95 : aDo (aBy 95) aG95 := by decide +kernel
theorem aD96 : aDo (aBy 96) aG96 := by decide +kernel
theorem aD97 : aDo (aBy 97) aG97 := by decide +kernel
theorem aD98 : aDo (aBy 98) aG98 := by decide +kernel
theorem aD99 : aDo (aBy 99) aG99 := by decide +kernel
theorem aD100_0 : aDo (aBy 100) ((aG100).take 60) := by decide +kernel
theorem aD100_60 : aDo (aBy 100) ((aG100).drop 60) := by decide +kernel
theorem aD100 : aDo (aBy 100) aG100 := (aDo_cut aD100_0 aD100_60)
theorem aD101_0 : aDo (aBy 101) ((aG101).take 60) := by decide +kernel
theorem aD101_60 : aDo (aBy 101) ((aG101).drop 60) := by decide +kernel
theorem aD101 : aDo (aBy 101) aG101 := (aDo_cut aD101_0 aD101_60)
theorem aD102 : aDo (aBy 102) aG102 := by decide +kernel
theorem aD103 : aDo (aBy 103) aG103 := by decide +kernel
theorem aD104 : aDo (aBy 104) aG104 := by decide +kernel
theorem aD105 : aDo (aBy 105) aG105 := by decide +kernel
theorem aD106 : aDo (aBy 106) aG106 := by decide +kernel
theorem aD107 : aDo (aBy 107) aG107 := by decide +kernel
theorem aD108 : aDo (aBy 108) aG108 := by decide +kernel
theorem aD109 : aDo (aBy 109) aG109 := by decide +kernel
theorem aD110 : aDo (aBy 110) aG110 := by decide +kernel
theorem aD111 : aDo (aBy 111) aG111 := by decide +kernel
theorem aD112 : aDo (aBy 112) aG112 := by decide +kernel
theorem aD113_0 : aDo (aBy 113) ((aG113).take 60) := by decide +kernel
theorem aD113_60 : aDo (aBy 113) ((aG113).drop 60) := by decide +kernel
theorem aD113 : aDo (aBy 113) aG113 := (aDo_cut aD113_0 aD113_60)
theorem aD114 : aDo (aBy 114) aG114 := by decide +kernel
theorem aD115 : aDo (aBy 115) aG115 := by decide +kernel
theorem aD116 : aDo (aBy 116) aG116 := by decide +kernel
theorem aD117 : aDo (aBy 117) aG117 := by decide +kernel
theorem aD118_0 : aDo (aBy 118) ((aG118).take 60) := by decide +kernel
theorem aD118_60 : aDo (aBy 118) ((aG118).drop 60) := by decide +kernel
theorem aD118 : aDo (aBy 118) aG118 := (aDo_cut aD118_0 aD118_60)
theorem aD119 : aDo (aBy 119) aG119 := by decide +kernel
theorem aD120 : aDo (aBy 120) aG120 := by decide +kernel
theorem aD121 : aDo (aBy 121) aG121 := by decide +kernel
theorem aD122 : aDo (aBy 122) aG122 := by decide +kernel
theorem aD123 : aDo (aBy 123) aG123 := by decide +kernel
theorem aD124 : aDo (aBy 124) aG124 := by decide +kernel
theorem aD125 : aDo (aBy 125) aG125 := by decide +kernel
theorem aD126 : aDo (aBy 126) aG126 := by decide +kernel
theorem aD127 : aDo (aBy 127) aG127 := by decide +kernel
theorem aD128 : aDo (aBy 128) aG128 := by decide +kernel
theorem aD129 : aDo (aBy 129) aG129 := by decide +kernel
theorem aD130 : aDo (aBy 130) aG130 := by decide +kernel
theorem aD131 : aDo (aBy 131) aG131 := by decide +kernel
theorem aD132 : aDo (aBy 132) aG132 := by decide +kernel
theorem aD133 : aDo (aBy 133) aG133 := by decide +kernel
theorem aD134_0 : aDo (aBy 134) ((aG134).take 60) := by decide +kernel
theorem aD134_60 : aDo (aBy 134) (((aG134).drop 60).take 60) := by decide +kernel
theorem aD134_120 : aDo (aBy 134) (((aG134).drop 60).drop 60) := by decide +kernel
theorem aD134 : aDo (aBy 134) aG134 := (aDo_cut aD134_0 (aDo_cut aD134_60 aD134_120))
theorem aD135 : aDo (aBy 135) aG135 := by decide +kernel
theorem aD136 : aDo (aBy 136) aG136 := by decide +kernel
theorem aD137 : aDo (aBy 137) aG137 := by decide +kernel
theorem aD138 : aDo (aBy 138) aG138 := by decide +kernel
theorem aD139 : aDo (aBy 139) aG139 := by decide +kernel
theorem aD140 : aDo (aBy 140) aG140 := by decide +kernel
theorem aD141 : aDo (aBy 141) aG141 := by decide +kernel
theorem aD142 : aDo (aBy 142) aG142 := by decide +kernel
theorem aD143 : aDo (aBy 143) aG143 := by decide +kernel
theorem aD144 : aDo (aBy 144) aG144 := by decide +kernel
theorem aD145 : aDo (aBy 145) aG145 := by decide +kernel
theorem aD146 : aDo (aBy 146) aG146 := by decide +kernel
theorem aD147 : aDo (aBy 147) aG147 := by decide +kernel
theorem aD148_0 : aDo (aBy 148) ((aG148).take 60) := by decide +kernel
theorem aD148_60 : aDo (aBy 148) ((aG148).drop 60) := by decide +kernel
theorem aD148 : aDo (aBy 148) aG148 := (aDo_cut aD148_0 aD148_60)
theorem aD149 : aDo (aBy 149) aG149 := by decide +kernel
theorem aD150 : aDo (aBy 150) aG150 := by decide +kernel
theorem aD151 : aDo (aBy 151) aG151 := by decide +kernel
theorem aD152 : aDo (aBy 152) aG152 := by decide +kernel
theorem aD153 : aDo (aBy 153) aG153 := by decide +kernel
theorem aD154 : aDo (aBy 154) aG154 := by decide +kernel
theorem aD155 : aDo (aBy 155) aG155 := by decide +kernel
theorem aD156 : aDo (aBy 156) aG156 := by decide +kernel
theorem aD157 : aDo (aBy 157) aG157 := by decide +kernel
theorem aD158 : aDo (aBy 158) aG158 := by decide +kernel
theorem aD159 : aDo (aBy 159) aG159 := by decide +kernel
theorem aD160 : aDo (aBy 160) aG160 := by decide +kernel
theorem aD161 : aDo (aBy 161) aG161 := by decide +kernel
theorem aD162_0 : aDo (aBy 162) ((aG162).take 60) := by decide +kernel
theorem aD162_60 : aDo (aBy 162) ((aG162).drop 60) := by decide +kernel
theorem aD162 : aDo (aBy 162) aG162 := (aDo_cut aD162_0 aD162_60)
theorem aD163 : aDo (aBy 163) aG163 := by decide +kernel
theorem aD164 : aDo (aBy 164) aG164 := by decide +kernel
theorem aD165 : aDo (aBy 165) aG165 := by decide +kernel
theorem aD166 : aDo (aBy 166) aG166 := by decide +kernel
theorem aD167 : aDo (aBy 167) aG167 := by decide +kernel
theorem aD168 : aDo (aBy 168) aG168 := by decide +kernel
theorem aD169 : aDo (aBy 169) aG169 := by decide +kernel
theorem aD170 : aDo (aBy 170) aG170 := by decide +kernel
theorem aD171 : aDo (aBy 171) aG171 := by decide +kernel
theorem aD172 : aDo (aBy 172) aG172 := by decide +kernel
theorem aD173 : aDo (aBy 173) aG173 := by decide +kernel
theorem aD174 : aDo (aBy 174) aG174 := by decide +kernel
theorem aD175 : aDo (aBy 175) aG175 := by decide +kernel
theorem aD176 : aDo (aBy 176) aG176 := by decide +kernel
theorem aD177 : aDo (aBy 177) aG177 := by decide +kernel
theorem aD178 : aDo (aBy 178) aG178 := by decide +kernel
theorem aD179 : aDo (aBy 179) aG179 := by decide +kernel
theorem aD180 : aDo (aBy 180) aG180 := by decide +kernel
theorem aD181 : aDo (aBy 181) aG181 := by decide +kernel
theorem aD182 : aDo (aBy 182) aG182 := by decide +kernel
theorem aD183 : aDo (aBy 183) aG183 := by decide +kernel
theorem aD184 : aDo (aBy 184) aG184 := by decide +kernel
theorem aD185 : aDo (aBy 185) aG185 := by decide +kernel
theorem aD186 : aDo (aBy 186) aG186 := by decide +kernel
theorem aD187 : aDo (aBy 187) aG187 := by decide +kernel
theorem aD188 : aDo (aBy 188) aG188 := by decide +kernel
theorem aD189 : aDo (aBy 189) aG189 := by decide +kernel
theorem aD190 : aDo (aBy 190) aG190 := by decide +kernel
theorem aD191 : aDo (aBy 191) aG191 := by decide +kernel
theorem aD192_0 : aDo (aBy 192) ((aG192).take 60) := by decide +kernel
theorem aD192_60 : aDo (aBy 192) ((aG192).drop 60) := by decide +kernel
theorem aD192 : aDo (aBy 192) aG192 := (aDo_cut aD192_0 aD192_60)
theorem aD193 : aDo (aBy 193) aG193 := by decide +kernel
theorem aD194 : aDo (aBy 194) aG194 := by decide +kernel
theorem aD195_0 : aDo (aBy 195) ((aG195).take 60) := by decide +kernel
theorem aD195_60 : aDo (aBy 195) ((aG195).drop 60) := by decide +kernel
theorem aD195 : aDo (aBy 195) aG195 := (aDo_cut aD195_0 aD195_60)
theorem aD196 : aDo (aBy 196) aG196 := by decide +kernel
theorem aD197 : aDo (aBy 197) aG197 := by decide +kernel
theorem aD198 : aDo (aBy 198) aG198 := by decide +kernel
theorem aD199 : aDo (aBy 199) aG199 := by decide +kernel
theorem aD200_0 : aDo (aBy 200) ((aG200).take 60) := by decide +kernel
theorem aD200_60 : aDo (aBy 200) ((aG200).drop 60) := by decide +kernel
theorem aD200 : aDo (aBy 200) aG200 := (aDo_cut aD200_0 aD200_60)
theorem aD201_0 : aDo (aBy 201) ((aG201).take 60) := by decide +kernel
theorem aD201_60 : aDo (aBy 201) ((aG201).drop 60) := by decide +kernel
theorem aD201 : aDo (aBy 201) aG201 := (aDo_cut aD201_0 aD201_60)
theorem aD202 : aDo (aBy 202) aG202 := by decide +kernel
theorem aD203 : aDo (aBy 203) aG203 := by decide +kernel
theorem aD204 : aDo (aBy 204) aG204 := by decide +kernel
theorem aD205 : aDo (aBy 205) aG205 := by decide +kernel
theorem aD206 : aDo (aBy 206) aG206 := by decide +kernel
theorem aD207_0 : aDo (aBy 207) ((aG207).take 60) := by decide +kernel
theorem aD207_60 : aDo (aBy 207) (((aG207).drop 60).take 60) := by decide +kernel
theorem aD207_120 : aDo (aBy 207) (((aG207).drop 60).drop 60) := by decide +kernel
theorem aD207 : aDo (aBy 207) aG207 := (aDo_cut aD207_0 (aDo_cut aD207_60 aD207_120))
theorem aD208_0 : aDo (aBy 208) ((aG208).take 60) := by decide +kernel
theorem aD208_60 : aDo (aBy 208) ((aG208).drop 60) := by decide +kernel
theorem aD208 : aDo (aBy 208) aG208 := (aDo_cut aD208_0 aD208_60)
theorem aD209 : aDo (aBy 209) aG209 := by decide +kernel
theorem aD210 : aDo (aBy 210) aG210 := by decide +kernel
theorem aD211 : aDo (aBy 211) aG211 := by decide +kernel
theorem aD212 : aDo (aBy 212) aG212 := by decide +kernel
theorem aD213_0 : aDo (aBy 213) ((aG213).take 60) := by decide +kernel
theorem aD213_60 : aDo (aBy 213) ((aG213).drop 60) := by decide +kernel
theorem aD213 : aDo (aBy 213) aG213 := (aDo_cut aD213_0 aD213_60)
theorem aD214_0 : aDo (aBy 214) ((aG214).take 60) := by decide +kernel
theorem aD214_60 : aDo (aBy 214) (((aG214).drop 60).take 60) := by decide +kernel
theorem aD214_120 : aDo (aBy 214) ((((aG214).drop 60).drop 60).take 60) := by decide +kernel
theorem aD214_180 : aDo (aBy 214) ((((aG214).drop 60).drop 60).drop 60) := by decide +kernel
theorem aD214 : aDo (aBy 214) aG214 := (aDo_cut aD214_0 (aDo_cut aD214_60 (aDo_cut aD214_120 aD214_180)))
theorem aD215 : aDo (aBy 215) aG215 := by decide +kernel
theorem aD216_0 : aDo (aBy 216) ((aG216).take 60) := by decide +kernel
theorem aD216_60 : aDo (aBy 216) ((aG216).drop 60) := by decide +kernel
theorem aD216 : aDo (aBy 216) aG216 := (aDo_cut aD216_0 aD216_60)
theorem aD217 : aDo (aBy 217) aG217 := by decide +kernel
theorem aD218 : aDo (aBy 218) aG218 := by decide +kernel
theorem aD219 : aDo (aBy 219) aG219 := by decide +kernel
theorem aD220 : aDo (aBy 220) aG220 := by decide +kernel
theorem aD221_0 : aDo (aBy 221) ((aG221).take 60) := by decide +kernel
theorem aD221_60 : aDo (aBy 221) ((aG221).drop 60) := by decide +kernel
theorem aD221 : aDo (aBy 221) aG221 := (aDo_cut aD221_0 aD221_60)
theorem aD222 : aDo (aBy 222) aG222 := by decide +kernel
theorem aD223 : aDo (aBy 223) aG223 := by decide +kernel
theorem aD224 : aDo (aBy 224) aG224 := by decide +kernel
theorem aD225_0 : aDo (aBy 225) ((aG225).take 60) := by decide +kernel
theorem aD225_60 : aDo (aBy 225) ((aG225).drop 60) := by decide +kernel
theorem aD225 : aDo (aBy 225) aG225 := (aDo_cut aD225_0 aD225_60)
theorem aD226_0 : aDo (aBy 226) ((aG226).take 60) := by decide +kernel
theorem aD226_60 : aDo (aBy 226) ((aG226).drop 60) := by decide +kernel
theorem aD226 : aDo (aBy 226) aG226 := (aDo_cut aD226_0 aD226_60)
theorem aD227 : aDo (aBy 227) aG227 := by decide +kernel
theorem aD228_0 : aDo (aBy 228) ((aG228).take 60) := by decide +kernel
theorem aD228_60 : aDo (aBy 228) ((aG228).drop 60) := by decide +kernel
theorem aD228 : aDo (aBy 228) aG228 := (aDo_cut aD228_0 aD228_60)
theorem aD229_0 : aDo (aBy 229) ((aG229).take 60) := by decide +kernel
theorem aD229_60 : aDo (aBy 229) ((aG229).drop 60) := by decide +kernel
theorem aD229 : aDo (aBy 229) aG229 := (aDo_cut aD229_0 aD229_60)
theorem aD230 : aDo (aBy 230) aG230 := by decide +kernel
theorem aD231 : aDo (aBy 231) aG231 := by decide +kernel
theorem aD232 : aDo (aBy 232) aG232 := by decide +kernel
theorem aD233 : aDo (aBy 233) aG233 := by decide +kernel
theorem aD234_0 : aDo (aBy 234) ((aG234).take 60) := by decide +kernel
theorem aD234_60 : aDo (aBy 234) ((aG234).drop 60) := by decide +kernel
theorem aD234 : aDo (aBy 234) aG234 := (aDo_cut aD234_0 aD234_60)
theorem aD235 : aDo (aBy 235) aG235 := by decide +kernel
theorem aD236 : aDo (aBy 236) aG236 := by decide +kernel
theorem aD237 : aDo (aBy 237) aG237 := by decide +kernel
theorem aD238 : aDo (aBy 238) aG238 := by decide +kernel
theorem aD239 : aDo (aBy 239) aG239 := by decide +kernel
theorem aD240 : aDo (aBy 240) aG240 := by decide +kernel
theorem aD241 : aDo (aBy 241) aG241 := by decide +kernel
theorem aD242 : aDo (aBy 242) aG242 := by decide +kernel
theorem aD243 : aDo (aBy 243) aG243 := by decide +kernel
theorem aD244 : aDo (aBy 244) aG244 := by decide +kernel
theorem aD245 : aDo (aBy 245) aG245 := by decide +kernel
theorem aD246 : aDo (aBy 246) aG246 := by decide +kernel
theorem aD247 : aDo (aBy 247) aG247 := by decide +kernel
theorem aD248 : aDo (aBy 248) aG248 := by decide +kernel
theorem aD249 : aDo (aBy 249) aG249 := by decide +kernel
theorem aD250 : aDo (aBy 250) aG250 := by decide +kernel
theorem aD251_0 : aDo (aBy 251) ((aG251).take 60) := by decide +kernel
theorem aD251_60 : aDo (aBy 251) (((aG251).drop 60).take 60) := by decide +kernel
theorem aD251_120 : aDo (aBy 251) ((((aG251).drop 60).drop 60).take 60) := by decide +kernel
theorem aD251_180 : aDo (aBy 251) (((((aG251).drop 60).drop 60).drop 60).take 60) := by decide +kernel
theorem aD251_240 : aDo (aBy 251) ((((((aG251).drop 60).drop 60).drop 60).drop 60).take 60) := by decide +kernel
theorem aD251_300 : aDo (aBy 251) (((((((aG251).drop 60).drop 60).drop 60).drop 60).drop 60).take 60) := by decide +kernel
theorem aD251_360 : aDo (aBy 251) ((((((((aG251).drop 60).drop 60).drop 60).drop 60).drop 60).drop 60).take 60) := by decide +kernel
theorem aD251_420 : aDo (aBy 251) (((((((((aG251).drop 60).drop 60).drop 60).drop 60).drop 60).drop 60).drop 60).take 60) := by decide +kernel
theorem aD251_480 : aDo (aBy 251) ((((((((((aG251).drop 60).drop 60).drop 60).drop 60).drop 60).drop 60).drop 60).drop 60).take 60) := by decide +kernel
theorem aD251_540 : aDo (aBy 251) (((((((((((aG251).drop 60).drop 60).drop 60).drop 60).drop 60).drop 60).drop 60).drop 60).drop 60).take 60) := by decide +kernel
theorem aD251_600 : aDo (aBy 251) ((((((((((((aG251).drop 60).drop 60).drop 60).drop 60).drop 60).drop 60).drop 60).drop 60).drop 60).drop 60).take 60) := by decide +kernel
theorem aD251_660 : aDo (aBy 251) (((((((((((((aG251).drop 60).drop 60).drop 60).drop 60).drop 60).drop 60).drop 60).drop 60).drop 60).drop 60).drop 60).take 60) := by decide +kernel
theorem aD251_720 : aDo (aBy 251) ((((((((((((((aG251).drop 60).drop 60).drop 60).drop 60).drop 60).drop 60).drop 60).drop 60).drop 60).drop 60).drop 60).drop 60).take 60) := by decide +kernel
theorem aD251_780 : aDo (aBy 251) (((((((((((((((aG251).drop 60).drop 60).drop 60).drop 60).drop 60).drop 60).drop 60).drop 60).drop 60).drop 60).drop 60).drop 60).drop 60).take 60) := by decide +kernel
theorem aD251_840 : aDo (aBy 251) ((((((((((((((((aG251).drop 60).drop 60).drop 60).drop 60).drop 60).drop 60).drop 60).drop 60).drop 60).drop 60).drop 60).drop 60).drop 60).drop 60).take 60) := by decide +kernel
theorem aD251_900 : aDo (aBy 251) (((((((((((((((((aG251).drop 60).drop 60).drop 60).drop 60).drop 60).drop 60).drop 60).drop 60).drop 60).drop 60).drop 60).drop 60).drop 60).drop 60).drop 60).take 60) := by decide +kernel
theorem aD251_960 : aDo (aBy 251) ((((((((((((((((((aG251).drop 60).drop 60).drop 60).drop 60).drop 60).drop 60).drop 60).drop 60).drop 60).drop 60).drop 60).drop 60).drop 60).drop 60).drop 60).drop 60).take 60) := by decide +kernel
theorem aD251_1020 : aDo (aBy 251) ((((((((((((((((((aG251).drop 60).drop 60).drop 60).drop 60).drop 60).drop 60).drop 60).drop 60).drop 60).drop 60).drop 60).drop 60).drop 60).drop 60).drop 60).drop 60).drop 60) := by decide +kernel
theorem aD251 : aDo (aBy 251) aG251 := (aDo_cut aD251_0 (aDo_cut aD251_60 (aDo_cut aD251_120 (aDo_cut aD251_180 (aDo_cut aD251_240 (aDo_cut aD251_300 (aDo_cut aD251_360 (aDo_cut aD251_420 (aDo_cut aD251_480 (aDo_cut aD251_540 (aDo_cut aD251_600 (aDo_cut aD251_660 (aDo_cut aD251_720 (aDo_cut aD251_780 (aDo_cut aD251_840 (aDo_cut aD251_900 (aDo_cut aD251_960 aD251_1020)))))))))))))))))
theorem aD_nil : ∀ x ∈ ([] : List (ByteArray × List (Nat × Instr × Nat))), aDo x.1 x.2 := fun _ h => absurd h List.not_mem_nil
theorem aD_cons {b : ByteArray} {l : List (Nat × Instr × Nat)} {r : List (ByteArray × List (Nat × Instr × Nat))} (h : aDo b l) (hr : ∀ x ∈ r, aDo x.1 x.2) : ∀ x ∈ (b, l) :: r, aDo x.1 x.2 := List.forall_mem_cons.mpr ⟨h, hr⟩
theorem aDa0 : ∀ x ∈ [(aBy 0, aG0), (aBy 1, aG1), (aBy 2, aG2), (aBy 3, aG3), (aBy 4, aG4), (aBy 5, aG5), (aBy 6, aG6), (aBy 7, aG7), (aBy 8, aG8), (aBy 9, aG9), (aBy 10, aG10), (aBy 11, aG11), (aBy 12, aG12), (aBy 13, aG13), (aBy 14, aG14), (aBy 15, aG15), (aBy 16, aG16), (aBy 17, aG17), (aBy 18, aG18), (aBy 19, aG19), (aBy 20, aG20), (aBy 21, aG21), (aBy 22, aG22), (aBy 23, aG23), (aBy 24, aG24), (aBy 25, aG25), (aBy 26, aG26), (aBy 27, aG27), (aBy 28, aG28), (aBy 29, aG29), (aBy 30, aG30), (aBy 31, aG31), (aBy 32, aG32), (aBy 33, aG33), (aBy 34, aG34), (aBy 35, aG35), (aBy 36, aG36), (aBy 37, aG37), (aBy 38, aG38), (aBy 39, aG39)], aDo x.1 x.2 := aD_cons aD0 (aD_cons aD1 (aD_cons aD2 (aD_cons aD3 (aD_cons aD4 (aD_cons aD5 (aD_cons aD6 (aD_cons aD7 (aD_cons aD8 (aD_cons aD9 (aD_cons aD10 (aD_cons aD11 (aD_cons aD12 (aD_cons aD13 (aD_cons aD14 (aD_cons aD15 (aD_cons aD16 (aD_cons aD17 (aD_cons aD18 (aD_cons aD19 (aD_cons aD20 (aD_cons aD21 (aD_cons aD22 (aD_cons aD23 (aD_cons aD24 (aD_cons aD25 (aD_cons aD26 (aD_cons aD27 (aD_cons aD28 (aD_cons aD29 (aD_cons aD30 (aD_cons aD31 (aD_cons aD32 (aD_cons aD33 (aD_cons aD34 (aD_cons aD35 (aD_cons aD36 (aD_cons aD37 (aD_cons aD38 (aD_cons aD39 (aD_nil))))))))))))))))))))))))))))))))))))))))
theorem aDa40 : ∀ x ∈ [(aBy 40, aG40), (aBy 41, aG41), (aBy 42, aG42), (aBy 43, aG43), (aBy 44, aG44), (aBy 45, aG45), (aBy 46, aG46), (aBy 47, aG47), (aBy 48, aG48), (aBy 49, aG49), (aBy 50, aG50), (aBy 51, aG51), (aBy 52, aG52), (aBy 53, aG53), (aBy 54, aG54), (aBy 55, aG55), (aBy 56, aG56), (aBy 57, aG57), (aBy 58, aG58), (aBy 59, aG59), (aBy 60, aG60), (aBy 61, aG61), (aBy 62, aG62), (aBy 63, aG63), (aBy 64, aG64), (aBy 65, aG65), (aBy 66, aG66), (aBy 67, aG67), (aBy 68, aG68), (aBy 69, aG69), (aBy 70, aG70), (aBy 71, aG71), (aBy 72, aG72), (aBy 73, aG73), (aBy 74, aG74), (aBy 75, aG75), (aBy 76, aG76), (aBy 77, aG77), (aBy 78, aG78), (aBy 79, aG79)], aDo x.1 x.2 := aD_cons aD40 (aD_cons aD41 (aD_cons aD42 (aD_cons aD43 (aD_cons aD44 (aD_cons aD45 (aD_cons aD46 (aD_cons aD47 (aD_cons aD48 (aD_cons aD49 (aD_cons aD50 (aD_cons aD51 (aD_cons aD52 (aD_cons aD53 (aD_cons aD54 (aD_cons aD55 (aD_cons aD56 (aD_cons aD57 (aD_cons aD58 (aD_cons aD59 (aD_cons aD60 (aD_cons aD61 (aD_cons aD62 (aD_cons aD63 (aD_cons aD64 (aD_cons aD65 (aD_cons aD66 (aD_cons aD67 (aD_cons aD68 (aD_cons aD69 (aD_cons aD70 (aD_cons aD71 (aD_cons aD72 (aD_cons aD73 (aD_cons aD74 (aD_cons aD75 (aD_cons aD76 (aD_cons aD77 (aD_cons aD78 (aD_cons aD79 (aD_nil))))))))))))))))))))))))))))))))))))))))
theorem aDa80 : ∀ x ∈ [(aBy 80, aG80), (aBy 81, aG81), (aBy 82, aG82), (aBy 83, aG83), (aBy 84, aG84), (aBy 85, aG85), (aBy 86, aG86), (aBy 87, aG87), (aBy 88, aG88), (aBy 89, aG89), (aBy 90, aG90), (aBy 91, aG91), (aBy 92, aG92), (aBy 93, aG93), (aBy 94, aG94), (aBy 95, aG95), (aBy 96, aG96), (aBy 97, aG97), (aBy 98, aG98), (aBy 99, aG99), (aBy 100, aG100), (aBy 101, aG101), (aBy 102, aG102), (aBy 103, aG103), (aBy 104, aG104), (aBy 105, aG105), (aBy 106, aG106), (aBy 107, aG107), (aBy 108, aG108), (aBy 109, aG109), (aBy 110, aG110), (aBy 111, aG111), (aBy 112, aG112), (aBy 113, aG113), (aBy 114, aG114), (aBy 115, aG115), (aBy 116, aG116), (aBy 117, aG117), (aBy 118, aG118), (aBy 119, aG119)], aDo x.1 x.2 := aD_cons aD80 (aD_cons aD81 (aD_cons aD82 (aD_cons aD83 (aD_cons aD84 (aD_cons aD85 (aD_cons aD86 (aD_cons aD87 (aD_cons aD88 (aD_cons aD89 (aD_cons aD90 (aD_cons aD91 (aD_cons aD92 (aD_cons aD93 (aD_cons aD94 (aD_cons aD95 (aD_cons aD96 (aD_cons aD97 (aD_cons aD98 (aD_cons aD99 (aD_cons aD100 (aD_cons aD101 (aD_cons aD102 (aD_cons aD103 (aD_cons aD104 (aD_cons aD105 (aD_cons aD106 (aD_cons aD107 (aD_cons aD108 (aD_cons aD109 (aD_cons aD110 (aD_cons aD111 (aD_cons aD112 (aD_cons aD113 (aD_cons aD114 (aD_cons aD115 (aD_cons aD116 (aD_cons aD117 (aD_cons aD118 (aD_cons aD119 (aD_nil))))))))))))))))))))))))))))))))))))))))
theorem aDa120 : ∀ x ∈ [(aBy 120, aG120), (aBy 121, aG121), (aBy 122, aG122), (aBy 123, aG123), (aBy 124, aG124), (aBy 125, aG125), (aBy 126, aG126), (aBy 127, aG127), (aBy 128, aG128), (aBy 129, aG129), (aBy 130, aG130), (aBy 131, aG131), (aBy 132, aG132), (aBy 133, aG133), (aBy 134, aG134), (aBy 135, aG135), (aBy 136, aG136), (aBy 137, aG137), (aBy 138, aG138), (aBy 139, aG139), (aBy 140, aG140), (aBy 141, aG141), (aBy 142, aG142), (aBy 143, aG143), (aBy 144, aG144), (aBy 145, aG145), (aBy 146, aG146), (aBy 147, aG147), (aBy 148, aG148), (aBy 149, aG149), (aBy 150, aG150), (aBy 151, aG151), (aBy 152, aG152), (aBy 153, aG153), (aBy 154, aG154), (aBy 155, aG155), (aBy 156, aG156), (aBy 157, aG157), (aBy 158, aG158), (aBy 159, aG159)], aDo x.1 x.2 := aD_cons aD120 (aD_cons aD121 (aD_cons aD122 (aD_cons aD123 (aD_cons aD124 (aD_cons aD125 (aD_cons aD126 (aD_cons aD127 (aD_cons aD128 (aD_cons aD129 (aD_cons aD130 (aD_cons aD131 (aD_cons aD132 (aD_cons aD133 (aD_cons aD134 (aD_cons aD135 (aD_cons aD136 (aD_cons aD137 (aD_cons aD138 (aD_cons aD139 (aD_cons aD140 (aD_cons aD141 (aD_cons aD142 (aD_cons aD143 (aD_cons aD144 (aD_cons aD145 (aD_cons aD146 (aD_cons aD147 (aD_cons aD148 (aD_cons aD149 (aD_cons aD150 (aD_cons aD151 (aD_cons aD152 (aD_cons aD153 (aD_cons aD154 (aD_cons aD155 (aD_cons aD156 (aD_cons aD157 (aD_cons aD158 (aD_cons aD159 (aD_nil))))))))))))))))))))))))))))))))))))))))
theorem aDa160 : ∀ x ∈ [(aBy 160, aG160), (aBy 161, aG161), (aBy 162, aG162), (aBy 163, aG163), (aBy 164, aG164), (aBy 165, aG165), (aBy 166, aG166), (aBy 167, aG167), (aBy 168, aG168), (aBy 169, aG169), (aBy 170, aG170), (aBy 171, aG171), (aBy 172, aG172), (aBy 173, aG173), (aBy 174, aG174), (aBy 175, aG175), (aBy 176, aG176), (aBy 177, aG177), (aBy 178, aG178), (aBy 179, aG179), (aBy 180, aG180), (aBy 181, aG181), (aBy 182, aG182), (aBy 183, aG183), (aBy 184, aG184), (aBy 185, aG185), (aBy 186, aG186), (aBy 187, aG187), (aBy 188, aG188), (aBy 189, aG189), (aBy 190, aG190), (aBy 191, aG191), (aBy 192, aG192), (aBy 193, aG193), (aBy 194, aG194), (aBy 195, aG195), (aBy 196, aG196), (aBy 197, aG197), (aBy 198, aG198), (aBy 199, aG199)], aDo x.1 x.2 := aD_cons aD160 (aD_cons aD161 (aD_cons aD162 (aD_cons aD163 (aD_cons aD164 (aD_cons aD165 (aD_cons aD166 (aD_cons aD167 (aD_cons aD168 (aD_cons aD169 (aD_cons aD170 (aD_cons aD171 (aD_cons aD172 (aD_cons aD173 (aD_cons aD174 (aD_cons aD175 (aD_cons aD176 (aD_cons aD177 (aD_cons aD178 (aD_cons aD179 (aD_cons aD180 (aD_cons aD181 (aD_cons aD182 (aD_cons aD183 (aD_cons aD184 (aD_cons aD185 (aD_cons aD186 (aD_cons aD187 (aD_cons aD188 (aD_cons aD189 (aD_cons aD190 (aD_cons aD191 (aD_cons aD192 (aD_cons aD193 (aD_cons aD194 (aD_cons aD195 (aD_cons aD196 (aD_cons aD197 (aD_cons aD198 (aD_cons aD199 (aD_nil))))))))))))))))))))))))))))))))))))))))
theorem aDa200 : ∀ x ∈ [(aBy 200, aG200), (aBy 201, aG201), (aBy 202, aG202), (aBy 203, aG203), (aBy 204, aG204), (aBy 205, aG205), (aBy 206, aG206), (aBy 207, aG207), (aBy 208, aG208), (aBy 209, aG209), (aBy 210, aG210), (aBy 211, aG211), (aBy 212, aG212), (aBy 213, aG213), (aBy 214, aG214), (aBy 215, aG215), (aBy 216, aG216), (aBy 217, aG217), (aBy 218, aG218), (aBy 219, aG219), (aBy 220, aG220), (aBy 221, aG221), (aBy 222, aG222), (aBy 223, aG223), (aBy 224, aG224), (aBy 225, aG225), (aBy 226, aG226), (aBy 227, aG227), (aBy 228, aG228), (aBy 229, aG229), (aBy 230, aG230), (aBy 231, aG231), (aBy 232, aG232), (aBy 233, aG233), (aBy 234, aG234), (aBy 235, aG235), (aBy 236, aG236), (aBy 237, aG237), (aBy 238, aG238), (aBy 239, aG239)], aDo x.1 x.2 := aD_cons aD200 (aD_cons aD201 (aD_cons aD202 (aD_cons aD203 (aD_cons aD204 (aD_cons aD205 (aD_cons aD206 (aD_cons aD207 (aD_cons aD208 (aD_cons aD209 (aD_cons aD210 (aD_cons aD211 (aD_cons aD212 (aD_cons aD213 (aD_cons aD214 (aD_cons aD215 (aD_cons aD216 (aD_cons aD217 (aD_cons aD218 (aD_cons aD219 (aD_cons aD220 (aD_cons aD221 (aD_cons aD222 (aD_cons aD223 (aD_cons aD224 (aD_cons aD225 (aD_cons aD226 (aD_cons aD227 (aD_cons aD228 (aD_cons aD229 (aD_cons aD230 (aD_cons aD231 (aD_cons aD232 (aD_cons aD233 (aD_cons aD234 (aD_cons aD235 (aD_cons aD236 (aD_cons aD237 (aD_cons aD238 (aD_cons aD239 (aD_nil))))))))))))))))))))))))))))))))))))))))
theorem aDa240 : ∀ x ∈ [(aBy 240, aG240), (aBy 241, aG241), (aBy 242, aG242), (aBy 243, aG243), (aBy 244, aG244), (aBy 245, aG245), (aBy 246, aG246), (aBy 247, aG247), (aBy 248, aG248), (aBy 249, aG249), (aBy 250, aG250), (aBy 251, aG251)], aDo x.1 x.2 := aD_cons aD240 (aD_cons aD241 (aD_cons aD242 (aD_cons aD243 (aD_cons aD244 (aD_cons aD245 (aD_cons aD246 (aD_cons aD247 (aD_cons aD248 (aD_cons aD249 (aD_cons aD250 (aD_cons aD251 (aD_nil))))))))))))
theorem aD_all (m : Nat) (hm : m < 252) : aDo (aBy m) (aGet [] aGs m) := by
  by_cases h0 : m < 40
  · have hx : ∃ x ∈ [(aBy 0, aG0), (aBy 1, aG1), (aBy 2, aG2), (aBy 3, aG3), (aBy 4, aG4), (aBy 5, aG5), (aBy 6, aG6), (aBy 7, aG7), (aBy 8, aG8), (aBy 9, aG9), (aBy 10, aG10), (aBy 11, aG11), (aBy 12, aG12), (aBy 13, aG13), (aBy 14, aG14), (aBy 15, aG15), (aBy 16, aG16), (aBy 17, aG17), (aBy 18, aG18), (aBy 19, aG19), (aBy 20, aG20), (aBy 21, aG21), (aBy 22, aG22), (aBy 23, aG23), (aBy 24, aG24), (aBy 25, aG25), (aBy 26, aG26), (aBy 27, aG27), (aBy 28, aG28), (aBy 29, aG29), (aBy 30, aG30), (aBy 31, aG31), (aBy 32, aG32), (aBy 33, aG33), (aBy 34, aG34), (aBy 35, aG35), (aBy 36, aG36), (aBy 37, aG37), (aBy 38, aG38), (aBy 39, aG39)], x.1 = aBy m ∧ x.2 = aGet [] aGs m := by
      refine ⟨(aBy m, aGet [] aGs m), List.mem_of_getElem? (i := m - 0) ?_, rfl, rfl⟩
      rcases (show m = 0 ∨ m = 1 ∨ m = 2 ∨ m = 3 ∨ m = 4 ∨ m = 5 ∨ m = 6 ∨ m = 7 ∨ m = 8 ∨ m = 9 ∨ m = 10 ∨ m = 11 ∨ m = 12 ∨ m = 13 ∨ m = 14 ∨ m = 15 ∨ m = 16 ∨ m = 17 ∨ m = 18 ∨ m = 19 ∨ m = 20 ∨ m = 21 ∨ m = 22 ∨ m = 23 ∨ m = 24 ∨ m = 25 ∨ m = 26 ∨ m = 27 ∨ m = 28 ∨ m = 29 ∨ m = 30 ∨ m = 31 ∨ m = 32 ∨ m = 33 ∨ m = 34 ∨ m = 35 ∨ m = 36 ∨ m = 37 ∨ m = 38 ∨ m = 39 by omega) with rfl | rfl | rfl | rfl | rfl | rfl | rfl | rfl | rfl | rfl | rfl | rfl | rfl | rfl | rfl | rfl | rfl | rfl | rfl | rfl | rfl | rfl | rfl | rfl | rfl | rfl | rfl | rfl | rfl | rfl | rfl | rfl | rfl | rfl | rfl | rfl | rfl | rfl | rfl | rfl <;> rfl
    obtain ⟨x, hx, h1, h2⟩ := hx
    have := aDa0 x hx
    rw [h1, h2] at this
    exact this
  by_cases h40 : m < 80
  · have hx : ∃ x ∈ [(aBy 40, aG40), (aBy 41, aG41), (aBy 42, aG42), (aBy 43, aG43), (aBy 44, aG44), (aBy 45, aG45), (aBy 46, aG46), (aBy 47, aG47), (aBy 48, aG48), (aBy 49, aG49), (aBy 50, aG50), (aBy 51, aG51), (aBy 52, aG52), (aBy 53, aG53), (aBy 54, aG54), (aBy 55, aG55), (aBy 56, aG56), (aBy 57, aG57), (aBy 58, aG58), (aBy 59, aG59), (aBy 60, aG60), (aBy 61, aG61), (aBy 62, aG62), (aBy 63, aG63), (aBy 64, aG64), (aBy 65, aG65), (aBy 66, aG66), (aBy 67, aG67), (aBy 68, aG68), (aBy 69, aG69), (aBy 70, aG70), (aBy 71, aG71), (aBy 72, aG72), (aBy 73, aG73), (aBy 74, aG74), (aBy 75, aG75), (aBy 76, aG76), (aBy 77, aG77), (aBy 78, aG78), (aBy 79, aG79)], x.1 = aBy m ∧ x.2 = aGet [] aGs m := by
      refine ⟨(aBy m, aGet [] aGs m), List.mem_of_getElem? (i := m - 40) ?_, rfl, rfl⟩
      rcases (show m = 40 ∨ m = 41 ∨ m = 42 ∨ m = 43 ∨ m = 44 ∨ m = 45 ∨ m = 46 ∨ m = 47 ∨ m = 48 ∨ m = 49 ∨ m = 50 ∨ m = 51 ∨ m = 52 ∨ m = 53 ∨ m = 54 ∨ m = 55 ∨ m = 56 ∨ m = 57 ∨ m = 58 ∨ m = 59 ∨ m = 60 ∨ m = 61 ∨ m = 62 ∨ m = 63 ∨ m = 64 ∨ m = 65 ∨ m = 66 ∨ m = 67 ∨ m = 68 ∨ m = 69 ∨ m = 70 ∨ m = 71 ∨ m = 72 ∨ m = 73 ∨ m = 74 ∨ m = 75 ∨ m = 76 ∨ m = 77 ∨ m = 78 ∨ m = 79 by omega) with rfl | rfl | rfl | rfl | rfl | rfl | rfl | rfl | rfl | rfl | rfl | rfl | rfl | rfl | rfl | rfl | rfl | rfl | rfl | rfl | rfl | rfl | rfl | rfl | rfl | rfl | rfl | rfl | rfl | rfl | rfl | rfl | rfl | rfl | rfl | rfl | rfl | rfl | rfl | rfl <;> rfl
    obtain ⟨x, hx, h1, h2⟩ := hx
    have := aDa40 x hx
    rw [h1, h2] at this
    exact this
  by_cases h80 : m < 120
  · have hx : ∃ x ∈ [(aBy 80, aG80), (aBy 81, aG81), (aBy 82, aG82), (aBy 83, aG83), (aBy 84, aG84), (aBy 85, aG85), (aBy 86, aG86), (aBy 87, aG87), (aBy 88, aG88), (aBy 89, aG89), (aBy 90, aG90), (aBy 91, aG91), (aBy 92, aG92), (aBy 93, aG93), (aBy 94, aG94), (aBy 95, aG95), (aBy 96, aG96), (aBy 97, aG97), (aBy 98, aG98), (aBy 99, aG99), (aBy 100, aG100), (aBy 101, aG101), (aBy 102, aG102), (aBy 103, aG103), (aBy 104, aG104), (aBy 105, aG105), (aBy 106, aG106), (aBy 107, aG107), (aBy 108, aG108), (aBy 109, aG109), (aBy 110, aG110), (aBy 111, aG111), (aBy 112, aG112), (aBy 113, aG113), (aBy 114, aG114), (aBy 115, aG115), (aBy 116, aG116), (aBy 117, aG117), (aBy 118, aG118), (aBy 119, aG119)], x.1 = aBy m ∧ x.2 = aGet [] aGs m := by
      refine ⟨(aBy m, aGet [] aGs m), List.mem_of_getElem? (i := m - 80) ?_, rfl, rfl⟩
      rcases (show m = 80 ∨ m = 81 ∨ m = 82 ∨ m = 83 ∨ m = 84 ∨ m = 85 ∨ m = 86 ∨ m = 87 ∨ m = 88 ∨ m = 89 ∨ m = 90 ∨ m = 91 ∨ m = 92 ∨ m = 93 ∨ m = 94 ∨ m = 95 ∨ m = 96 ∨ m = 97 ∨ m = 98 ∨ m = 99 ∨ m = 100 ∨ m = 101 ∨ m = 102 ∨ m = 103 ∨ m = 104 ∨ m = 105 ∨ m = 106 ∨ m = 107 ∨ m = 108 ∨ m = 109 ∨ m = 110 ∨ m = 111 ∨ m = 112 ∨ m = 113 ∨ m = 114 ∨ m = 115 ∨ m = 116 ∨ m = 117 ∨ m = 118 ∨ m = 119 by omega) with rfl | rfl | rfl | rfl | rfl | rfl | rfl | rfl | rfl | rfl | rfl | rfl | rfl | rfl | rfl | rfl | rfl | rfl | rfl | rfl | rfl | rfl | rfl | rfl | rfl | rfl | rfl | rfl | rfl | rfl | rfl | rfl | rfl | rfl | rfl | rfl | rfl | rfl | rfl | rfl <;> rfl
    obtain ⟨x, hx, h1, h2⟩ := hx
    have := aDa80 x hx
    rw [h1, h2] at this
    exact this
  by_cases h120 : m < 160
  · have hx : ∃ x ∈ [(aBy 120, aG120), (aBy 121, aG121), (aBy 122, aG122), (aBy 123, aG123), (aBy 124, aG124), (aBy 125, aG125), (aBy 126, aG126), (aBy 127, aG127), (aBy 128, aG128), (aBy 129, aG129), (aBy 130, aG130), (aBy 131, aG131), (aBy 132, aG132), (aBy 133, aG133), (aBy 134, aG134), (aBy 135, aG135), (aBy 136, aG136), (aBy 137, aG137), (aBy 138, aG138), (aBy 139, aG139), (aBy 140, aG140), (aBy 141, aG141), (aBy 142, aG142), (aBy 143, aG143), (aBy 144, aG144), (aBy 145, aG145), (aBy 146, aG146), (aBy 147, aG147), (aBy 148, aG148), (aBy 149, aG149), (aBy 150, aG150), (aBy 151, aG151), (aBy 152, aG152), (aBy 153, aG153), (aBy 154, aG154), (aBy 155, aG155), (aBy 156, aG156), (aBy 157, aG157), (aBy 158, aG158), (aBy 159, aG159)], x.1 = aBy m ∧ x.2 = aGet [] aGs m := by
      refine ⟨(aBy m, aGet [] aGs m), List.mem_of_getElem? (i := m - 120) ?_, rfl, rfl⟩
      rcases (show m = 120 ∨ m = 121 ∨ m = 122 ∨ m = 123 ∨ m = 124 ∨ m = 125 ∨ m = 126 ∨ m = 127 ∨ m = 128 ∨ m = 129 ∨ m = 130 ∨ m = 131 ∨ m = 132 ∨ m = 133 ∨ m = 134 ∨ m = 135 ∨ m = 136 ∨ m = 137 ∨ m = 138 ∨ m = 139 ∨ m = 140 ∨ m = 141 ∨ m = 142 ∨ m = 143 ∨ m = 144 ∨ m = 145 ∨ m = 146 ∨ m = 147 ∨ m = 148 ∨ m = 149 ∨ m = 150 ∨ m = 151 ∨ m = 152 ∨ m = 153 ∨ m = 154 ∨ m = 155 ∨ m = 156 ∨ m = 157 ∨ m = 158 ∨ m = 159 by omega) with rfl | rfl | rfl | rfl | rfl | rfl | rfl | rfl | rfl | rfl | rfl | rfl | rfl | rfl | rfl | rfl | rfl | rfl | rfl | rfl | rfl | rfl | rfl | rfl | rfl | rfl | rfl | rfl | rfl | rfl | rfl | rfl | rfl | rfl | rfl | rfl | rfl | rfl | rfl | rfl <;> rfl
    obtain ⟨x, hx, h1, h2⟩ := hx
    have := aDa120 x hx
    rw [h1, h2] at this
    exact this
  by_cases h160 : m < 200
  · have hx : ∃ x ∈ [(aBy 160, aG160), (aBy 161, aG161), (aBy 162, aG162), (aBy 163, aG163), (aBy 164, aG164), (aBy 165, aG165), (aBy 166, aG166), (aBy 167, aG167), (aBy 168, aG168), (aBy 169, aG169), (aBy 170, aG170), (aBy 171, aG171), (aBy 172, aG172), (aBy 173, aG173), (aBy 174, aG174), (aBy 175, aG175), (aBy 176, aG176), (aBy 177, aG177), (aBy 178, aG178), (aBy 179, aG179), (aBy 180, aG180), (aBy 181, aG181), (aBy 182, aG182), (aBy 183, aG183), (aBy 184, aG184), (aBy 185, aG185), (aBy 186, aG186), (aBy 187, aG187), (aBy 188, aG188), (aBy 189, aG189), (aBy 190, aG190), (aBy 191, aG191), (aBy 192, aG192), (aBy 193, aG193), (aBy 194, aG194), (aBy 195, aG195), (aBy 196, aG196), (aBy 197, aG197), (aBy 198, aG198), (aBy 199, aG199)], x.1 = aBy m ∧ x.2 = aGet [] aGs m := by
      refine ⟨(aBy m, aGet [] aGs m), List.mem_of_getElem? (i := m - 160) ?_, rfl, rfl⟩
      rcases (show m = 160 ∨ m = 161 ∨ m = 162 ∨ m = 163 ∨ m = 164 ∨ m = 165 ∨ m = 166 ∨ m = 167 ∨ m = 168 ∨ m = 169 ∨ m = 170 ∨ m = 171 ∨ m = 172 ∨ m = 173 ∨ m = 174 ∨ m = 175 ∨ m = 176 ∨ m = 177 ∨ m = 178 ∨ m = 179 ∨ m = 180 ∨ m = 181 ∨ m = 182 ∨ m = 183 ∨ m = 184 ∨ m = 185 ∨ m = 186 ∨ m = 187 ∨ m = 188 ∨ m = 189 ∨ m = 190 ∨ m = 191 ∨ m = 192 ∨ m = 193 ∨ m = 194 ∨ m = 195 ∨ m = 196 ∨ m = 197 ∨ m = 198 ∨ m = 199 by omega) with rfl | rfl | rfl | rfl | rfl | rfl | rfl | rfl | rfl | rfl | rfl | rfl | rfl | rfl | rfl | rfl | rfl | rfl | rfl | rfl | rfl | rfl | rfl | rfl | rfl | rfl | rfl | rfl | rfl | rfl | rfl | rfl | rfl | rfl | rfl | rfl | rfl | rfl | rfl | rfl <;> rfl
    obtain ⟨x, hx, h1, h2⟩ := hx
    have := aDa160 x hx
    rw [h1, h2] at this
    exact this
  by_cases h200 : m < 240
  · have hx : ∃ x ∈ [(aBy 200, aG200), (aBy 201, aG201), (aBy 202, aG202), (aBy 203, aG203), (aBy 204, aG204), (aBy 205, aG205), (aBy 206, aG206), (aBy 207, aG207), (aBy 208, aG208), (aBy 209, aG209), (aBy 210, aG210), (aBy 211, aG211), (aBy 212, aG212), (aBy 213, aG213), (aBy 214, aG214), (aBy 215, aG215), (aBy 216, aG216), (aBy 217, aG217), (aBy 218, aG218), (aBy 219, aG219), (aBy 220, aG220), (aBy 221, aG221), (aBy 222, aG222), (aBy 223, aG223), (aBy 224, aG224), (aBy 225, aG225), (aBy 226, aG226), (aBy 227, aG227), (aBy 228, aG228), (aBy 229, aG229), (aBy 230, aG230), (aBy 231, aG231), (aBy 232, aG232), (aBy 233, aG233), (aBy 234, aG234), (aBy 235, aG235), (aBy 236, aG236), (aBy 237, aG237), (aBy 238, aG238), (aBy 239, aG239)], x.1 = aBy m ∧ x.2 = aGet [] aGs m := by
      refine ⟨(aBy m, aGet [] aGs m), List.mem_of_getElem? (i := m - 200) ?_, rfl, rfl⟩
      rcases (show m = 200 ∨ m = 201 ∨ m = 202 ∨ m = 203 ∨ m = 204 ∨ m = 205 ∨ m = 206 ∨ m = 207 ∨ m = 208 ∨ m = 209 ∨ m = 210 ∨ m = 211 ∨ m = 212 ∨ m = 213 ∨ m = 214 ∨ m = 215 ∨ m = 216 ∨ m = 217 ∨ m = 218 ∨ m = 219 ∨ m = 220 ∨ m = 221 ∨ m = 222 ∨ m = 223 ∨ m = 224 ∨ m = 225 ∨ m = 226 ∨ m = 227 ∨ m = 228 ∨ m = 229 ∨ m = 230 ∨ m = 231 ∨ m = 232 ∨ m = 233 ∨ m = 234 ∨ m = 235 ∨ m = 236 ∨ m = 237 ∨ m = 238 ∨ m = 239 by omega) with rfl | rfl | rfl | rfl | rfl | rfl | rfl | rfl | rfl | rfl | rfl | rfl | rfl | rfl | rfl | rfl | rfl | rfl | rfl | rfl | rfl | rfl | rfl | rfl | rfl | rfl | rfl | rfl | rfl | rfl | rfl | rfl | rfl | rfl | rfl | rfl | rfl | rfl | rfl | rfl <;> rfl
    obtain ⟨x, hx, h1, h2⟩ := hx
    have := aDa200 x hx
    rw [h1, h2] at this
    exact this
  by_cases h240 : m < 252
  · have hx : ∃ x ∈ [(aBy 240, aG240), (aBy 241, aG241), (aBy 242, aG242), (aBy 243, aG243), (aBy 244, aG244), (aBy 245, aG245), (aBy 246, aG246), (aBy 247, aG247), (aBy 248, aG248), (aBy 249, aG249), (aBy 250, aG250), (aBy 251, aG251)], x.1 = aBy m ∧ x.2 = aGet [] aGs m := by
      refine ⟨(aBy m, aGet [] aGs m), List.mem_of_getElem? (i := m - 240) ?_, rfl, rfl⟩
      rcases (show m = 240 ∨ m = 241 ∨ m = 242 ∨ m = 243 ∨ m = 244 ∨ m = 245 ∨ m = 246 ∨ m = 247 ∨ m = 248 ∨ m = 249 ∨ m = 250 ∨ m = 251 by omega) with rfl | rfl | rfl | rfl | rfl | rfl | rfl | rfl | rfl | rfl | rfl | rfl <;> rfl
    obtain ⟨x, hx, h1, h2⟩ := hx
    have := aDa240 x hx
    rw [h1, h2] at this
    exact this
  omega
