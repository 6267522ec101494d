theorem tbm1 {w : Cond} {i : Nat} (h : tables_1_1[i]? = some w) (hg : goodWord w = true) : w ∈ TB := List.mem_filter.mpr ⟨List.mem_append_right _ (List.mem_append_left _ (List.mem_of_getElem? h)), hg⟩
theorem tbm2 {w : Cond} {i : Nat} (h : tables_1_2[i]? = some w) (hg : goodWord w = true) : w ∈ TB := List.mem_filter.mpr ⟨List.mem_append_right _ (List.mem_append_right _ (List.mem_append_left _ (List.mem_of_getElem? h))), hg⟩
theorem tbm3 {w : Cond} {i : Nat} (h : tables_1_3[i]? = some w) (hg : goodWord w = true) : w ∈ TB := List.mem_filter.mpr ⟨List.mem_append_right _ (List.mem_append_right _ (List.mem_append_right _ (List.mem_append_left _ (List.mem_of_getElem? h)))), hg⟩
theorem tbm4 {w : Cond} {i : Nat} (h : tables_1_4[i]? = some w) (hg : goodWord w = true) : w ∈ TB := List.mem_filter.mpr ⟨List.mem_append_right _ (List.mem_append_right _ (List.mem_append_right _ (List.mem_append_right _ (List.mem_append_left _ (List.mem_of_getElem? h))))), hg⟩
theorem tbm5 {w : Cond} {i : Nat} (h : tables_1_5[i]? = some w) (hg : goodWord w = true) : w ∈ TB := List.mem_filter.mpr ⟨List.mem_append_right _ (List.mem_append_right _ (List.mem_append_right _ (List.mem_append_right _ (List.mem_append_right _ (List.mem_append_left _ (List.mem_of_getElem? h)))))), hg⟩
theorem tbm6 {w : Cond} {i : Nat} (h : tables_1_6[i]? = some w) (hg : goodWord w = true) : w ∈ TB := List.mem_filter.mpr ⟨List.mem_append_right _ (List.mem_append_right _ (List.mem_append_right _ (List.mem_append_right _ (List.mem_append_right _ (List.mem_append_right _ (List.mem_of_getElem? h)))))), hg⟩
theorem w165 : (Jvm.Cond.laysFinal "ClockTeeth$Clock" "ClockTeeth$Clock" "figures" "[LClockTeeth$Figure;") ∈ TB := tbm1 (i := 165) rfl rfl
theorem w167 : (Jvm.Cond.laysFinal "ClockTeeth$Clock" "ClockTeeth$Clock" "votes" "[LClockTeeth$Vote;") ∈ TB := tbm1 (i := 167) rfl rfl
theorem w169 : (Jvm.Cond.laysFinal "ClockTeeth$Clock" "ClockTeeth$Clock" "sights" "[LClockTeeth$Sight;") ∈ TB := tbm1 (i := 169) rfl rfl
theorem w171 : (Jvm.Cond.lays "ClockTeeth$Clock" "ClockTeeth$Clock" "figureCount" "I") ∈ TB := tbm1 (i := 171) rfl rfl
theorem w173 : (Jvm.Cond.lays "ClockTeeth$Clock" "ClockTeeth$Clock" "voteCount" "I") ∈ TB := tbm1 (i := 173) rfl rfl
theorem w175 : (Jvm.Cond.lays "ClockTeeth$Clock" "ClockTeeth$Clock" "sightCount" "I") ∈ TB := tbm1 (i := 175) rfl rfl
theorem w177 : (Jvm.Cond.lays "ClockTeeth$Clock" "ClockTeeth$Clock" "stickDoor" "I") ∈ TB := tbm1 (i := 177) rfl rfl
theorem w179 : (Jvm.Cond.lays "ClockTeeth$Clock" "ClockTeeth$Clock" "stickFrom" "I") ∈ TB := tbm1 (i := 179) rfl rfl
theorem w181 : (Jvm.Cond.lays "ClockTeeth$Clock" "ClockTeeth$Clock" "stickTo" "I") ∈ TB := tbm1 (i := 181) rfl rfl
theorem w183 : (Jvm.Cond.lays "ClockTeeth$Clock" "ClockTeeth$Clock" "reach" "I") ∈ TB := tbm1 (i := 183) rfl rfl
theorem w79 : (Jvm.Cond.lays "ClockTeeth$Figure" "ClockTeeth$Figure" "teeth" "I") ∈ TB := tbm1 (i := 79) rfl rfl
theorem w81 : (Jvm.Cond.lays "ClockTeeth$Figure" "ClockTeeth$Figure" "start" "I") ∈ TB := tbm1 (i := 81) rfl rfl
theorem w83 : (Jvm.Cond.lays "ClockTeeth$Figure" "ClockTeeth$Figure" "door" "I") ∈ TB := tbm1 (i := 83) rfl rfl
theorem w85 : (Jvm.Cond.lays "ClockTeeth$Figure" "ClockTeeth$Figure" "late" "I") ∈ TB := tbm1 (i := 85) rfl rfl
theorem w87 : (Jvm.Cond.lays "ClockTeeth$Figure" "ClockTeeth$Figure" "gap" "I") ∈ TB := tbm1 (i := 87) rfl rfl
theorem w204 : (Jvm.Cond.laysFinal "ClockTeeth$Finder" "ClockTeeth$Finder" "chosen" "[LClockTeeth$Figure;") ∈ TB := tbm1 (i := 204) rfl rfl
theorem w206 : (Jvm.Cond.laysFinal "ClockTeeth$Finder" "ClockTeeth$Finder" "step" "[J") ∈ TB := tbm1 (i := 206) rfl rfl
theorem w208 : (Jvm.Cond.laysFinal "ClockTeeth$Finder" "ClockTeeth$Finder" "common" "[J") ∈ TB := tbm1 (i := 208) rfl rfl
theorem w210 : (Jvm.Cond.laysFinal "ClockTeeth$Finder" "ClockTeeth$Finder" "inverse" "[J") ∈ TB := tbm1 (i := 210) rfl rfl
theorem w212 : (Jvm.Cond.lays "ClockTeeth$Finder" "ClockTeeth$Finder" "levels" "I") ∈ TB := tbm1 (i := 212) rfl rfl
theorem w214 : (Jvm.Cond.lays "ClockTeeth$Finder" "ClockTeeth$Finder" "from" "J") ∈ TB := tbm1 (i := 214) rfl rfl
theorem w216 : (Jvm.Cond.lays "ClockTeeth$Finder" "ClockTeeth$Finder" "best" "J") ∈ TB := tbm1 (i := 216) rfl rfl
theorem w315 : (Jvm.Cond.laysFinal "ClockTeeth$Reader" "ClockTeeth$Reader" "tape" "LClockTeeth$Tape;") ∈ TB := tbm2 (i := 75) rfl rfl
theorem w317 : (Jvm.Cond.laysFinal "ClockTeeth$Reader" "ClockTeeth$Reader" "told" "LClockTeeth$Clock;") ∈ TB := tbm2 (i := 77) rfl rfl
theorem w319 : (Jvm.Cond.lays "ClockTeeth$Reader" "ClockTeeth$Reader" "token" "I") ∈ TB := tbm2 (i := 79) rfl rfl
theorem w321 : (Jvm.Cond.lays "ClockTeeth$Reader" "ClockTeeth$Reader" "tokenAt" "I") ∈ TB := tbm2 (i := 81) rfl rfl
theorem w323 : (Jvm.Cond.lays "ClockTeeth$Reader" "ClockTeeth$Reader" "tokenEnd" "I") ∈ TB := tbm2 (i := 83) rfl rfl
theorem w325 : (Jvm.Cond.lays "ClockTeeth$Reader" "ClockTeeth$Reader" "stickTold" "Z") ∈ TB := tbm2 (i := 85) rfl rfl
theorem w327 : (Jvm.Cond.lays "ClockTeeth$Reader" "ClockTeeth$Reader" "reachTold" "Z") ∈ TB := tbm2 (i := 87) rfl rfl
theorem w329 : (Jvm.Cond.lays "ClockTeeth$Reader" "ClockTeeth$Reader" "found" "I") ∈ TB := tbm2 (i := 89) rfl rfl
theorem w331 : (Jvm.Cond.lays "ClockTeeth$Reader" "ClockTeeth$Reader" "foundAt" "I") ∈ TB := tbm2 (i := 91) rfl rfl
theorem w234 : (Jvm.Cond.laysFinal "ClockTeeth$Sheet" "ClockTeeth$Sheet" "row" "[I") ∈ TB := tbm1 (i := 234) rfl rfl
theorem w236 : (Jvm.Cond.lays "ClockTeeth$Sheet" "ClockTeeth$Sheet" "lane" "I") ∈ TB := tbm1 (i := 236) rfl rfl
theorem w238 : (Jvm.Cond.lays "ClockTeeth$Sheet" "ClockTeeth$Sheet" "cells" "I") ∈ TB := tbm1 (i := 238) rfl rfl
theorem w133 : (Jvm.Cond.lays "ClockTeeth$Sight" "ClockTeeth$Sight" "who" "I") ∈ TB := tbm1 (i := 133) rfl rfl
theorem w135 : (Jvm.Cond.lays "ClockTeeth$Sight" "ClockTeeth$Sight" "when" "I") ∈ TB := tbm1 (i := 135) rfl rfl
theorem w137 : (Jvm.Cond.lays "ClockTeeth$Sight" "ClockTeeth$Sight" "was" "Z") ∈ TB := tbm1 (i := 137) rfl rfl
theorem w36 : (Jvm.Cond.laysFinal "ClockTeeth$Tape" "ClockTeeth$Tape" "bytes" "[I") ∈ TB := tbm1 (i := 36) rfl rfl
theorem w38 : (Jvm.Cond.lays "ClockTeeth$Tape" "ClockTeeth$Tape" "length" "I") ∈ TB := tbm1 (i := 38) rfl rfl
theorem w111 : (Jvm.Cond.lays "ClockTeeth$Vote" "ClockTeeth$Vote" "year" "I") ∈ TB := tbm1 (i := 111) rfl rfl
theorem w113 : (Jvm.Cond.lays "ClockTeeth$Vote" "ClockTeeth$Vote" "goes" "I") ∈ TB := tbm1 (i := 113) rfl rfl
theorem w115 : (Jvm.Cond.lays "ClockTeeth$Vote" "ClockTeeth$Vote" "teeth" "I") ∈ TB := tbm1 (i := 115) rfl rfl
theorem w117 : (Jvm.Cond.lays "ClockTeeth$Vote" "ClockTeeth$Vote" "start" "I") ∈ TB := tbm1 (i := 117) rfl rfl
theorem w119 : (Jvm.Cond.lays "ClockTeeth$Vote" "ClockTeeth$Vote" "door" "I") ∈ TB := tbm1 (i := 119) rfl rfl
theorem w254 : (Jvm.Cond.laysFinal "ClockTeeth" "ClockTeeth" "tape" "LClockTeeth$Tape;") ∈ TB := tbm2 (i := 14) rfl rfl
theorem w256 : (Jvm.Cond.laysFinal "ClockTeeth" "ClockTeeth" "clock" "LClockTeeth$Clock;") ∈ TB := tbm2 (i := 16) rfl rfl
theorem w258 : (Jvm.Cond.laysFinal "ClockTeeth" "ClockTeeth" "draft" "LClockTeeth$Clock;") ∈ TB := tbm2 (i := 18) rfl rfl
theorem w260 : (Jvm.Cond.laysFinal "ClockTeeth" "ClockTeeth" "images" "[LClockTeeth$Clock;") ∈ TB := tbm2 (i := 20) rfl rfl
theorem w262 : (Jvm.Cond.laysFinal "ClockTeeth" "ClockTeeth" "kept" "[Z") ∈ TB := tbm2 (i := 22) rfl rfl
theorem w264 : (Jvm.Cond.laysFinal "ClockTeeth" "ClockTeeth" "sheets" "[LClockTeeth$Sheet;") ∈ TB := tbm2 (i := 24) rfl rfl
theorem w266 : (Jvm.Cond.laysFinal "ClockTeeth" "ClockTeeth" "finder" "LClockTeeth$Finder;") ∈ TB := tbm2 (i := 26) rfl rfl
theorem w268 : (Jvm.Cond.laysFinal "ClockTeeth" "ClockTeeth" "trial" "LClockTeeth$Figure;") ∈ TB := tbm2 (i := 28) rfl rfl
theorem w270 : (Jvm.Cond.laysFinal "ClockTeeth" "ClockTeeth" "teethBefore" "[I") ∈ TB := tbm2 (i := 30) rfl rfl
theorem w272 : (Jvm.Cond.laysFinal "ClockTeeth" "ClockTeeth" "startBefore" "[I") ∈ TB := tbm2 (i := 32) rfl rfl
theorem w274 : (Jvm.Cond.laysFinal "ClockTeeth" "ClockTeeth" "frights" "[I") ∈ TB := tbm2 (i := 34) rfl rfl
theorem w276 : (Jvm.Cond.lays "ClockTeeth" "ClockTeeth" "textFault" "I") ∈ TB := tbm2 (i := 36) rfl rfl
theorem w278 : (Jvm.Cond.lays "ClockTeeth" "ClockTeeth" "readFault" "I") ∈ TB := tbm2 (i := 38) rfl rfl
theorem w927 : (Jvm.Cond.laysFinal "ClockTeethModel" "ClockTeethModel" "st" "[I") ∈ TB := tbm4 (i := 207) rfl rfl
theorem w929 : (Jvm.Cond.laysFinal "ClockTeethModel" "ClockTeethModel" "isKept" "[Z") ∈ TB := tbm4 (i := 209) rfl rfl
theorem w931 : (Jvm.Cond.lays "ClockTeethModel" "ClockTeethModel" "reach" "I") ∈ TB := tbm4 (i := 211) rfl rfl
theorem w933 : (Jvm.Cond.laysFinal "ClockTeethModel" "ClockTeethModel" "draft" "[I") ∈ TB := tbm4 (i := 213) rfl rfl
theorem w935 : (Jvm.Cond.lays "ClockTeethModel" "ClockTeethModel" "dReach" "I") ∈ TB := tbm4 (i := 215) rfl rfl
theorem w937 : (Jvm.Cond.lays "ClockTeethModel" "ClockTeethModel" "hasReach" "Z") ∈ TB := tbm4 (i := 217) rfl rfl
theorem w939 : (Jvm.Cond.lays "ClockTeethModel" "ClockTeethModel" "hasStick" "Z") ∈ TB := tbm4 (i := 219) rfl rfl
theorem w941 : (Jvm.Cond.lays "ClockTeethModel" "ClockTeethModel" "highest" "I") ∈ TB := tbm4 (i := 221) rfl rfl
theorem w943 : (Jvm.Cond.laysFinal "ClockTeethModel" "ClockTeethModel" "tape" "[I") ∈ TB := tbm4 (i := 223) rfl rfl
theorem w945 : (Jvm.Cond.lays "ClockTeethModel" "ClockTeethModel" "taped" "I") ∈ TB := tbm4 (i := 225) rfl rfl
theorem w947 : (Jvm.Cond.lays "ClockTeethModel" "ClockTeethModel" "pos" "I") ∈ TB := tbm4 (i := 227) rfl rfl
theorem w949 : (Jvm.Cond.lays "ClockTeethModel" "ClockTeethModel" "from" "I") ∈ TB := tbm4 (i := 229) rfl rfl
theorem w951 : (Jvm.Cond.lays "ClockTeethModel" "ClockTeethModel" "sort" "I") ∈ TB := tbm4 (i := 231) rfl rfl
theorem w953 : (Jvm.Cond.lays "ClockTeethModel" "ClockTeethModel" "value" "I") ∈ TB := tbm4 (i := 233) rfl rfl
theorem w955 : (Jvm.Cond.lays "ClockTeethModel" "ClockTeethModel" "fault" "I") ∈ TB := tbm4 (i := 235) rfl rfl
theorem w957 : (Jvm.Cond.lays "ClockTeethModel" "ClockTeethModel" "wrongAt" "I") ∈ TB := tbm4 (i := 237) rfl rfl
theorem w959 : (Jvm.Cond.laysFinal "ClockTeethModel" "ClockTeethModel" "rests" "[J") ∈ TB := tbm4 (i := 239) rfl rfl
theorem w961 : (Jvm.Cond.laysFinal "ClockTeethModel" "ClockTeethModel" "moreRests" "[J") ∈ TB := tbm5 (i := 1) rfl rfl
theorem w963 : (Jvm.Cond.lays "ClockTeethModel" "ClockTeethModel" "restMany" "I") ∈ TB := tbm5 (i := 3) rfl rfl
theorem w965 : (Jvm.Cond.lays "ClockTeethModel" "ClockTeethModel" "restBy" "J") ∈ TB := tbm5 (i := 5) rfl rfl
theorem w967 : (Jvm.Cond.lays "ClockTeethModel" "ClockTeethModel" "cutTeeth" "I") ∈ TB := tbm5 (i := 7) rfl rfl
theorem w969 : (Jvm.Cond.lays "ClockTeethModel" "ClockTeethModel" "cutFirst" "I") ∈ TB := tbm5 (i := 9) rfl rfl
theorem w971 : (Jvm.Cond.laysFinal "ClockTeethModel" "ClockTeethModel" "wasCut" "[I") ∈ TB := tbm5 (i := 11) rfl rfl
theorem w973 : (Jvm.Cond.laysFinal "ClockTeethModel" "ClockTeethModel" "lanes" "[I") ∈ TB := tbm5 (i := 13) rfl rfl
theorem w975 : (Jvm.Cond.laysFinal "ClockTeethModel" "ClockTeethModel" "sizes" "[I") ∈ TB := tbm5 (i := 15) rfl rfl
theorem w977 : (Jvm.Cond.laysFinal "ClockTeethModel" "ClockTeethModel" "cells" "[I") ∈ TB := tbm5 (i := 17) rfl rfl
theorem w979 : (Jvm.Cond.lays "ClockTeethModel" "ClockTeethModel" "torn" "I") ∈ TB := tbm5 (i := 19) rfl rfl
theorem w42 : (Jvm.Cond.classLink "ClockTeeth" (16 : Nat) "ClockTeeth$Clock") ∈ TB := tbm1 (i := 42) rfl rfl
theorem w187 : (Jvm.Cond.classLink "ClockTeeth" (34 : Nat) "ClockTeeth$Sheet") ∈ TB := tbm1 (i := 187) rfl rfl
theorem w48 : (Jvm.Cond.classLink "ClockTeeth$Clock" (9 : Nat) "ClockTeeth$Figure") ∈ TB := tbm1 (i := 48) rfl rfl
theorem w50 : (Jvm.Cond.classLink "ClockTeeth$Clock" (17 : Nat) "ClockTeeth$Vote") ∈ TB := tbm1 (i := 50) rfl rfl
theorem w52 : (Jvm.Cond.classLink "ClockTeeth$Clock" (23 : Nat) "ClockTeeth$Sight") ∈ TB := tbm1 (i := 52) rfl rfl
theorem w195 : (Jvm.Cond.classLink "ClockTeeth$Finder" (9 : Nat) "ClockTeeth$Figure") ∈ TB := tbm1 (i := 195) rfl rfl
theorem w241 : (Jvm.Cond.fieldLink "ClockTeeth" (12 : Nat) "ClockTeeth" "tape" "LClockTeeth$Tape;") ∈ TB := tbm2 (i := 1) rfl rfl
theorem w242 : (Jvm.Cond.fieldLink "ClockTeeth" (19 : Nat) "ClockTeeth" "clock" "LClockTeeth$Clock;") ∈ TB := tbm2 (i := 2) rfl rfl
theorem w243 : (Jvm.Cond.fieldLink "ClockTeeth" (23 : Nat) "ClockTeeth" "draft" "LClockTeeth$Clock;") ∈ TB := tbm2 (i := 3) rfl rfl
theorem w244 : (Jvm.Cond.fieldLink "ClockTeeth" (26 : Nat) "ClockTeeth" "images" "[LClockTeeth$Clock;") ∈ TB := tbm2 (i := 4) rfl rfl
theorem w245 : (Jvm.Cond.fieldLink "ClockTeeth" (30 : Nat) "ClockTeeth" "kept" "[Z") ∈ TB := tbm2 (i := 5) rfl rfl
theorem w246 : (Jvm.Cond.fieldLink "ClockTeeth" (36 : Nat) "ClockTeeth" "sheets" "[LClockTeeth$Sheet;") ∈ TB := tbm2 (i := 6) rfl rfl
theorem w247 : (Jvm.Cond.fieldLink "ClockTeeth" (43 : Nat) "ClockTeeth" "finder" "LClockTeeth$Finder;") ∈ TB := tbm2 (i := 7) rfl rfl
theorem w248 : (Jvm.Cond.fieldLink "ClockTeeth" (50 : Nat) "ClockTeeth" "trial" "LClockTeeth$Figure;") ∈ TB := tbm2 (i := 8) rfl rfl
theorem w249 : (Jvm.Cond.fieldLink "ClockTeeth" (54 : Nat) "ClockTeeth" "teethBefore" "[I") ∈ TB := tbm2 (i := 9) rfl rfl
theorem w250 : (Jvm.Cond.fieldLink "ClockTeeth" (58 : Nat) "ClockTeeth" "startBefore" "[I") ∈ TB := tbm2 (i := 10) rfl rfl
theorem w251 : (Jvm.Cond.fieldLink "ClockTeeth" (61 : Nat) "ClockTeeth" "frights" "[I") ∈ TB := tbm2 (i := 11) rfl rfl
theorem w252 : (Jvm.Cond.fieldLink "ClockTeeth" (64 : Nat) "ClockTeeth" "textFault" "I") ∈ TB := tbm2 (i := 12) rfl rfl
theorem w253 : (Jvm.Cond.fieldLink "ClockTeeth" (68 : Nat) "ClockTeeth" "readFault" "I") ∈ TB := tbm2 (i := 13) rfl rfl
theorem w34 : (Jvm.Cond.fieldLink "ClockTeeth" (76 : Nat) "ClockTeeth$Tape" "length" "I") ∈ TB := tbm1 (i := 34) rfl rfl
theorem w312 : (Jvm.Cond.fieldLink "ClockTeeth" (88 : Nat) "ClockTeeth$Reader" "found" "I") ∈ TB := tbm2 (i := 72) rfl rfl
theorem w314 : (Jvm.Cond.fieldLink "ClockTeeth" (91 : Nat) "ClockTeeth$Reader" "foundAt" "I") ∈ TB := tbm2 (i := 74) rfl rfl
theorem w150 : (Jvm.Cond.fieldLink "ClockTeeth" (98 : Nat) "ClockTeeth$Clock" "figureCount" "I") ∈ TB := tbm1 (i := 150) rfl rfl
theorem w157 : (Jvm.Cond.fieldLink "ClockTeeth" (101 : Nat) "ClockTeeth$Clock" "stickDoor" "I") ∈ TB := tbm1 (i := 157) rfl rfl
theorem w159 : (Jvm.Cond.fieldLink "ClockTeeth" (104 : Nat) "ClockTeeth$Clock" "stickFrom" "I") ∈ TB := tbm1 (i := 159) rfl rfl
theorem w161 : (Jvm.Cond.fieldLink "ClockTeeth" (107 : Nat) "ClockTeeth$Clock" "stickTo" "I") ∈ TB := tbm1 (i := 161) rfl rfl
theorem w164 : (Jvm.Cond.fieldLink "ClockTeeth" (110 : Nat) "ClockTeeth$Clock" "reach" "I") ∈ TB := tbm1 (i := 164) rfl rfl
theorem w153 : (Jvm.Cond.fieldLink "ClockTeeth" (113 : Nat) "ClockTeeth$Clock" "voteCount" "I") ∈ TB := tbm1 (i := 153) rfl rfl
theorem w142 : (Jvm.Cond.fieldLink "ClockTeeth" (120 : Nat) "ClockTeeth$Clock" "figures" "[LClockTeeth$Figure;") ∈ TB := tbm1 (i := 142) rfl rfl
theorem w61 : (Jvm.Cond.fieldLink "ClockTeeth" (127 : Nat) "ClockTeeth$Figure" "teeth" "I") ∈ TB := tbm1 (i := 61) rfl rfl
theorem w65 : (Jvm.Cond.fieldLink "ClockTeeth" (130 : Nat) "ClockTeeth$Figure" "start" "I") ∈ TB := tbm1 (i := 65) rfl rfl
theorem w69 : (Jvm.Cond.fieldLink "ClockTeeth" (133 : Nat) "ClockTeeth$Figure" "door" "I") ∈ TB := tbm1 (i := 69) rfl rfl
theorem w73 : (Jvm.Cond.fieldLink "ClockTeeth" (136 : Nat) "ClockTeeth$Figure" "late" "I") ∈ TB := tbm1 (i := 73) rfl rfl
theorem w77 : (Jvm.Cond.fieldLink "ClockTeeth" (139 : Nat) "ClockTeeth$Figure" "gap" "I") ∈ TB := tbm1 (i := 77) rfl rfl
theorem w145 : (Jvm.Cond.fieldLink "ClockTeeth" (145 : Nat) "ClockTeeth$Clock" "votes" "[LClockTeeth$Vote;") ∈ TB := tbm1 (i := 145) rfl rfl
theorem w97 : (Jvm.Cond.fieldLink "ClockTeeth" (149 : Nat) "ClockTeeth$Vote" "year" "I") ∈ TB := tbm1 (i := 97) rfl rfl
theorem w101 : (Jvm.Cond.fieldLink "ClockTeeth" (154 : Nat) "ClockTeeth$Vote" "goes" "I") ∈ TB := tbm1 (i := 101) rfl rfl
theorem w104 : (Jvm.Cond.fieldLink "ClockTeeth" (157 : Nat) "ClockTeeth$Vote" "teeth" "I") ∈ TB := tbm1 (i := 104) rfl rfl
theorem w107 : (Jvm.Cond.fieldLink "ClockTeeth" (158 : Nat) "ClockTeeth$Vote" "start" "I") ∈ TB := tbm1 (i := 107) rfl rfl
theorem w110 : (Jvm.Cond.fieldLink "ClockTeeth" (159 : Nat) "ClockTeeth$Vote" "door" "I") ∈ TB := tbm1 (i := 110) rfl rfl
theorem w155 : (Jvm.Cond.fieldLink "ClockTeeth" (274 : Nat) "ClockTeeth$Clock" "sightCount" "I") ∈ TB := tbm1 (i := 155) rfl rfl
theorem w231 : (Jvm.Cond.fieldLink "ClockTeeth" (309 : Nat) "ClockTeeth$Sheet" "lane" "I") ∈ TB := tbm1 (i := 231) rfl rfl
theorem w233 : (Jvm.Cond.fieldLink "ClockTeeth" (325 : Nat) "ClockTeeth$Sheet" "cells" "I") ∈ TB := tbm1 (i := 233) rfl rfl
theorem w147 : (Jvm.Cond.fieldLink "ClockTeeth" (330 : Nat) "ClockTeeth$Clock" "sights" "[LClockTeeth$Sight;") ∈ TB := tbm1 (i := 147) rfl rfl
theorem w229 : (Jvm.Cond.fieldLink "ClockTeeth" (340 : Nat) "ClockTeeth$Sheet" "row" "[I") ∈ TB := tbm1 (i := 229) rfl rfl
theorem w140 : (Jvm.Cond.fieldLink "ClockTeeth$Clock" (11 : Nat) "ClockTeeth$Clock" "figures" "[LClockTeeth$Figure;") ∈ TB := tbm1 (i := 140) rfl rfl
theorem w143 : (Jvm.Cond.fieldLink "ClockTeeth$Clock" (19 : Nat) "ClockTeeth$Clock" "votes" "[LClockTeeth$Vote;") ∈ TB := tbm1 (i := 143) rfl rfl
theorem w146 : (Jvm.Cond.fieldLink "ClockTeeth$Clock" (25 : Nat) "ClockTeeth$Clock" "sights" "[LClockTeeth$Sight;") ∈ TB := tbm1 (i := 146) rfl rfl
theorem w148 : (Jvm.Cond.fieldLink "ClockTeeth$Clock" (29 : Nat) "ClockTeeth$Clock" "figureCount" "I") ∈ TB := tbm1 (i := 148) rfl rfl
theorem w151 : (Jvm.Cond.fieldLink "ClockTeeth$Clock" (33 : Nat) "ClockTeeth$Clock" "voteCount" "I") ∈ TB := tbm1 (i := 151) rfl rfl
theorem w154 : (Jvm.Cond.fieldLink "ClockTeeth$Clock" (36 : Nat) "ClockTeeth$Clock" "sightCount" "I") ∈ TB := tbm1 (i := 154) rfl rfl
theorem w156 : (Jvm.Cond.fieldLink "ClockTeeth$Clock" (39 : Nat) "ClockTeeth$Clock" "stickDoor" "I") ∈ TB := tbm1 (i := 156) rfl rfl
theorem w158 : (Jvm.Cond.fieldLink "ClockTeeth$Clock" (42 : Nat) "ClockTeeth$Clock" "stickFrom" "I") ∈ TB := tbm1 (i := 158) rfl rfl
theorem w160 : (Jvm.Cond.fieldLink "ClockTeeth$Clock" (45 : Nat) "ClockTeeth$Clock" "stickTo" "I") ∈ TB := tbm1 (i := 160) rfl rfl
theorem w162 : (Jvm.Cond.fieldLink "ClockTeeth$Clock" (48 : Nat) "ClockTeeth$Clock" "reach" "I") ∈ TB := tbm1 (i := 162) rfl rfl
theorem w128 : (Jvm.Cond.fieldLink "ClockTeeth$Clock" (68 : Nat) "ClockTeeth$Sight" "who" "I") ∈ TB := tbm1 (i := 128) rfl rfl
theorem w130 : (Jvm.Cond.fieldLink "ClockTeeth$Clock" (71 : Nat) "ClockTeeth$Sight" "when" "I") ∈ TB := tbm1 (i := 130) rfl rfl
theorem w132 : (Jvm.Cond.fieldLink "ClockTeeth$Clock" (74 : Nat) "ClockTeeth$Sight" "was" "Z") ∈ TB := tbm1 (i := 132) rfl rfl
theorem w96 : (Jvm.Cond.fieldLink "ClockTeeth$Clock" (82 : Nat) "ClockTeeth$Vote" "year" "I") ∈ TB := tbm1 (i := 96) rfl rfl
theorem w100 : (Jvm.Cond.fieldLink "ClockTeeth$Clock" (85 : Nat) "ClockTeeth$Vote" "goes" "I") ∈ TB := tbm1 (i := 100) rfl rfl
theorem w103 : (Jvm.Cond.fieldLink "ClockTeeth$Clock" (88 : Nat) "ClockTeeth$Vote" "teeth" "I") ∈ TB := tbm1 (i := 103) rfl rfl
theorem w106 : (Jvm.Cond.fieldLink "ClockTeeth$Clock" (91 : Nat) "ClockTeeth$Vote" "start" "I") ∈ TB := tbm1 (i := 106) rfl rfl
theorem w109 : (Jvm.Cond.fieldLink "ClockTeeth$Clock" (94 : Nat) "ClockTeeth$Vote" "door" "I") ∈ TB := tbm1 (i := 109) rfl rfl
theorem w62 : (Jvm.Cond.fieldLink "ClockTeeth$Clock" (97 : Nat) "ClockTeeth$Figure" "teeth" "I") ∈ TB := tbm1 (i := 62) rfl rfl
theorem w70 : (Jvm.Cond.fieldLink "ClockTeeth$Clock" (99 : Nat) "ClockTeeth$Figure" "door" "I") ∈ TB := tbm1 (i := 70) rfl rfl
theorem w78 : (Jvm.Cond.fieldLink "ClockTeeth$Clock" (103 : Nat) "ClockTeeth$Figure" "gap" "I") ∈ TB := tbm1 (i := 78) rfl rfl
theorem w59 : (Jvm.Cond.fieldLink "ClockTeeth$Figure" (9 : Nat) "ClockTeeth$Figure" "teeth" "I") ∈ TB := tbm1 (i := 59) rfl rfl
theorem w63 : (Jvm.Cond.fieldLink "ClockTeeth$Figure" (15 : Nat) "ClockTeeth$Figure" "start" "I") ∈ TB := tbm1 (i := 63) rfl rfl
theorem w67 : (Jvm.Cond.fieldLink "ClockTeeth$Figure" (18 : Nat) "ClockTeeth$Figure" "door" "I") ∈ TB := tbm1 (i := 67) rfl rfl
theorem w71 : (Jvm.Cond.fieldLink "ClockTeeth$Figure" (21 : Nat) "ClockTeeth$Figure" "late" "I") ∈ TB := tbm1 (i := 71) rfl rfl
theorem w75 : (Jvm.Cond.fieldLink "ClockTeeth$Figure" (24 : Nat) "ClockTeeth$Figure" "gap" "I") ∈ TB := tbm1 (i := 75) rfl rfl
theorem w197 : (Jvm.Cond.fieldLink "ClockTeeth$Finder" (11 : Nat) "ClockTeeth$Finder" "chosen" "[LClockTeeth$Figure;") ∈ TB := tbm1 (i := 197) rfl rfl
theorem w198 : (Jvm.Cond.fieldLink "ClockTeeth$Finder" (17 : Nat) "ClockTeeth$Finder" "step" "[J") ∈ TB := tbm1 (i := 198) rfl rfl
theorem w199 : (Jvm.Cond.fieldLink "ClockTeeth$Finder" (21 : Nat) "ClockTeeth$Finder" "common" "[J") ∈ TB := tbm1 (i := 199) rfl rfl
theorem w200 : (Jvm.Cond.fieldLink "ClockTeeth$Finder" (24 : Nat) "ClockTeeth$Finder" "inverse" "[J") ∈ TB := tbm1 (i := 200) rfl rfl
theorem w201 : (Jvm.Cond.fieldLink "ClockTeeth$Finder" (27 : Nat) "ClockTeeth$Finder" "levels" "I") ∈ TB := tbm1 (i := 201) rfl rfl
theorem w202 : (Jvm.Cond.fieldLink "ClockTeeth$Finder" (31 : Nat) "ClockTeeth$Finder" "from" "J") ∈ TB := tbm1 (i := 202) rfl rfl
theorem w203 : (Jvm.Cond.fieldLink "ClockTeeth$Finder" (35 : Nat) "ClockTeeth$Finder" "best" "J") ∈ TB := tbm1 (i := 203) rfl rfl
theorem w306 : (Jvm.Cond.fieldLink "ClockTeeth$Reader" (11 : Nat) "ClockTeeth$Reader" "token" "I") ∈ TB := tbm2 (i := 66) rfl rfl
theorem w307 : (Jvm.Cond.fieldLink "ClockTeeth$Reader" (15 : Nat) "ClockTeeth$Reader" "tokenAt" "I") ∈ TB := tbm2 (i := 67) rfl rfl
theorem w308 : (Jvm.Cond.fieldLink "ClockTeeth$Reader" (18 : Nat) "ClockTeeth$Reader" "tokenEnd" "I") ∈ TB := tbm2 (i := 68) rfl rfl
theorem w309 : (Jvm.Cond.fieldLink "ClockTeeth$Reader" (21 : Nat) "ClockTeeth$Reader" "stickTold" "Z") ∈ TB := tbm2 (i := 69) rfl rfl
theorem w310 : (Jvm.Cond.fieldLink "ClockTeeth$Reader" (25 : Nat) "ClockTeeth$Reader" "reachTold" "Z") ∈ TB := tbm2 (i := 70) rfl rfl
theorem w311 : (Jvm.Cond.fieldLink "ClockTeeth$Reader" (28 : Nat) "ClockTeeth$Reader" "found" "I") ∈ TB := tbm2 (i := 71) rfl rfl
theorem w304 : (Jvm.Cond.fieldLink "ClockTeeth$Reader" (34 : Nat) "ClockTeeth$Reader" "tape" "LClockTeeth$Tape;") ∈ TB := tbm2 (i := 64) rfl rfl
theorem w305 : (Jvm.Cond.fieldLink "ClockTeeth$Reader" (38 : Nat) "ClockTeeth$Reader" "told" "LClockTeeth$Clock;") ∈ TB := tbm2 (i := 65) rfl rfl
theorem w152 : (Jvm.Cond.fieldLink "ClockTeeth$Reader" (53 : Nat) "ClockTeeth$Clock" "voteCount" "I") ∈ TB := tbm1 (i := 152) rfl rfl
theorem w144 : (Jvm.Cond.fieldLink "ClockTeeth$Reader" (56 : Nat) "ClockTeeth$Clock" "votes" "[LClockTeeth$Vote;") ∈ TB := tbm1 (i := 144) rfl rfl
theorem w99 : (Jvm.Cond.fieldLink "ClockTeeth$Reader" (60 : Nat) "ClockTeeth$Vote" "goes" "I") ∈ TB := tbm1 (i := 99) rfl rfl
theorem w149 : (Jvm.Cond.fieldLink "ClockTeeth$Reader" (65 : Nat) "ClockTeeth$Clock" "figureCount" "I") ∈ TB := tbm1 (i := 149) rfl rfl
theorem w35 : (Jvm.Cond.fieldLink "ClockTeeth$Reader" (68 : Nat) "ClockTeeth$Tape" "length" "I") ∈ TB := tbm1 (i := 35) rfl rfl
theorem w141 : (Jvm.Cond.fieldLink "ClockTeeth$Reader" (120 : Nat) "ClockTeeth$Clock" "figures" "[LClockTeeth$Figure;") ∈ TB := tbm1 (i := 141) rfl rfl
theorem w32 : (Jvm.Cond.fieldLink "ClockTeeth$Reader" (155 : Nat) "ClockTeeth$Tape" "bytes" "[I") ∈ TB := tbm1 (i := 32) rfl rfl
theorem w228 : (Jvm.Cond.fieldLink "ClockTeeth$Sheet" (9 : Nat) "ClockTeeth$Sheet" "row" "[I") ∈ TB := tbm1 (i := 228) rfl rfl
theorem w230 : (Jvm.Cond.fieldLink "ClockTeeth$Sheet" (15 : Nat) "ClockTeeth$Sheet" "lane" "I") ∈ TB := tbm1 (i := 230) rfl rfl
theorem w232 : (Jvm.Cond.fieldLink "ClockTeeth$Sheet" (19 : Nat) "ClockTeeth$Sheet" "cells" "I") ∈ TB := tbm1 (i := 232) rfl rfl
theorem w31 : (Jvm.Cond.fieldLink "ClockTeeth$Tape" (9 : Nat) "ClockTeeth$Tape" "bytes" "[I") ∈ TB := tbm1 (i := 31) rfl rfl
theorem w33 : (Jvm.Cond.fieldLink "ClockTeeth$Tape" (15 : Nat) "ClockTeeth$Tape" "length" "I") ∈ TB := tbm1 (i := 33) rfl rfl
theorem w95 : (Jvm.Cond.fieldLink "ClockTeeth$Vote" (9 : Nat) "ClockTeeth$Vote" "year" "I") ∈ TB := tbm1 (i := 95) rfl rfl
theorem w98 : (Jvm.Cond.fieldLink "ClockTeeth$Vote" (15 : Nat) "ClockTeeth$Vote" "goes" "I") ∈ TB := tbm1 (i := 98) rfl rfl
theorem w102 : (Jvm.Cond.fieldLink "ClockTeeth$Vote" (18 : Nat) "ClockTeeth$Vote" "teeth" "I") ∈ TB := tbm1 (i := 102) rfl rfl
theorem w105 : (Jvm.Cond.fieldLink "ClockTeeth$Vote" (21 : Nat) "ClockTeeth$Vote" "start" "I") ∈ TB := tbm1 (i := 105) rfl rfl
theorem w108 : (Jvm.Cond.fieldLink "ClockTeeth$Vote" (24 : Nat) "ClockTeeth$Vote" "door" "I") ∈ TB := tbm1 (i := 108) rfl rfl
theorem w900 : (Jvm.Cond.fieldLink "ClockTeethModel" (7 : Nat) "ClockTeethModel" "st" "[I") ∈ TB := tbm4 (i := 180) rfl rfl
theorem w901 : (Jvm.Cond.fieldLink "ClockTeethModel" (13 : Nat) "ClockTeethModel" "isKept" "[Z") ∈ TB := tbm4 (i := 181) rfl rfl
theorem w903 : (Jvm.Cond.fieldLink "ClockTeethModel" (17 : Nat) "ClockTeethModel" "draft" "[I") ∈ TB := tbm4 (i := 183) rfl rfl
theorem w908 : (Jvm.Cond.fieldLink "ClockTeethModel" (20 : Nat) "ClockTeethModel" "tape" "[I") ∈ TB := tbm4 (i := 188) rfl rfl
theorem w916 : (Jvm.Cond.fieldLink "ClockTeethModel" (24 : Nat) "ClockTeethModel" "rests" "[J") ∈ TB := tbm4 (i := 196) rfl rfl
theorem w917 : (Jvm.Cond.fieldLink "ClockTeethModel" (28 : Nat) "ClockTeethModel" "moreRests" "[J") ∈ TB := tbm4 (i := 197) rfl rfl
theorem w922 : (Jvm.Cond.fieldLink "ClockTeethModel" (31 : Nat) "ClockTeethModel" "wasCut" "[I") ∈ TB := tbm4 (i := 202) rfl rfl
theorem w923 : (Jvm.Cond.fieldLink "ClockTeethModel" (34 : Nat) "ClockTeethModel" "lanes" "[I") ∈ TB := tbm4 (i := 203) rfl rfl
theorem w924 : (Jvm.Cond.fieldLink "ClockTeethModel" (37 : Nat) "ClockTeethModel" "sizes" "[I") ∈ TB := tbm4 (i := 204) rfl rfl
theorem w925 : (Jvm.Cond.fieldLink "ClockTeethModel" (40 : Nat) "ClockTeethModel" "cells" "[I") ∈ TB := tbm4 (i := 205) rfl rfl
theorem w904 : (Jvm.Cond.fieldLink "ClockTeethModel" (49 : Nat) "ClockTeethModel" "dReach" "I") ∈ TB := tbm4 (i := 184) rfl rfl
theorem w905 : (Jvm.Cond.fieldLink "ClockTeethModel" (53 : Nat) "ClockTeethModel" "hasReach" "Z") ∈ TB := tbm4 (i := 185) rfl rfl
theorem w906 : (Jvm.Cond.fieldLink "ClockTeethModel" (57 : Nat) "ClockTeethModel" "hasStick" "Z") ∈ TB := tbm4 (i := 186) rfl rfl
theorem w907 : (Jvm.Cond.fieldLink "ClockTeethModel" (60 : Nat) "ClockTeethModel" "highest" "I") ∈ TB := tbm4 (i := 187) rfl rfl
theorem w902 : (Jvm.Cond.fieldLink "ClockTeethModel" (63 : Nat) "ClockTeethModel" "reach" "I") ∈ TB := tbm4 (i := 182) rfl rfl
theorem w909 : (Jvm.Cond.fieldLink "ClockTeethModel" (66 : Nat) "ClockTeethModel" "taped" "I") ∈ TB := tbm4 (i := 189) rfl rfl
theorem w914 : (Jvm.Cond.fieldLink "ClockTeethModel" (75 : Nat) "ClockTeethModel" "fault" "I") ∈ TB := tbm4 (i := 194) rfl rfl
theorem w911 : (Jvm.Cond.fieldLink "ClockTeethModel" (78 : Nat) "ClockTeethModel" "from" "I") ∈ TB := tbm4 (i := 191) rfl rfl
theorem w915 : (Jvm.Cond.fieldLink "ClockTeethModel" (81 : Nat) "ClockTeethModel" "wrongAt" "I") ∈ TB := tbm4 (i := 195) rfl rfl
theorem w910 : (Jvm.Cond.fieldLink "ClockTeethModel" (84 : Nat) "ClockTeethModel" "pos" "I") ∈ TB := tbm4 (i := 190) rfl rfl
theorem w912 : (Jvm.Cond.fieldLink "ClockTeethModel" (99 : Nat) "ClockTeethModel" "sort" "I") ∈ TB := tbm4 (i := 192) rfl rfl
theorem w913 : (Jvm.Cond.fieldLink "ClockTeethModel" (110 : Nat) "ClockTeethModel" "value" "I") ∈ TB := tbm4 (i := 193) rfl rfl
theorem w918 : (Jvm.Cond.fieldLink "ClockTeethModel" (208 : Nat) "ClockTeethModel" "restMany" "I") ∈ TB := tbm4 (i := 198) rfl rfl
theorem w919 : (Jvm.Cond.fieldLink "ClockTeethModel" (211 : Nat) "ClockTeethModel" "restBy" "J") ∈ TB := tbm4 (i := 199) rfl rfl
theorem w920 : (Jvm.Cond.fieldLink "ClockTeethModel" (282 : Nat) "ClockTeethModel" "cutTeeth" "I") ∈ TB := tbm4 (i := 200) rfl rfl
theorem w921 : (Jvm.Cond.fieldLink "ClockTeethModel" (291 : Nat) "ClockTeethModel" "cutFirst" "I") ∈ TB := tbm4 (i := 201) rfl rfl
theorem w926 : (Jvm.Cond.fieldLink "ClockTeethModel" (335 : Nat) "ClockTeethModel" "torn" "I") ∈ TB := tbm4 (i := 206) rfl rfl
theorem w22 : (Jvm.Cond.methodLink "ClockTeeth" (3 : Nat) ({ cls := "java/lang/Object", name := "<init>", desc := "()V" } : Jvm.MethodName)) ∈ TB := tbm1 (i := 22) rfl rfl
theorem w23 : (Jvm.Cond.instanceMethod ({ cls := "java/lang/Object", name := "<init>", desc := "()V" } : Jvm.MethodName)) ∈ TB := tbm1 (i := 23) rfl rfl
theorem w24 : (Jvm.Cond.code ({ cls := "java/lang/Object", name := "<init>", desc := "()V" } : Jvm.MethodName) object_method_1_code (1 : Nat) (Option.none : Option Jvm.ClassFile.FieldType)) ∈ TB := tbm1 (i := 24) rfl rfl
theorem w29 : (Jvm.Cond.code ({ cls := "ClockTeeth$Tape", name := "<init>", desc := "()V" } : Jvm.MethodName) prog_8_method_1_code (1 : Nat) (Option.none : Option Jvm.ClassFile.FieldType)) ∈ TB := tbm1 (i := 29) rfl rfl
theorem w2 : (Jvm.Cond.initialized "ClockTeeth$Tape") ∈ TB := tbm1 (i := 2) rfl rfl
theorem w28 : (Jvm.Cond.instanceMethod ({ cls := "ClockTeeth$Tape", name := "<init>", desc := "()V" } : Jvm.MethodName)) ∈ TB := tbm1 (i := 28) rfl rfl
theorem w46 : (Jvm.Cond.code ({ cls := "ClockTeeth$Clock", name := "<init>", desc := "()V" } : Jvm.MethodName) prog_2_method_1_code (2 : Nat) (Option.none : Option Jvm.ClassFile.FieldType)) ∈ TB := tbm1 (i := 46) rfl rfl
theorem w3 : (Jvm.Cond.initialized "ClockTeeth$Clock") ∈ TB := tbm1 (i := 3) rfl rfl
theorem w44 : (Jvm.Cond.methodLink "ClockTeeth" (18 : Nat) ({ cls := "ClockTeeth$Clock", name := "<init>", desc := "()V" } : Jvm.MethodName)) ∈ TB := tbm1 (i := 44) rfl rfl
theorem w45 : (Jvm.Cond.instanceMethod ({ cls := "ClockTeeth$Clock", name := "<init>", desc := "()V" } : Jvm.MethodName)) ∈ TB := tbm1 (i := 45) rfl rfl
theorem w193 : (Jvm.Cond.code ({ cls := "ClockTeeth$Finder", name := "<init>", desc := "()V" } : Jvm.MethodName) prog_4_method_1_code (2 : Nat) (Option.none : Option Jvm.ClassFile.FieldType)) ∈ TB := tbm1 (i := 193) rfl rfl
theorem w7 : (Jvm.Cond.initialized "ClockTeeth$Finder") ∈ TB := tbm1 (i := 7) rfl rfl
theorem w191 : (Jvm.Cond.methodLink "ClockTeeth" (42 : Nat) ({ cls := "ClockTeeth$Finder", name := "<init>", desc := "()V" } : Jvm.MethodName)) ∈ TB := tbm1 (i := 191) rfl rfl
theorem w192 : (Jvm.Cond.instanceMethod ({ cls := "ClockTeeth$Finder", name := "<init>", desc := "()V" } : Jvm.MethodName)) ∈ TB := tbm1 (i := 192) rfl rfl
theorem w57 : (Jvm.Cond.code ({ cls := "ClockTeeth$Figure", name := "<init>", desc := "()V" } : Jvm.MethodName) prog_3_method_1_code (1 : Nat) (Option.none : Option Jvm.ClassFile.FieldType)) ∈ TB := tbm1 (i := 57) rfl rfl
theorem w4 : (Jvm.Cond.initialized "ClockTeeth$Figure") ∈ TB := tbm1 (i := 4) rfl rfl
theorem w56 : (Jvm.Cond.instanceMethod ({ cls := "ClockTeeth$Figure", name := "<init>", desc := "()V" } : Jvm.MethodName)) ∈ TB := tbm1 (i := 56) rfl rfl
theorem w226 : (Jvm.Cond.code ({ cls := "ClockTeeth$Sheet", name := "<init>", desc := "()V" } : Jvm.MethodName) prog_6_method_1_code (1 : Nat) (Option.none : Option Jvm.ClassFile.FieldType)) ∈ TB := tbm1 (i := 226) rfl rfl
theorem w8 : (Jvm.Cond.initialized "ClockTeeth$Sheet") ∈ TB := tbm1 (i := 8) rfl rfl
theorem w225 : (Jvm.Cond.instanceMethod ({ cls := "ClockTeeth$Sheet", name := "<init>", desc := "()V" } : Jvm.MethodName)) ∈ TB := tbm1 (i := 225) rfl rfl
theorem w302 : (Jvm.Cond.code ({ cls := "ClockTeeth$Reader", name := "<init>", desc := "(LClockTeeth$Tape;LClockTeeth$Clock;)V" } : Jvm.MethodName) prog_5_method_1_code (3 : Nat) (Option.none : Option Jvm.ClassFile.FieldType)) ∈ TB := tbm2 (i := 62) rfl rfl
theorem w10 : (Jvm.Cond.initialized "ClockTeeth$Reader") ∈ TB := tbm1 (i := 10) rfl rfl
theorem w300 : (Jvm.Cond.methodLink "ClockTeeth" (81 : Nat) ({ cls := "ClockTeeth$Reader", name := "<init>", desc := "(LClockTeeth$Tape;LClockTeeth$Clock;)V" } : Jvm.MethodName)) ∈ TB := tbm2 (i := 60) rfl rfl
theorem w301 : (Jvm.Cond.instanceMethod ({ cls := "ClockTeeth$Reader", name := "<init>", desc := "(LClockTeeth$Tape;LClockTeeth$Clock;)V" } : Jvm.MethodName)) ∈ TB := tbm2 (i := 61) rfl rfl
theorem w47 : (Jvm.Cond.methodLink "ClockTeeth$Clock" (3 : Nat) ({ cls := "java/lang/Object", name := "<init>", desc := "()V" } : Jvm.MethodName)) ∈ TB := tbm1 (i := 47) rfl rfl
theorem w93 : (Jvm.Cond.code ({ cls := "ClockTeeth$Vote", name := "<init>", desc := "()V" } : Jvm.MethodName) prog_9_method_1_code (1 : Nat) (Option.none : Option Jvm.ClassFile.FieldType)) ∈ TB := tbm1 (i := 93) rfl rfl
theorem w5 : (Jvm.Cond.initialized "ClockTeeth$Vote") ∈ TB := tbm1 (i := 5) rfl rfl
theorem w92 : (Jvm.Cond.instanceMethod ({ cls := "ClockTeeth$Vote", name := "<init>", desc := "()V" } : Jvm.MethodName)) ∈ TB := tbm1 (i := 92) rfl rfl
theorem w125 : (Jvm.Cond.code ({ cls := "ClockTeeth$Sight", name := "<init>", desc := "()V" } : Jvm.MethodName) prog_7_method_1_code (1 : Nat) (Option.none : Option Jvm.ClassFile.FieldType)) ∈ TB := tbm1 (i := 125) rfl rfl
theorem w6 : (Jvm.Cond.initialized "ClockTeeth$Sight") ∈ TB := tbm1 (i := 6) rfl rfl
theorem w124 : (Jvm.Cond.instanceMethod ({ cls := "ClockTeeth$Sight", name := "<init>", desc := "()V" } : Jvm.MethodName)) ∈ TB := tbm1 (i := 124) rfl rfl
theorem w58 : (Jvm.Cond.methodLink "ClockTeeth$Figure" (3 : Nat) ({ cls := "java/lang/Object", name := "<init>", desc := "()V" } : Jvm.MethodName)) ∈ TB := tbm1 (i := 58) rfl rfl
theorem w194 : (Jvm.Cond.methodLink "ClockTeeth$Finder" (3 : Nat) ({ cls := "java/lang/Object", name := "<init>", desc := "()V" } : Jvm.MethodName)) ∈ TB := tbm1 (i := 194) rfl rfl
theorem w303 : (Jvm.Cond.methodLink "ClockTeeth$Reader" (3 : Nat) ({ cls := "java/lang/Object", name := "<init>", desc := "()V" } : Jvm.MethodName)) ∈ TB := tbm2 (i := 63) rfl rfl
theorem w227 : (Jvm.Cond.methodLink "ClockTeeth$Sheet" (3 : Nat) ({ cls := "java/lang/Object", name := "<init>", desc := "()V" } : Jvm.MethodName)) ∈ TB := tbm1 (i := 227) rfl rfl
theorem w126 : (Jvm.Cond.methodLink "ClockTeeth$Sight" (1 : Nat) ({ cls := "java/lang/Object", name := "<init>", desc := "()V" } : Jvm.MethodName)) ∈ TB := tbm1 (i := 126) rfl rfl
theorem w30 : (Jvm.Cond.methodLink "ClockTeeth$Tape" (3 : Nat) ({ cls := "java/lang/Object", name := "<init>", desc := "()V" } : Jvm.MethodName)) ∈ TB := tbm1 (i := 30) rfl rfl
theorem w94 : (Jvm.Cond.methodLink "ClockTeeth$Vote" (3 : Nat) ({ cls := "java/lang/Object", name := "<init>", desc := "()V" } : Jvm.MethodName)) ∈ TB := tbm1 (i := 94) rfl rfl
theorem w21 : (Jvm.Cond.code ({ cls := "ClockTeeth", name := "<init>", desc := "()V" } : Jvm.MethodName) prog_1_method_1_code (2 : Nat) (Option.none : Option Jvm.ClassFile.FieldType)) ∈ TB := tbm1 (i := 21) rfl rfl
theorem w1 : (Jvm.Cond.initialized "ClockTeeth") ∈ TB := tbm1 (i := 1) rfl rfl
theorem w19 : (Jvm.Cond.methodLink "ClockTeethLaw" (9 : Nat) ({ cls := "ClockTeeth", name := "<init>", desc := "()V" } : Jvm.MethodName)) ∈ TB := tbm1 (i := 19) rfl rfl
theorem w20 : (Jvm.Cond.instanceMethod ({ cls := "ClockTeeth", name := "<init>", desc := "()V" } : Jvm.MethodName)) ∈ TB := tbm1 (i := 20) rfl rfl
theorem w889 : (Jvm.Cond.code ({ cls := "ClockTeethModel", name := "<init>", desc := "()V" } : Jvm.MethodName) prog_11_method_1_code (2 : Nat) (Option.none : Option Jvm.ClassFile.FieldType)) ∈ TB := tbm4 (i := 169) rfl rfl
theorem w9 : (Jvm.Cond.initialized "ClockTeethModel") ∈ TB := tbm1 (i := 9) rfl rfl
theorem w887 : (Jvm.Cond.methodLink "ClockTeethLaw" (12 : Nat) ({ cls := "ClockTeethModel", name := "<init>", desc := "()V" } : Jvm.MethodName)) ∈ TB := tbm4 (i := 167) rfl rfl
theorem w888 : (Jvm.Cond.instanceMethod ({ cls := "ClockTeethModel", name := "<init>", desc := "()V" } : Jvm.MethodName)) ∈ TB := tbm4 (i := 168) rfl rfl
theorem w890 : (Jvm.Cond.methodLink "ClockTeethModel" (1 : Nat) ({ cls := "java/lang/Object", name := "<init>", desc := "()V" } : Jvm.MethodName)) ∈ TB := tbm4 (i := 170) rfl rfl
theorem w522 : (Jvm.Cond.code ({ cls := "ClockTeeth", name := "isDay", desc := "(J)Z" } : Jvm.MethodName) prog_1_method_47_code (2 : Nat) (Option.some Jvm.ClassFile.FieldType.boolean)) ∈ TB := tbm3 (i := 42) rfl rfl
theorem w520 : (Jvm.Cond.methodLink "ClockTeeth" (160 : Nat) ({ cls := "ClockTeeth", name := "isDay", desc := "(J)Z" } : Jvm.MethodName)) ∈ TB := tbm3 (i := 40) rfl rfl
theorem w521 : (Jvm.Cond.static ({ cls := "ClockTeeth", name := "isDay", desc := "(J)Z" } : Jvm.MethodName)) ∈ TB := tbm3 (i := 41) rfl rfl
theorem w531 : (Jvm.Cond.code ({ cls := "ClockTeeth", name := "rest", desc := "(JJ)J" } : Jvm.MethodName) prog_1_method_62_code (6 : Nat) (Option.some Jvm.ClassFile.FieldType.long)) ∈ TB := tbm3 (i := 51) rfl rfl
theorem w592 : (Jvm.Cond.methodLink "ClockTeeth" (181 : Nat) ({ cls := "ClockTeeth", name := "rest", desc := "(JJ)J" } : Jvm.MethodName)) ∈ TB := tbm3 (i := 112) rfl rfl
theorem w530 : (Jvm.Cond.static ({ cls := "ClockTeeth", name := "rest", desc := "(JJ)J" } : Jvm.MethodName)) ∈ TB := tbm3 (i := 50) rfl rfl
theorem w599 : (Jvm.Cond.code ({ cls := "ClockTeeth", name := "isSpan", desc := "(JJ)Z" } : Jvm.MethodName) prog_1_method_48_code (4 : Nat) (Option.some Jvm.ClassFile.FieldType.boolean)) ∈ TB := tbm3 (i := 119) rfl rfl
theorem w597 : (Jvm.Cond.methodLink "ClockTeeth" (185 : Nat) ({ cls := "ClockTeeth", name := "isSpan", desc := "(JJ)Z" } : Jvm.MethodName)) ∈ TB := tbm3 (i := 117) rfl rfl
theorem w598 : (Jvm.Cond.static ({ cls := "ClockTeeth", name := "isSpan", desc := "(JJ)Z" } : Jvm.MethodName)) ∈ TB := tbm3 (i := 118) rfl rfl
theorem w657 : (Jvm.Cond.code ({ cls := "ClockTeeth", name := "isYesOrNo", desc := "(I)Z" } : Jvm.MethodName) prog_1_method_52_code (1 : Nat) (Option.some Jvm.ClassFile.FieldType.boolean)) ∈ TB := tbm3 (i := 177) rfl rfl
theorem w655 : (Jvm.Cond.methodLink "ClockTeeth" (207 : Nat) ({ cls := "ClockTeeth", name := "isYesOrNo", desc := "(I)Z" } : Jvm.MethodName)) ∈ TB := tbm3 (i := 175) rfl rfl
theorem w656 : (Jvm.Cond.static ({ cls := "ClockTeeth", name := "isYesOrNo", desc := "(I)Z" } : Jvm.MethodName)) ∈ TB := tbm3 (i := 176) rfl rfl
theorem w665 : (Jvm.Cond.code ({ cls := "ClockTeeth", name := "yearOf", desc := "(J)J" } : Jvm.MethodName) prog_1_method_60_code (5 : Nat) (Option.some Jvm.ClassFile.FieldType.long)) ∈ TB := tbm3 (i := 185) rfl rfl
theorem w663 : (Jvm.Cond.methodLink "ClockTeeth" (212 : Nat) ({ cls := "ClockTeeth", name := "yearOf", desc := "(J)J" } : Jvm.MethodName)) ∈ TB := tbm3 (i := 183) rfl rfl
theorem w664 : (Jvm.Cond.static ({ cls := "ClockTeeth", name := "yearOf", desc := "(J)J" } : Jvm.MethodName)) ∈ TB := tbm3 (i := 184) rfl rfl
theorem w670 : (Jvm.Cond.code ({ cls := "ClockTeeth", name := "dayOfYear", desc := "(J)I" } : Jvm.MethodName) prog_1_method_61_code (3 : Nat) (Option.some Jvm.ClassFile.FieldType.int)) ∈ TB := tbm3 (i := 190) rfl rfl
theorem w668 : (Jvm.Cond.methodLink "ClockTeeth" (216 : Nat) ({ cls := "ClockTeeth", name := "dayOfYear", desc := "(J)I" } : Jvm.MethodName)) ∈ TB := tbm3 (i := 188) rfl rfl
theorem w669 : (Jvm.Cond.static ({ cls := "ClockTeeth", name := "dayOfYear", desc := "(J)I" } : Jvm.MethodName)) ∈ TB := tbm3 (i := 189) rfl rfl
theorem w690 : (Jvm.Cond.code ({ cls := "ClockTeeth", name := "isDayCount", desc := "(I)Z" } : Jvm.MethodName) prog_1_method_49_code (1 : Nat) (Option.some Jvm.ClassFile.FieldType.boolean)) ∈ TB := tbm3 (i := 210) rfl rfl
theorem w688 : (Jvm.Cond.methodLink "ClockTeeth" (226 : Nat) ({ cls := "ClockTeeth", name := "isDayCount", desc := "(I)Z" } : Jvm.MethodName)) ∈ TB := tbm3 (i := 208) rfl rfl
theorem w689 : (Jvm.Cond.static ({ cls := "ClockTeeth", name := "isDayCount", desc := "(I)Z" } : Jvm.MethodName)) ∈ TB := tbm3 (i := 209) rfl rfl
theorem w704 : (Jvm.Cond.code ({ cls := "ClockTeeth", name := "isDoor", desc := "(I)Z" } : Jvm.MethodName) prog_1_method_50_code (1 : Nat) (Option.some Jvm.ClassFile.FieldType.boolean)) ∈ TB := tbm3 (i := 224) rfl rfl
theorem w702 : (Jvm.Cond.methodLink "ClockTeeth" (232 : Nat) ({ cls := "ClockTeeth", name := "isDoor", desc := "(I)Z" } : Jvm.MethodName)) ∈ TB := tbm3 (i := 222) rfl rfl
theorem w703 : (Jvm.Cond.static ({ cls := "ClockTeeth", name := "isDoor", desc := "(I)Z" } : Jvm.MethodName)) ∈ TB := tbm3 (i := 223) rfl rfl
theorem w748 : (Jvm.Cond.code ({ cls := "ClockTeeth", name := "isWheel", desc := "(II)Z" } : Jvm.MethodName) prog_1_method_51_code (2 : Nat) (Option.some Jvm.ClassFile.FieldType.boolean)) ∈ TB := tbm4 (i := 28) rfl rfl
theorem w746 : (Jvm.Cond.methodLink "ClockTeeth" (253 : Nat) ({ cls := "ClockTeeth", name := "isWheel", desc := "(II)Z" } : Jvm.MethodName)) ∈ TB := tbm4 (i := 26) rfl rfl
theorem w747 : (Jvm.Cond.static ({ cls := "ClockTeeth", name := "isWheel", desc := "(II)Z" } : Jvm.MethodName)) ∈ TB := tbm4 (i := 27) rfl rfl
theorem w735 : (Jvm.Cond.code ({ cls := "ClockTeeth", name := "lowestBit", desc := "(J)I" } : Jvm.MethodName) prog_1_method_64_code (3 : Nat) (Option.some Jvm.ClassFile.FieldType.int)) ∈ TB := tbm4 (i := 15) rfl rfl
theorem w801 : (Jvm.Cond.methodLink "ClockTeeth" (284 : Nat) ({ cls := "ClockTeeth", name := "lowestBit", desc := "(J)I" } : Jvm.MethodName)) ∈ TB := tbm4 (i := 81) rfl rfl
theorem w734 : (Jvm.Cond.static ({ cls := "ClockTeeth", name := "lowestBit", desc := "(J)I" } : Jvm.MethodName)) ∈ TB := tbm4 (i := 14) rfl rfl
theorem w804 : (Jvm.Cond.code ({ cls := "java/lang/Long", name := "bitCount", desc := "(J)I" } : Jvm.MethodName) prog_12_method_50_code (2 : Nat) (Option.some Jvm.ClassFile.FieldType.int)) ∈ TB := tbm4 (i := 84) rfl rfl
theorem w16 : (Jvm.Cond.initialized "java/lang/Long") ∈ TB := tbm1 (i := 16) rfl rfl
theorem w802 : (Jvm.Cond.methodLink "ClockTeeth" (287 : Nat) ({ cls := "java/lang/Long", name := "bitCount", desc := "(J)I" } : Jvm.MethodName)) ∈ TB := tbm4 (i := 82) rfl rfl
theorem w803 : (Jvm.Cond.static ({ cls := "java/lang/Long", name := "bitCount", desc := "(J)I" } : Jvm.MethodName)) ∈ TB := tbm4 (i := 83) rfl rfl
theorem w837 : (Jvm.Cond.code ({ cls := "ClockTeeth", name := "isImage", desc := "(I)Z" } : Jvm.MethodName) prog_1_method_53_code (1 : Nat) (Option.some Jvm.ClassFile.FieldType.boolean)) ∈ TB := tbm4 (i := 117) rfl rfl
theorem w835 : (Jvm.Cond.methodLink "ClockTeeth" (296 : Nat) ({ cls := "ClockTeeth", name := "isImage", desc := "(I)Z" } : Jvm.MethodName)) ∈ TB := tbm4 (i := 115) rfl rfl
theorem w836 : (Jvm.Cond.static ({ cls := "ClockTeeth", name := "isImage", desc := "(I)Z" } : Jvm.MethodName)) ∈ TB := tbm4 (i := 116) rfl rfl
theorem w848 : (Jvm.Cond.code ({ cls := "ClockTeeth", name := "isSheet", desc := "(I)Z" } : Jvm.MethodName) prog_1_method_54_code (1 : Nat) (Option.some Jvm.ClassFile.FieldType.boolean)) ∈ TB := tbm4 (i := 128) rfl rfl
theorem w846 : (Jvm.Cond.methodLink "ClockTeeth" (299 : Nat) ({ cls := "ClockTeeth", name := "isSheet", desc := "(I)Z" } : Jvm.MethodName)) ∈ TB := tbm4 (i := 126) rfl rfl
theorem w847 : (Jvm.Cond.static ({ cls := "ClockTeeth", name := "isSheet", desc := "(I)Z" } : Jvm.MethodName)) ∈ TB := tbm4 (i := 127) rfl rfl
theorem w851 : (Jvm.Cond.code ({ cls := "ClockTeeth", name := "isLane", desc := "(I)Z" } : Jvm.MethodName) prog_1_method_55_code (1 : Nat) (Option.some Jvm.ClassFile.FieldType.boolean)) ∈ TB := tbm4 (i := 131) rfl rfl
theorem w849 : (Jvm.Cond.methodLink "ClockTeeth" (302 : Nat) ({ cls := "ClockTeeth", name := "isLane", desc := "(I)Z" } : Jvm.MethodName)) ∈ TB := tbm4 (i := 129) rfl rfl
theorem w850 : (Jvm.Cond.static ({ cls := "ClockTeeth", name := "isLane", desc := "(I)Z" } : Jvm.MethodName)) ∈ TB := tbm4 (i := 130) rfl rfl
theorem w822 : (Jvm.Cond.code ({ cls := "ClockTeeth", name := "near", desc := "(II)I" } : Jvm.MethodName) prog_1_method_59_code (4 : Nat) (Option.some Jvm.ClassFile.FieldType.int)) ∈ TB := tbm4 (i := 102) rfl rfl
theorem w820 : (Jvm.Cond.methodLink "ClockTeeth" (343 : Nat) ({ cls := "ClockTeeth", name := "near", desc := "(II)I" } : Jvm.MethodName)) ∈ TB := tbm4 (i := 100) rfl rfl
theorem w821 : (Jvm.Cond.static ({ cls := "ClockTeeth", name := "near", desc := "(II)I" } : Jvm.MethodName)) ∈ TB := tbm4 (i := 101) rfl rfl
theorem w534 : (Jvm.Cond.code ({ cls := "java/lang/Math", name := "max", desc := "(II)I" } : Jvm.MethodName) prog_13_method_65_code (2 : Nat) (Option.some Jvm.ClassFile.FieldType.int)) ∈ TB := tbm3 (i := 54) rfl rfl
theorem w15 : (Jvm.Cond.initialized "java/lang/Math") ∈ TB := tbm1 (i := 15) rfl rfl
theorem w823 : (Jvm.Cond.methodLink "ClockTeeth" (347 : Nat) ({ cls := "java/lang/Math", name := "max", desc := "(II)I" } : Jvm.MethodName)) ∈ TB := tbm4 (i := 103) rfl rfl
theorem w533 : (Jvm.Cond.static ({ cls := "java/lang/Math", name := "max", desc := "(II)I" } : Jvm.MethodName)) ∈ TB := tbm3 (i := 53) rfl rfl
theorem w826 : (Jvm.Cond.code ({ cls := "java/lang/Math", name := "min", desc := "(II)I" } : Jvm.MethodName) prog_13_method_69_code (2 : Nat) (Option.some Jvm.ClassFile.FieldType.int)) ∈ TB := tbm4 (i := 106) rfl rfl
theorem w824 : (Jvm.Cond.methodLink "ClockTeeth" (352 : Nat) ({ cls := "java/lang/Math", name := "min", desc := "(II)I" } : Jvm.MethodName)) ∈ TB := tbm4 (i := 104) rfl rfl
theorem w825 : (Jvm.Cond.static ({ cls := "java/lang/Math", name := "min", desc := "(II)I" } : Jvm.MethodName)) ∈ TB := tbm4 (i := 105) rfl rfl
theorem w558 : (Jvm.Cond.code ({ cls := "java/lang/Math", name := "max", desc := "(JJ)J" } : Jvm.MethodName) prog_13_method_66_code (4 : Nat) (Option.some Jvm.ClassFile.FieldType.long)) ∈ TB := tbm3 (i := 78) rfl rfl
theorem w556 : (Jvm.Cond.methodLink "ClockTeeth" (359 : Nat) ({ cls := "java/lang/Math", name := "max", desc := "(JJ)J" } : Jvm.MethodName)) ∈ TB := tbm3 (i := 76) rfl rfl
theorem w557 : (Jvm.Cond.static ({ cls := "java/lang/Math", name := "max", desc := "(JJ)J" } : Jvm.MethodName)) ∈ TB := tbm3 (i := 77) rfl rfl
theorem w725 : (Jvm.Cond.code ({ cls := "ClockTeeth$Clock", name := "freeOf", desc := "(LClockTeeth$Figure;LClockTeeth$Figure;J)J" } : Jvm.MethodName) prog_2_method_16_code (11 : Nat) (Option.some Jvm.ClassFile.FieldType.long)) ∈ TB := tbm4 (i := 5) rfl rfl
theorem w723 : (Jvm.Cond.methodLink "ClockTeeth$Clock" (137 : Nat) ({ cls := "ClockTeeth$Clock", name := "freeOf", desc := "(LClockTeeth$Figure;LClockTeeth$Figure;J)J" } : Jvm.MethodName)) ∈ TB := tbm4 (i := 3) rfl rfl
theorem w724 : (Jvm.Cond.static ({ cls := "ClockTeeth$Clock", name := "freeOf", desc := "(LClockTeeth$Figure;LClockTeeth$Figure;J)J" } : Jvm.MethodName)) ∈ TB := tbm4 (i := 4) rfl rfl
theorem w555 : (Jvm.Cond.code ({ cls := "ClockTeeth", name := "commonDivisor", desc := "(JJ)J" } : Jvm.MethodName) prog_1_method_63_code (11 : Nat) (Option.some Jvm.ClassFile.FieldType.long)) ∈ TB := tbm3 (i := 75) rfl rfl
theorem w554 : (Jvm.Cond.static ({ cls := "ClockTeeth", name := "commonDivisor", desc := "(JJ)J" } : Jvm.MethodName)) ∈ TB := tbm3 (i := 74) rfl rfl
theorem w532 : (Jvm.Cond.methodLink "ClockTeeth$Figure" (27 : Nat) ({ cls := "java/lang/Math", name := "max", desc := "(II)I" } : Jvm.MethodName)) ∈ TB := tbm3 (i := 52) rfl rfl
theorem w567 : (Jvm.Cond.code ({ cls := "ClockTeeth$Finder", name := "search", desc := "(LClockTeeth$Finder;IJ)V" } : Jvm.MethodName) prog_4_method_9_code (7 : Nat) (Option.none : Option Jvm.ClassFile.FieldType)) ∈ TB := tbm3 (i := 87) rfl rfl
theorem w565 : (Jvm.Cond.methodLink "ClockTeeth$Finder" (45 : Nat) ({ cls := "ClockTeeth$Finder", name := "search", desc := "(LClockTeeth$Finder;IJ)V" } : Jvm.MethodName)) ∈ TB := tbm3 (i := 85) rfl rfl
theorem w566 : (Jvm.Cond.static ({ cls := "ClockTeeth$Finder", name := "search", desc := "(LClockTeeth$Finder;IJ)V" } : Jvm.MethodName)) ∈ TB := tbm3 (i := 86) rfl rfl
theorem w606 : (Jvm.Cond.code ({ cls := "ClockTeeth$Finder", name := "countOf", desc := "(LClockTeeth$Finder;IJJ)J" } : Jvm.MethodName) prog_4_method_10_code (11 : Nat) (Option.some Jvm.ClassFile.FieldType.long)) ∈ TB := tbm3 (i := 126) rfl rfl
theorem w604 : (Jvm.Cond.methodLink "ClockTeeth$Finder" (51 : Nat) ({ cls := "ClockTeeth$Finder", name := "countOf", desc := "(LClockTeeth$Finder;IJJ)J" } : Jvm.MethodName)) ∈ TB := tbm3 (i := 124) rfl rfl
theorem w605 : (Jvm.Cond.static ({ cls := "ClockTeeth$Finder", name := "countOf", desc := "(LClockTeeth$Finder;IJJ)J" } : Jvm.MethodName)) ∈ TB := tbm3 (i := 125) rfl rfl
theorem w562 : (Jvm.Cond.code ({ cls := "ClockTeeth$Finder", name := "inverseOf", desc := "(JJ)J" } : Jvm.MethodName) prog_4_method_7_code (6 : Nat) (Option.some Jvm.ClassFile.FieldType.long)) ∈ TB := tbm3 (i := 82) rfl rfl
theorem w560 : (Jvm.Cond.methodLink "ClockTeeth$Finder" (70 : Nat) ({ cls := "ClockTeeth$Finder", name := "inverseOf", desc := "(JJ)J" } : Jvm.MethodName)) ∈ TB := tbm3 (i := 80) rfl rfl
theorem w561 : (Jvm.Cond.static ({ cls := "ClockTeeth$Finder", name := "inverseOf", desc := "(JJ)J" } : Jvm.MethodName)) ∈ TB := tbm3 (i := 81) rfl rfl
theorem w607 : (Jvm.Cond.methodLink "ClockTeeth$Finder" (87 : Nat) ({ cls := "java/lang/Math", name := "max", desc := "(JJ)J" } : Jvm.MethodName)) ∈ TB := tbm3 (i := 127) rfl rfl
theorem w993 : (Jvm.Cond.code ({ cls := "ClockTeethModel", name := "in", desc := "(JJJ)Z" } : Jvm.MethodName) prog_11_method_3_code (6 : Nat) (Option.some Jvm.ClassFile.FieldType.boolean)) ∈ TB := tbm5 (i := 33) rfl rfl
theorem w991 : (Jvm.Cond.methodLink "ClockTeethModel" (71 : Nat) ({ cls := "ClockTeethModel", name := "in", desc := "(JJJ)Z" } : Jvm.MethodName)) ∈ TB := tbm5 (i := 31) rfl rfl
theorem w992 : (Jvm.Cond.static ({ cls := "ClockTeethModel", name := "in", desc := "(JJJ)Z" } : Jvm.MethodName)) ∈ TB := tbm5 (i := 32) rfl rfl
theorem w1086 : (Jvm.Cond.code ({ cls := "ClockTeethModel", name := "isDay", desc := "(J)Z" } : Jvm.MethodName) prog_11_method_32_code (2 : Nat) (Option.some Jvm.ClassFile.FieldType.boolean)) ∈ TB := tbm5 (i := 126) rfl rfl
theorem w1084 : (Jvm.Cond.methodLink "ClockTeethModel" (165 : Nat) ({ cls := "ClockTeethModel", name := "isDay", desc := "(J)Z" } : Jvm.MethodName)) ∈ TB := tbm5 (i := 124) rfl rfl
theorem w1085 : (Jvm.Cond.static ({ cls := "ClockTeethModel", name := "isDay", desc := "(J)Z" } : Jvm.MethodName)) ∈ TB := tbm5 (i := 125) rfl rfl
theorem w1102 : (Jvm.Cond.code ({ cls := "ClockTeethModel", name := "flag", desc := "(Z)I" } : Jvm.MethodName) prog_11_method_4_code (1 : Nat) (Option.some Jvm.ClassFile.FieldType.int)) ∈ TB := tbm5 (i := 142) rfl rfl
theorem w1100 : (Jvm.Cond.methodLink "ClockTeethModel" (173 : Nat) ({ cls := "ClockTeethModel", name := "flag", desc := "(Z)I" } : Jvm.MethodName)) ∈ TB := tbm5 (i := 140) rfl rfl
theorem w1101 : (Jvm.Cond.static ({ cls := "ClockTeethModel", name := "flag", desc := "(Z)I" } : Jvm.MethodName)) ∈ TB := tbm5 (i := 141) rfl rfl
theorem w1114 : (Jvm.Cond.code ({ cls := "ClockTeethModel", name := "firstBy", desc := "(JJJ)J" } : Jvm.MethodName) prog_11_method_34_code (8 : Nat) (Option.some Jvm.ClassFile.FieldType.long)) ∈ TB := tbm5 (i := 154) rfl rfl
theorem w1112 : (Jvm.Cond.methodLink "ClockTeethModel" (179 : Nat) ({ cls := "ClockTeethModel", name := "firstBy", desc := "(JJJ)J" } : Jvm.MethodName)) ∈ TB := tbm5 (i := 152) rfl rfl
theorem w1113 : (Jvm.Cond.static ({ cls := "ClockTeethModel", name := "firstBy", desc := "(JJJ)J" } : Jvm.MethodName)) ∈ TB := tbm5 (i := 153) rfl rfl
theorem w1117 : (Jvm.Cond.code ({ cls := "ClockTeethModel", name := "toEnd", desc := "(J)J" } : Jvm.MethodName) prog_11_method_36_code (2 : Nat) (Option.some Jvm.ClassFile.FieldType.long)) ∈ TB := tbm5 (i := 157) rfl rfl
theorem w1115 : (Jvm.Cond.methodLink "ClockTeethModel" (189 : Nat) ({ cls := "ClockTeethModel", name := "toEnd", desc := "(J)J" } : Jvm.MethodName)) ∈ TB := tbm5 (i := 155) rfl rfl
theorem w1116 : (Jvm.Cond.static ({ cls := "ClockTeethModel", name := "toEnd", desc := "(J)J" } : Jvm.MethodName)) ∈ TB := tbm5 (i := 156) rfl rfl
theorem w1135 : (Jvm.Cond.code ({ cls := "ClockTeethModel", name := "upTo", desc := "(JJJ)J" } : Jvm.MethodName) prog_11_method_39_code (6 : Nat) (Option.some Jvm.ClassFile.FieldType.long)) ∈ TB := tbm5 (i := 175) rfl rfl
theorem w1133 : (Jvm.Cond.methodLink "ClockTeethModel" (193 : Nat) ({ cls := "ClockTeethModel", name := "upTo", desc := "(JJJ)J" } : Jvm.MethodName)) ∈ TB := tbm5 (i := 173) rfl rfl
theorem w1134 : (Jvm.Cond.static ({ cls := "ClockTeethModel", name := "upTo", desc := "(JJJ)J" } : Jvm.MethodName)) ∈ TB := tbm5 (i := 174) rfl rfl
theorem w1129 : (Jvm.Cond.code ({ cls := "ClockTeethModel", name := "areDays", desc := "(JJ)Z" } : Jvm.MethodName) prog_11_method_41_code (4 : Nat) (Option.some Jvm.ClassFile.FieldType.boolean)) ∈ TB := tbm5 (i := 169) rfl rfl
theorem w1127 : (Jvm.Cond.methodLink "ClockTeethModel" (196 : Nat) ({ cls := "ClockTeethModel", name := "areDays", desc := "(JJ)Z" } : Jvm.MethodName)) ∈ TB := tbm5 (i := 167) rfl rfl
theorem w1128 : (Jvm.Cond.static ({ cls := "ClockTeethModel", name := "areDays", desc := "(JJ)Z" } : Jvm.MethodName)) ∈ TB := tbm5 (i := 168) rfl rfl
theorem w1132 : (Jvm.Cond.code ({ cls := "ClockTeethModel", name := "manyBy", desc := "(JJJJ)J" } : Jvm.MethodName) prog_11_method_40_code (8 : Nat) (Option.some Jvm.ClassFile.FieldType.long)) ∈ TB := tbm5 (i := 172) rfl rfl
theorem w1130 : (Jvm.Cond.methodLink "ClockTeethModel" (200 : Nat) ({ cls := "ClockTeethModel", name := "manyBy", desc := "(JJJJ)J" } : Jvm.MethodName)) ∈ TB := tbm5 (i := 170) rfl rfl
theorem w1131 : (Jvm.Cond.static ({ cls := "ClockTeethModel", name := "manyBy", desc := "(JJJJ)J" } : Jvm.MethodName)) ∈ TB := tbm5 (i := 171) rfl rfl
theorem w1165 : (Jvm.Cond.code ({ cls := "ClockTeethModel", name := "common", desc := "(JJ)J" } : Jvm.MethodName) prog_11_method_43_code (10 : Nat) (Option.some Jvm.ClassFile.FieldType.long)) ∈ TB := tbm5 (i := 205) rfl rfl
theorem w1163 : (Jvm.Cond.methodLink "ClockTeethModel" (204 : Nat) ({ cls := "ClockTeethModel", name := "common", desc := "(JJ)J" } : Jvm.MethodName)) ∈ TB := tbm5 (i := 203) rfl rfl
theorem w1164 : (Jvm.Cond.static ({ cls := "ClockTeethModel", name := "common", desc := "(JJ)J" } : Jvm.MethodName)) ∈ TB := tbm5 (i := 204) rfl rfl
theorem w1162 : (Jvm.Cond.code ({ cls := "ClockTeethModel", name := "multiple", desc := "(JJ)J" } : Jvm.MethodName) prog_11_method_44_code (4 : Nat) (Option.some Jvm.ClassFile.FieldType.long)) ∈ TB := tbm5 (i := 202) rfl rfl
theorem w1160 : (Jvm.Cond.methodLink "ClockTeethModel" (215 : Nat) ({ cls := "ClockTeethModel", name := "multiple", desc := "(JJ)J" } : Jvm.MethodName)) ∈ TB := tbm5 (i := 200) rfl rfl
theorem w1161 : (Jvm.Cond.static ({ cls := "ClockTeethModel", name := "multiple", desc := "(JJ)J" } : Jvm.MethodName)) ∈ TB := tbm5 (i := 201) rfl rfl
theorem w1209 : (Jvm.Cond.code ({ cls := "ClockTeethModel", name := "ofFour", desc := "(J)I" } : Jvm.MethodName) prog_11_method_62_code (3 : Nat) (Option.some Jvm.ClassFile.FieldType.int)) ∈ TB := tbm6 (i := 9) rfl rfl
theorem w1207 : (Jvm.Cond.methodLink "ClockTeethModel" (250 : Nat) ({ cls := "ClockTeethModel", name := "ofFour", desc := "(J)I" } : Jvm.MethodName)) ∈ TB := tbm6 (i := 7) rfl rfl
theorem w1208 : (Jvm.Cond.static ({ cls := "ClockTeethModel", name := "ofFour", desc := "(J)I" } : Jvm.MethodName)) ∈ TB := tbm6 (i := 8) rfl rfl
theorem w1212 : (Jvm.Cond.code ({ cls := "ClockTeethModel", name := "dayOf", desc := "(J)I" } : Jvm.MethodName) prog_11_method_63_code (3 : Nat) (Option.some Jvm.ClassFile.FieldType.int)) ∈ TB := tbm6 (i := 12) rfl rfl
theorem w1210 : (Jvm.Cond.methodLink "ClockTeethModel" (254 : Nat) ({ cls := "ClockTeethModel", name := "dayOf", desc := "(J)I" } : Jvm.MethodName)) ∈ TB := tbm6 (i := 10) rfl rfl
theorem w1211 : (Jvm.Cond.static ({ cls := "ClockTeethModel", name := "dayOf", desc := "(J)I" } : Jvm.MethodName)) ∈ TB := tbm6 (i := 11) rfl rfl
theorem w1234 : (Jvm.Cond.code ({ cls := "ClockTeethModel", name := "areMany", desc := "(JI)Z" } : Jvm.MethodName) prog_11_method_68_code (3 : Nat) (Option.some Jvm.ClassFile.FieldType.boolean)) ∈ TB := tbm6 (i := 34) rfl rfl
theorem w1232 : (Jvm.Cond.methodLink "ClockTeethModel" (269 : Nat) ({ cls := "ClockTeethModel", name := "areMany", desc := "(JI)Z" } : Jvm.MethodName)) ∈ TB := tbm6 (i := 32) rfl rfl
theorem w1233 : (Jvm.Cond.static ({ cls := "ClockTeethModel", name := "areMany", desc := "(JI)Z" } : Jvm.MethodName)) ∈ TB := tbm6 (i := 33) rfl rfl
theorem w1281 : (Jvm.Cond.code ({ cls := "ClockTeethModel", name := "bitsOf", desc := "(I)I" } : Jvm.MethodName) prog_11_method_60_code (3 : Nat) (Option.some Jvm.ClassFile.FieldType.int)) ∈ TB := tbm6 (i := 81) rfl rfl
theorem w1279 : (Jvm.Cond.methodLink "ClockTeethModel" (300 : Nat) ({ cls := "ClockTeethModel", name := "bitsOf", desc := "(I)I" } : Jvm.MethodName)) ∈ TB := tbm6 (i := 79) rfl rfl
theorem w1280 : (Jvm.Cond.static ({ cls := "ClockTeethModel", name := "bitsOf", desc := "(I)I" } : Jvm.MethodName)) ∈ TB := tbm6 (i := 80) rfl rfl
theorem w1354 : (Jvm.Cond.code ({ cls := "ClockTeethModel", name := "isSheet", desc := "(II)Z" } : Jvm.MethodName) prog_11_method_95_code (2 : Nat) (Option.some Jvm.ClassFile.FieldType.boolean)) ∈ TB := tbm6 (i := 154) rfl rfl
theorem w1352 : (Jvm.Cond.methodLink "ClockTeethModel" (326 : Nat) ({ cls := "ClockTeethModel", name := "isSheet", desc := "(II)Z" } : Jvm.MethodName)) ∈ TB := tbm6 (i := 152) rfl rfl
theorem w1353 : (Jvm.Cond.static ({ cls := "ClockTeethModel", name := "isSheet", desc := "(II)Z" } : Jvm.MethodName)) ∈ TB := tbm6 (i := 153) rfl rfl
theorem w288 : (Jvm.Cond.code ({ cls := "ClockTeeth$Tape", name := "take", desc := "(J)Z" } : Jvm.MethodName) prog_8_method_2_code (4 : Nat) (Option.some Jvm.ClassFile.FieldType.boolean)) ∈ TB := tbm2 (i := 48) rfl rfl
theorem w285 : (Jvm.Cond.methodLink "ClockTeeth" (72 : Nat) ({ cls := "ClockTeeth$Tape", name := "take", desc := "(J)Z" } : Jvm.MethodName)) ∈ TB := tbm2 (i := 45) rfl rfl
theorem w286 : (Jvm.Cond.instanceMethod ({ cls := "ClockTeeth$Tape", name := "take", desc := "(J)Z" } : Jvm.MethodName)) ∈ TB := tbm2 (i := 46) rfl rfl
theorem w287 : (Jvm.Cond.selects "ClockTeeth$Tape" ({ cls := "ClockTeeth$Tape", name := "take", desc := "(J)Z" } : Jvm.MethodName) ({ cls := "ClockTeeth$Tape", name := "take", desc := "(J)Z" } : Jvm.MethodName)) ∈ TB := tbm2 (i := 47) rfl rfl
theorem w337 : (Jvm.Cond.code ({ cls := "ClockTeeth$Reader", name := "readLines", desc := "()I" } : Jvm.MethodName) prog_5_method_2_code (3 : Nat) (Option.some Jvm.ClassFile.FieldType.int)) ∈ TB := tbm2 (i := 97) rfl rfl
theorem w334 : (Jvm.Cond.methodLink "ClockTeeth" (84 : Nat) ({ cls := "ClockTeeth$Reader", name := "readLines", desc := "()I" } : Jvm.MethodName)) ∈ TB := tbm2 (i := 94) rfl rfl
theorem w335 : (Jvm.Cond.instanceMethod ({ cls := "ClockTeeth$Reader", name := "readLines", desc := "()I" } : Jvm.MethodName)) ∈ TB := tbm2 (i := 95) rfl rfl
theorem w336 : (Jvm.Cond.selects "ClockTeeth$Reader" ({ cls := "ClockTeeth$Reader", name := "readLines", desc := "()I" } : Jvm.MethodName) ({ cls := "ClockTeeth$Reader", name := "readLines", desc := "()I" } : Jvm.MethodName)) ∈ TB := tbm2 (i := 96) rfl rfl
theorem w474 : (Jvm.Cond.code ({ cls := "ClockTeeth$Clock", name := "become", desc := "(LClockTeeth$Clock;)V" } : Jvm.MethodName) prog_2_method_5_code (4 : Nat) (Option.none : Option Jvm.ClassFile.FieldType)) ∈ TB := tbm2 (i := 234) rfl rfl
theorem w471 : (Jvm.Cond.methodLink "ClockTeeth" (94 : Nat) ({ cls := "ClockTeeth$Clock", name := "become", desc := "(LClockTeeth$Clock;)V" } : Jvm.MethodName)) ∈ TB := tbm2 (i := 231) rfl rfl
theorem w472 : (Jvm.Cond.instanceMethod ({ cls := "ClockTeeth$Clock", name := "become", desc := "(LClockTeeth$Clock;)V" } : Jvm.MethodName)) ∈ TB := tbm2 (i := 232) rfl rfl
theorem w473 : (Jvm.Cond.selects "ClockTeeth$Clock" ({ cls := "ClockTeeth$Clock", name := "become", desc := "(LClockTeeth$Clock;)V" } : Jvm.MethodName) ({ cls := "ClockTeeth$Clock", name := "become", desc := "(LClockTeeth$Clock;)V" } : Jvm.MethodName)) ∈ TB := tbm2 (i := 233) rfl rfl
theorem w503 : (Jvm.Cond.code ({ cls := "ClockTeeth", name := "isFigure", desc := "(I)Z" } : Jvm.MethodName) prog_1_method_44_code (2 : Nat) (Option.some Jvm.ClassFile.FieldType.boolean)) ∈ TB := tbm3 (i := 23) rfl rfl
theorem w500 : (Jvm.Cond.methodLink "ClockTeeth" (116 : Nat) ({ cls := "ClockTeeth", name := "isFigure", desc := "(I)Z" } : Jvm.MethodName)) ∈ TB := tbm3 (i := 20) rfl rfl
theorem w502 : (Jvm.Cond.instanceMethod ({ cls := "ClockTeeth", name := "isFigure", desc := "(I)Z" } : Jvm.MethodName)) ∈ TB := tbm3 (i := 22) rfl rfl
theorem w507 : (Jvm.Cond.code ({ cls := "ClockTeeth$Figure", name := "kind", desc := "()I" } : Jvm.MethodName) prog_3_method_3_code (1 : Nat) (Option.some Jvm.ClassFile.FieldType.int)) ∈ TB := tbm3 (i := 27) rfl rfl
theorem w504 : (Jvm.Cond.methodLink "ClockTeeth" (124 : Nat) ({ cls := "ClockTeeth$Figure", name := "kind", desc := "()I" } : Jvm.MethodName)) ∈ TB := tbm3 (i := 24) rfl rfl
theorem w505 : (Jvm.Cond.instanceMethod ({ cls := "ClockTeeth$Figure", name := "kind", desc := "()I" } : Jvm.MethodName)) ∈ TB := tbm3 (i := 25) rfl rfl
theorem w506 : (Jvm.Cond.selects "ClockTeeth$Figure" ({ cls := "ClockTeeth$Figure", name := "kind", desc := "()I" } : Jvm.MethodName) ({ cls := "ClockTeeth$Figure", name := "kind", desc := "()I" } : Jvm.MethodName)) ∈ TB := tbm3 (i := 26) rfl rfl
theorem w511 : (Jvm.Cond.code ({ cls := "ClockTeeth$Figure", name := "round", desc := "()I" } : Jvm.MethodName) prog_3_method_4_code (1 : Nat) (Option.some Jvm.ClassFile.FieldType.int)) ∈ TB := tbm3 (i := 31) rfl rfl
theorem w508 : (Jvm.Cond.methodLink "ClockTeeth" (142 : Nat) ({ cls := "ClockTeeth$Figure", name := "round", desc := "()I" } : Jvm.MethodName)) ∈ TB := tbm3 (i := 28) rfl rfl
theorem w509 : (Jvm.Cond.instanceMethod ({ cls := "ClockTeeth$Figure", name := "round", desc := "()I" } : Jvm.MethodName)) ∈ TB := tbm3 (i := 29) rfl rfl
theorem w510 : (Jvm.Cond.selects "ClockTeeth$Figure" ({ cls := "ClockTeeth$Figure", name := "round", desc := "()I" } : Jvm.MethodName) ({ cls := "ClockTeeth$Figure", name := "round", desc := "()I" } : Jvm.MethodName)) ∈ TB := tbm3 (i := 30) rfl rfl
theorem w527 : (Jvm.Cond.code ({ cls := "ClockTeeth$Figure", name := "comesOut", desc := "(J)Z" } : Jvm.MethodName) prog_3_method_8_code (7 : Nat) (Option.some Jvm.ClassFile.FieldType.boolean)) ∈ TB := tbm3 (i := 47) rfl rfl
theorem w524 : (Jvm.Cond.methodLink "ClockTeeth" (163 : Nat) ({ cls := "ClockTeeth$Figure", name := "comesOut", desc := "(J)Z" } : Jvm.MethodName)) ∈ TB := tbm3 (i := 44) rfl rfl
theorem w525 : (Jvm.Cond.instanceMethod ({ cls := "ClockTeeth$Figure", name := "comesOut", desc := "(J)Z" } : Jvm.MethodName)) ∈ TB := tbm3 (i := 45) rfl rfl
theorem w526 : (Jvm.Cond.selects "ClockTeeth$Figure" ({ cls := "ClockTeeth$Figure", name := "comesOut", desc := "(J)Z" } : Jvm.MethodName) ({ cls := "ClockTeeth$Figure", name := "comesOut", desc := "(J)Z" } : Jvm.MethodName)) ∈ TB := tbm3 (i := 46) rfl rfl
theorem w543 : (Jvm.Cond.code ({ cls := "ClockTeeth$Finder", name := "earliest", desc := "([LClockTeeth$Figure;IJ)J" } : Jvm.MethodName) prog_4_method_3_code (5 : Nat) (Option.some Jvm.ClassFile.FieldType.long)) ∈ TB := tbm3 (i := 63) rfl rfl
theorem w540 : (Jvm.Cond.methodLink "ClockTeeth" (168 : Nat) ({ cls := "ClockTeeth$Finder", name := "earliest", desc := "([LClockTeeth$Figure;IJ)J" } : Jvm.MethodName)) ∈ TB := tbm3 (i := 60) rfl rfl
theorem w541 : (Jvm.Cond.instanceMethod ({ cls := "ClockTeeth$Finder", name := "earliest", desc := "([LClockTeeth$Figure;IJ)J" } : Jvm.MethodName)) ∈ TB := tbm3 (i := 61) rfl rfl
theorem w542 : (Jvm.Cond.selects "ClockTeeth$Finder" ({ cls := "ClockTeeth$Finder", name := "earliest", desc := "([LClockTeeth$Figure;IJ)J" } : Jvm.MethodName) ({ cls := "ClockTeeth$Finder", name := "earliest", desc := "([LClockTeeth$Figure;IJ)J" } : Jvm.MethodName)) ∈ TB := tbm3 (i := 62) rfl rfl
theorem w571 : (Jvm.Cond.code ({ cls := "ClockTeeth$Figure", name := "times", desc := "()I" } : Jvm.MethodName) prog_3_method_5_code (1 : Nat) (Option.some Jvm.ClassFile.FieldType.int)) ∈ TB := tbm3 (i := 91) rfl rfl
theorem w590 : (Jvm.Cond.methodLink "ClockTeeth" (174 : Nat) ({ cls := "ClockTeeth$Figure", name := "times", desc := "()I" } : Jvm.MethodName)) ∈ TB := tbm3 (i := 110) rfl rfl
theorem w569 : (Jvm.Cond.instanceMethod ({ cls := "ClockTeeth$Figure", name := "times", desc := "()I" } : Jvm.MethodName)) ∈ TB := tbm3 (i := 89) rfl rfl
theorem w570 : (Jvm.Cond.selects "ClockTeeth$Figure" ({ cls := "ClockTeeth$Figure", name := "times", desc := "()I" } : Jvm.MethodName) ({ cls := "ClockTeeth$Figure", name := "times", desc := "()I" } : Jvm.MethodName)) ∈ TB := tbm3 (i := 90) rfl rfl
theorem w579 : (Jvm.Cond.code ({ cls := "ClockTeeth$Figure", name := "timeOf", desc := "(I)I" } : Jvm.MethodName) prog_3_method_7_code (2 : Nat) (Option.some Jvm.ClassFile.FieldType.int)) ∈ TB := tbm3 (i := 99) rfl rfl
theorem w591 : (Jvm.Cond.methodLink "ClockTeeth" (177 : Nat) ({ cls := "ClockTeeth$Figure", name := "timeOf", desc := "(I)I" } : Jvm.MethodName)) ∈ TB := tbm3 (i := 111) rfl rfl
theorem w577 : (Jvm.Cond.instanceMethod ({ cls := "ClockTeeth$Figure", name := "timeOf", desc := "(I)I" } : Jvm.MethodName)) ∈ TB := tbm3 (i := 97) rfl rfl
theorem w578 : (Jvm.Cond.selects "ClockTeeth$Figure" ({ cls := "ClockTeeth$Figure", name := "timeOf", desc := "(I)I" } : Jvm.MethodName) ({ cls := "ClockTeeth$Figure", name := "timeOf", desc := "(I)I" } : Jvm.MethodName)) ∈ TB := tbm3 (i := 98) rfl rfl
theorem w603 : (Jvm.Cond.code ({ cls := "ClockTeeth$Finder", name := "howOften", desc := "([LClockTeeth$Figure;IJJ)J" } : Jvm.MethodName) prog_4_method_4_code (7 : Nat) (Option.some Jvm.ClassFile.FieldType.long)) ∈ TB := tbm3 (i := 123) rfl rfl
theorem w600 : (Jvm.Cond.methodLink "ClockTeeth" (189 : Nat) ({ cls := "ClockTeeth$Finder", name := "howOften", desc := "([LClockTeeth$Figure;IJJ)J" } : Jvm.MethodName)) ∈ TB := tbm3 (i := 120) rfl rfl
theorem w601 : (Jvm.Cond.instanceMethod ({ cls := "ClockTeeth$Finder", name := "howOften", desc := "([LClockTeeth$Figure;IJJ)J" } : Jvm.MethodName)) ∈ TB := tbm3 (i := 121) rfl rfl
theorem w602 : (Jvm.Cond.selects "ClockTeeth$Finder" ({ cls := "ClockTeeth$Finder", name := "howOften", desc := "([LClockTeeth$Figure;IJJ)J" } : Jvm.MethodName) ({ cls := "ClockTeeth$Finder", name := "howOften", desc := "([LClockTeeth$Figure;IJJ)J" } : Jvm.MethodName)) ∈ TB := tbm3 (i := 122) rfl rfl
theorem w615 : (Jvm.Cond.code ({ cls := "ClockTeeth", name := "isPair", desc := "(II)Z" } : Jvm.MethodName) prog_1_method_45_code (3 : Nat) (Option.some Jvm.ClassFile.FieldType.boolean)) ∈ TB := tbm3 (i := 135) rfl rfl
theorem w612 : (Jvm.Cond.methodLink "ClockTeeth" (193 : Nat) ({ cls := "ClockTeeth", name := "isPair", desc := "(II)Z" } : Jvm.MethodName)) ∈ TB := tbm3 (i := 132) rfl rfl
theorem w614 : (Jvm.Cond.instanceMethod ({ cls := "ClockTeeth", name := "isPair", desc := "(II)Z" } : Jvm.MethodName)) ∈ TB := tbm3 (i := 134) rfl rfl
theorem w627 : (Jvm.Cond.code ({ cls := "ClockTeeth", name := "isSome", desc := "(I)Z" } : Jvm.MethodName) prog_1_method_46_code (2 : Nat) (Option.some Jvm.ClassFile.FieldType.boolean)) ∈ TB := tbm3 (i := 147) rfl rfl
theorem w624 : (Jvm.Cond.methodLink "ClockTeeth" (197 : Nat) ({ cls := "ClockTeeth", name := "isSome", desc := "(I)Z" } : Jvm.MethodName)) ∈ TB := tbm3 (i := 144) rfl rfl
theorem w626 : (Jvm.Cond.instanceMethod ({ cls := "ClockTeeth", name := "isSome", desc := "(I)Z" } : Jvm.MethodName)) ∈ TB := tbm3 (i := 146) rfl rfl
theorem w635 : (Jvm.Cond.code ({ cls := "ClockTeeth$Finder", name := "commonRound", desc := "([LClockTeeth$Figure;I)J" } : Jvm.MethodName) prog_4_method_2_code (3 : Nat) (Option.some Jvm.ClassFile.FieldType.long)) ∈ TB := tbm3 (i := 155) rfl rfl
theorem w632 : (Jvm.Cond.methodLink "ClockTeeth" (200 : Nat) ({ cls := "ClockTeeth$Finder", name := "commonRound", desc := "([LClockTeeth$Figure;I)J" } : Jvm.MethodName)) ∈ TB := tbm3 (i := 152) rfl rfl
theorem w633 : (Jvm.Cond.instanceMethod ({ cls := "ClockTeeth$Finder", name := "commonRound", desc := "([LClockTeeth$Figure;I)J" } : Jvm.MethodName)) ∈ TB := tbm3 (i := 153) rfl rfl
theorem w634 : (Jvm.Cond.selects "ClockTeeth$Finder" ({ cls := "ClockTeeth$Finder", name := "commonRound", desc := "([LClockTeeth$Figure;I)J" } : Jvm.MethodName) ({ cls := "ClockTeeth$Finder", name := "commonRound", desc := "([LClockTeeth$Figure;I)J" } : Jvm.MethodName)) ∈ TB := tbm3 (i := 154) rfl rfl
theorem w643 : (Jvm.Cond.code ({ cls := "ClockTeeth$Clock", name := "crashesOf", desc := "(I)I" } : Jvm.MethodName) prog_2_method_11_code (4 : Nat) (Option.some Jvm.ClassFile.FieldType.int)) ∈ TB := tbm3 (i := 163) rfl rfl
theorem w640 : (Jvm.Cond.methodLink "ClockTeeth" (204 : Nat) ({ cls := "ClockTeeth$Clock", name := "crashesOf", desc := "(I)I" } : Jvm.MethodName)) ∈ TB := tbm3 (i := 160) rfl rfl
theorem w641 : (Jvm.Cond.instanceMethod ({ cls := "ClockTeeth$Clock", name := "crashesOf", desc := "(I)I" } : Jvm.MethodName)) ∈ TB := tbm3 (i := 161) rfl rfl
theorem w642 : (Jvm.Cond.selects "ClockTeeth$Clock" ({ cls := "ClockTeeth$Clock", name := "crashesOf", desc := "(I)I" } : Jvm.MethodName) ({ cls := "ClockTeeth$Clock", name := "crashesOf", desc := "(I)I" } : Jvm.MethodName)) ∈ TB := tbm3 (i := 162) rfl rfl
theorem w683 : (Jvm.Cond.code ({ cls := "ClockTeeth$Clock", name := "doorOf", desc := "(LClockTeeth$Figure;I)I" } : Jvm.MethodName) prog_2_method_9_code (3 : Nat) (Option.some Jvm.ClassFile.FieldType.int)) ∈ TB := tbm3 (i := 203) rfl rfl
theorem w680 : (Jvm.Cond.methodLink "ClockTeeth" (222 : Nat) ({ cls := "ClockTeeth$Clock", name := "doorOf", desc := "(LClockTeeth$Figure;I)I" } : Jvm.MethodName)) ∈ TB := tbm3 (i := 200) rfl rfl
theorem w681 : (Jvm.Cond.instanceMethod ({ cls := "ClockTeeth$Clock", name := "doorOf", desc := "(LClockTeeth$Figure;I)I" } : Jvm.MethodName)) ∈ TB := tbm3 (i := 201) rfl rfl
theorem w682 : (Jvm.Cond.selects "ClockTeeth$Clock" ({ cls := "ClockTeeth$Clock", name := "doorOf", desc := "(LClockTeeth$Figure;I)I" } : Jvm.MethodName) ({ cls := "ClockTeeth$Clock", name := "doorOf", desc := "(LClockTeeth$Figure;I)I" } : Jvm.MethodName)) ∈ TB := tbm3 (i := 202) rfl rfl
theorem w694 : (Jvm.Cond.code ({ cls := "ClockTeeth$Clock", name := "doorsOn", desc := "(J)I" } : Jvm.MethodName) prog_2_method_10_code (7 : Nat) (Option.some Jvm.ClassFile.FieldType.int)) ∈ TB := tbm3 (i := 214) rfl rfl
theorem w691 : (Jvm.Cond.methodLink "ClockTeeth" (229 : Nat) ({ cls := "ClockTeeth$Clock", name := "doorsOn", desc := "(J)I" } : Jvm.MethodName)) ∈ TB := tbm3 (i := 211) rfl rfl
theorem w692 : (Jvm.Cond.instanceMethod ({ cls := "ClockTeeth$Clock", name := "doorsOn", desc := "(J)I" } : Jvm.MethodName)) ∈ TB := tbm3 (i := 212) rfl rfl
theorem w693 : (Jvm.Cond.selects "ClockTeeth$Clock" ({ cls := "ClockTeeth$Clock", name := "doorsOn", desc := "(J)I" } : Jvm.MethodName) ({ cls := "ClockTeeth$Clock", name := "doorsOn", desc := "(J)I" } : Jvm.MethodName)) ∈ TB := tbm3 (i := 213) rfl rfl
theorem w345 : (Jvm.Cond.code ({ cls := "ClockTeeth$Clock", name := "free", desc := "()V" } : Jvm.MethodName) prog_2_method_3_code (1 : Nat) (Option.none : Option Jvm.ClassFile.FieldType)) ∈ TB := tbm2 (i := 105) rfl rfl
theorem w705 : (Jvm.Cond.methodLink "ClockTeeth" (235 : Nat) ({ cls := "ClockTeeth$Clock", name := "free", desc := "()V" } : Jvm.MethodName)) ∈ TB := tbm3 (i := 225) rfl rfl
theorem w343 : (Jvm.Cond.instanceMethod ({ cls := "ClockTeeth$Clock", name := "free", desc := "()V" } : Jvm.MethodName)) ∈ TB := tbm2 (i := 103) rfl rfl
theorem w344 : (Jvm.Cond.selects "ClockTeeth$Clock" ({ cls := "ClockTeeth$Clock", name := "free", desc := "()V" } : Jvm.MethodName) ({ cls := "ClockTeeth$Clock", name := "free", desc := "()V" } : Jvm.MethodName)) ∈ TB := tbm2 (i := 104) rfl rfl
theorem w349 : (Jvm.Cond.code ({ cls := "ClockTeeth$Clock", name := "jam", desc := "(III)V" } : Jvm.MethodName) prog_2_method_4_code (4 : Nat) (Option.none : Option Jvm.ClassFile.FieldType)) ∈ TB := tbm2 (i := 109) rfl rfl
theorem w706 : (Jvm.Cond.methodLink "ClockTeeth" (238 : Nat) ({ cls := "ClockTeeth$Clock", name := "jam", desc := "(III)V" } : Jvm.MethodName)) ∈ TB := tbm3 (i := 226) rfl rfl
theorem w347 : (Jvm.Cond.instanceMethod ({ cls := "ClockTeeth$Clock", name := "jam", desc := "(III)V" } : Jvm.MethodName)) ∈ TB := tbm2 (i := 107) rfl rfl
theorem w348 : (Jvm.Cond.selects "ClockTeeth$Clock" ({ cls := "ClockTeeth$Clock", name := "jam", desc := "(III)V" } : Jvm.MethodName) ({ cls := "ClockTeeth$Clock", name := "jam", desc := "(III)V" } : Jvm.MethodName)) ∈ TB := tbm2 (i := 108) rfl rfl
theorem w714 : (Jvm.Cond.code ({ cls := "ClockTeeth$Clock", name := "cutInto", desc := "(ILClockTeeth$Figure;)Z" } : Jvm.MethodName) prog_2_method_13_code (5 : Nat) (Option.some Jvm.ClassFile.FieldType.boolean)) ∈ TB := tbm3 (i := 234) rfl rfl
theorem w711 : (Jvm.Cond.methodLink "ClockTeeth" (242 : Nat) ({ cls := "ClockTeeth$Clock", name := "cutInto", desc := "(ILClockTeeth$Figure;)Z" } : Jvm.MethodName)) ∈ TB := tbm3 (i := 231) rfl rfl
theorem w712 : (Jvm.Cond.instanceMethod ({ cls := "ClockTeeth$Clock", name := "cutInto", desc := "(ILClockTeeth$Figure;)Z" } : Jvm.MethodName)) ∈ TB := tbm3 (i := 232) rfl rfl
theorem w713 : (Jvm.Cond.selects "ClockTeeth$Clock" ({ cls := "ClockTeeth$Clock", name := "cutInto", desc := "(ILClockTeeth$Figure;)Z" } : Jvm.MethodName) ({ cls := "ClockTeeth$Clock", name := "cutInto", desc := "(ILClockTeeth$Figure;)Z" } : Jvm.MethodName)) ∈ TB := tbm3 (i := 233) rfl rfl
theorem w478 : (Jvm.Cond.code ({ cls := "ClockTeeth$Figure", name := "become", desc := "(LClockTeeth$Figure;)V" } : Jvm.MethodName) prog_3_method_2_code (2 : Nat) (Option.none : Option Jvm.ClassFile.FieldType)) ∈ TB := tbm2 (i := 238) rfl rfl
theorem w740 : (Jvm.Cond.methodLink "ClockTeeth" (246 : Nat) ({ cls := "ClockTeeth$Figure", name := "become", desc := "(LClockTeeth$Figure;)V" } : Jvm.MethodName)) ∈ TB := tbm4 (i := 20) rfl rfl
theorem w476 : (Jvm.Cond.instanceMethod ({ cls := "ClockTeeth$Figure", name := "become", desc := "(LClockTeeth$Figure;)V" } : Jvm.MethodName)) ∈ TB := tbm2 (i := 236) rfl rfl
theorem w477 : (Jvm.Cond.selects "ClockTeeth$Figure" ({ cls := "ClockTeeth$Figure", name := "become", desc := "(LClockTeeth$Figure;)V" } : Jvm.MethodName) ({ cls := "ClockTeeth$Figure", name := "become", desc := "(LClockTeeth$Figure;)V" } : Jvm.MethodName)) ∈ TB := tbm2 (i := 237) rfl rfl
theorem w722 : (Jvm.Cond.code ({ cls := "ClockTeeth$Clock", name := "freeStarts", desc := "(ILClockTeeth$Figure;)J" } : Jvm.MethodName) prog_2_method_15_code (6 : Nat) (Option.some Jvm.ClassFile.FieldType.long)) ∈ TB := tbm4 (i := 2) rfl rfl
theorem w741 : (Jvm.Cond.methodLink "ClockTeeth" (249 : Nat) ({ cls := "ClockTeeth$Clock", name := "freeStarts", desc := "(ILClockTeeth$Figure;)J" } : Jvm.MethodName)) ∈ TB := tbm4 (i := 21) rfl rfl
theorem w720 : (Jvm.Cond.instanceMethod ({ cls := "ClockTeeth$Clock", name := "freeStarts", desc := "(ILClockTeeth$Figure;)J" } : Jvm.MethodName)) ∈ TB := tbm4 (i := 0) rfl rfl
theorem w721 : (Jvm.Cond.selects "ClockTeeth$Clock" ({ cls := "ClockTeeth$Clock", name := "freeStarts", desc := "(ILClockTeeth$Figure;)J" } : Jvm.MethodName) ({ cls := "ClockTeeth$Clock", name := "freeStarts", desc := "(ILClockTeeth$Figure;)J" } : Jvm.MethodName)) ∈ TB := tbm4 (i := 1) rfl rfl
theorem w756 : (Jvm.Cond.code ({ cls := "ClockTeeth$Clock", name := "howManyCrash", desc := "()I" } : Jvm.MethodName) prog_2_method_12_code (3 : Nat) (Option.some Jvm.ClassFile.FieldType.int)) ∈ TB := tbm4 (i := 36) rfl rfl
theorem w753 : (Jvm.Cond.methodLink "ClockTeeth" (256 : Nat) ({ cls := "ClockTeeth$Clock", name := "howManyCrash", desc := "()I" } : Jvm.MethodName)) ∈ TB := tbm4 (i := 33) rfl rfl
theorem w754 : (Jvm.Cond.instanceMethod ({ cls := "ClockTeeth$Clock", name := "howManyCrash", desc := "()I" } : Jvm.MethodName)) ∈ TB := tbm4 (i := 34) rfl rfl
theorem w755 : (Jvm.Cond.selects "ClockTeeth$Clock" ({ cls := "ClockTeeth$Clock", name := "howManyCrash", desc := "()I" } : Jvm.MethodName) ({ cls := "ClockTeeth$Clock", name := "howManyCrash", desc := "()I" } : Jvm.MethodName)) ∈ TB := tbm4 (i := 35) rfl rfl
theorem w765 : (Jvm.Cond.code ({ cls := "ClockTeeth$Clock", name := "holdVotes", desc := "(I)V" } : Jvm.MethodName) prog_2_method_8_code (5 : Nat) (Option.none : Option Jvm.ClassFile.FieldType)) ∈ TB := tbm4 (i := 45) rfl rfl
theorem w762 : (Jvm.Cond.methodLink "ClockTeeth" (259 : Nat) ({ cls := "ClockTeeth$Clock", name := "holdVotes", desc := "(I)V" } : Jvm.MethodName)) ∈ TB := tbm4 (i := 42) rfl rfl
theorem w763 : (Jvm.Cond.instanceMethod ({ cls := "ClockTeeth$Clock", name := "holdVotes", desc := "(I)V" } : Jvm.MethodName)) ∈ TB := tbm4 (i := 43) rfl rfl
theorem w764 : (Jvm.Cond.selects "ClockTeeth$Clock" ({ cls := "ClockTeeth$Clock", name := "holdVotes", desc := "(I)V" } : Jvm.MethodName) ({ cls := "ClockTeeth$Clock", name := "holdVotes", desc := "(I)V" } : Jvm.MethodName)) ∈ TB := tbm4 (i := 44) rfl rfl
theorem w466 : (Jvm.Cond.code ({ cls := "ClockTeeth$Clock", name := "leastVoteYear", desc := "()I" } : Jvm.MethodName) prog_2_method_6_code (1 : Nat) (Option.some Jvm.ClassFile.FieldType.int)) ∈ TB := tbm2 (i := 226) rfl rfl
theorem w770 : (Jvm.Cond.methodLink "ClockTeeth" (263 : Nat) ({ cls := "ClockTeeth$Clock", name := "leastVoteYear", desc := "()I" } : Jvm.MethodName)) ∈ TB := tbm4 (i := 50) rfl rfl
theorem w464 : (Jvm.Cond.instanceMethod ({ cls := "ClockTeeth$Clock", name := "leastVoteYear", desc := "()I" } : Jvm.MethodName)) ∈ TB := tbm2 (i := 224) rfl rfl
theorem w465 : (Jvm.Cond.selects "ClockTeeth$Clock" ({ cls := "ClockTeeth$Clock", name := "leastVoteYear", desc := "()I" } : Jvm.MethodName) ({ cls := "ClockTeeth$Clock", name := "leastVoteYear", desc := "()I" } : Jvm.MethodName)) ∈ TB := tbm2 (i := 225) rfl rfl
theorem w470 : (Jvm.Cond.code ({ cls := "ClockTeeth$Clock", name := "addVote", desc := "(IIIII)V" } : Jvm.MethodName) prog_2_method_7_code (7 : Nat) (Option.none : Option Jvm.ClassFile.FieldType)) ∈ TB := tbm2 (i := 230) rfl rfl
theorem w771 : (Jvm.Cond.methodLink "ClockTeeth" (266 : Nat) ({ cls := "ClockTeeth$Clock", name := "addVote", desc := "(IIIII)V" } : Jvm.MethodName)) ∈ TB := tbm4 (i := 51) rfl rfl
theorem w468 : (Jvm.Cond.instanceMethod ({ cls := "ClockTeeth$Clock", name := "addVote", desc := "(IIIII)V" } : Jvm.MethodName)) ∈ TB := tbm2 (i := 228) rfl rfl
theorem w469 : (Jvm.Cond.selects "ClockTeeth$Clock" ({ cls := "ClockTeeth$Clock", name := "addVote", desc := "(IIIII)V" } : Jvm.MethodName) ({ cls := "ClockTeeth$Clock", name := "addVote", desc := "(IIIII)V" } : Jvm.MethodName)) ∈ TB := tbm2 (i := 229) rfl rfl
theorem w779 : (Jvm.Cond.code ({ cls := "ClockTeeth", name := "addSight", desc := "(IIZ)I" } : Jvm.MethodName) prog_1_method_56_code (4 : Nat) (Option.some Jvm.ClassFile.FieldType.int)) ∈ TB := tbm4 (i := 59) rfl rfl
theorem w776 : (Jvm.Cond.methodLink "ClockTeeth" (270 : Nat) ({ cls := "ClockTeeth", name := "addSight", desc := "(IIZ)I" } : Jvm.MethodName)) ∈ TB := tbm4 (i := 56) rfl rfl
theorem w778 : (Jvm.Cond.instanceMethod ({ cls := "ClockTeeth", name := "addSight", desc := "(IIZ)I" } : Jvm.MethodName)) ∈ TB := tbm4 (i := 58) rfl rfl
theorem w792 : (Jvm.Cond.code ({ cls := "ClockTeeth$Clock", name := "fits", desc := "(ILClockTeeth$Figure;)Z" } : Jvm.MethodName) prog_2_method_17_code (5 : Nat) (Option.some Jvm.ClassFile.FieldType.boolean)) ∈ TB := tbm4 (i := 72) rfl rfl
theorem w789 : (Jvm.Cond.methodLink "ClockTeeth" (277 : Nat) ({ cls := "ClockTeeth$Clock", name := "fits", desc := "(ILClockTeeth$Figure;)Z" } : Jvm.MethodName)) ∈ TB := tbm4 (i := 69) rfl rfl
theorem w790 : (Jvm.Cond.instanceMethod ({ cls := "ClockTeeth$Clock", name := "fits", desc := "(ILClockTeeth$Figure;)Z" } : Jvm.MethodName)) ∈ TB := tbm4 (i := 70) rfl rfl
theorem w791 : (Jvm.Cond.selects "ClockTeeth$Clock" ({ cls := "ClockTeeth$Clock", name := "fits", desc := "(ILClockTeeth$Figure;)Z" } : Jvm.MethodName) ({ cls := "ClockTeeth$Clock", name := "fits", desc := "(ILClockTeeth$Figure;)Z" } : Jvm.MethodName)) ∈ TB := tbm4 (i := 71) rfl rfl
theorem w800 : (Jvm.Cond.code ({ cls := "ClockTeeth$Clock", name := "fittingStarts", desc := "(II)J" } : Jvm.MethodName) prog_2_method_18_code (9 : Nat) (Option.some Jvm.ClassFile.FieldType.long)) ∈ TB := tbm4 (i := 80) rfl rfl
theorem w797 : (Jvm.Cond.methodLink "ClockTeeth" (280 : Nat) ({ cls := "ClockTeeth$Clock", name := "fittingStarts", desc := "(II)J" } : Jvm.MethodName)) ∈ TB := tbm4 (i := 77) rfl rfl
theorem w798 : (Jvm.Cond.instanceMethod ({ cls := "ClockTeeth$Clock", name := "fittingStarts", desc := "(II)J" } : Jvm.MethodName)) ∈ TB := tbm4 (i := 78) rfl rfl
theorem w799 : (Jvm.Cond.selects "ClockTeeth$Clock" ({ cls := "ClockTeeth$Clock", name := "fittingStarts", desc := "(II)J" } : Jvm.MethodName) ({ cls := "ClockTeeth$Clock", name := "fittingStarts", desc := "(II)J" } : Jvm.MethodName)) ∈ TB := tbm4 (i := 79) rfl rfl
theorem w819 : (Jvm.Cond.code ({ cls := "ClockTeeth", name := "countFrights", desc := "(JI)V" } : Jvm.MethodName) prog_1_method_58_code (7 : Nat) (Option.none : Option Jvm.ClassFile.FieldType)) ∈ TB := tbm4 (i := 99) rfl rfl
theorem w816 : (Jvm.Cond.methodLink "ClockTeeth" (292 : Nat) ({ cls := "ClockTeeth", name := "countFrights", desc := "(JI)V" } : Jvm.MethodName)) ∈ TB := tbm4 (i := 96) rfl rfl
theorem w818 : (Jvm.Cond.instanceMethod ({ cls := "ClockTeeth", name := "countFrights", desc := "(JI)V" } : Jvm.MethodName)) ∈ TB := tbm4 (i := 98) rfl rfl
theorem w855 : (Jvm.Cond.code ({ cls := "ClockTeeth$Sheet", name := "renew", desc := "(II)V" } : Jvm.MethodName) prog_6_method_2_code (4 : Nat) (Option.none : Option Jvm.ClassFile.FieldType)) ∈ TB := tbm4 (i := 135) rfl rfl
theorem w852 : (Jvm.Cond.methodLink "ClockTeeth" (305 : Nat) ({ cls := "ClockTeeth$Sheet", name := "renew", desc := "(II)V" } : Jvm.MethodName)) ∈ TB := tbm4 (i := 132) rfl rfl
theorem w853 : (Jvm.Cond.instanceMethod ({ cls := "ClockTeeth$Sheet", name := "renew", desc := "(II)V" } : Jvm.MethodName)) ∈ TB := tbm4 (i := 133) rfl rfl
theorem w854 : (Jvm.Cond.selects "ClockTeeth$Sheet" ({ cls := "ClockTeeth$Sheet", name := "renew", desc := "(II)V" } : Jvm.MethodName) ({ cls := "ClockTeeth$Sheet", name := "renew", desc := "(II)V" } : Jvm.MethodName)) ∈ TB := tbm4 (i := 134) rfl rfl
theorem w863 : (Jvm.Cond.code ({ cls := "ClockTeeth$Sheet", name := "faultOf", desc := "(IJI)I" } : Jvm.MethodName) prog_6_method_3_code (5 : Nat) (Option.some Jvm.ClassFile.FieldType.int)) ∈ TB := tbm4 (i := 143) rfl rfl
theorem w860 : (Jvm.Cond.methodLink "ClockTeeth" (312 : Nat) ({ cls := "ClockTeeth$Sheet", name := "faultOf", desc := "(IJI)I" } : Jvm.MethodName)) ∈ TB := tbm4 (i := 140) rfl rfl
theorem w861 : (Jvm.Cond.instanceMethod ({ cls := "ClockTeeth$Sheet", name := "faultOf", desc := "(IJI)I" } : Jvm.MethodName)) ∈ TB := tbm4 (i := 141) rfl rfl
theorem w862 : (Jvm.Cond.selects "ClockTeeth$Sheet" ({ cls := "ClockTeeth$Sheet", name := "faultOf", desc := "(IJI)I" } : Jvm.MethodName) ({ cls := "ClockTeeth$Sheet", name := "faultOf", desc := "(IJI)I" } : Jvm.MethodName)) ∈ TB := tbm4 (i := 142) rfl rfl
theorem w867 : (Jvm.Cond.code ({ cls := "ClockTeeth$Sheet", name := "put", desc := "(II)V" } : Jvm.MethodName) prog_6_method_4_code (3 : Nat) (Option.none : Option Jvm.ClassFile.FieldType)) ∈ TB := tbm4 (i := 147) rfl rfl
theorem w864 : (Jvm.Cond.methodLink "ClockTeeth" (316 : Nat) ({ cls := "ClockTeeth$Sheet", name := "put", desc := "(II)V" } : Jvm.MethodName)) ∈ TB := tbm4 (i := 144) rfl rfl
theorem w865 : (Jvm.Cond.instanceMethod ({ cls := "ClockTeeth$Sheet", name := "put", desc := "(II)V" } : Jvm.MethodName)) ∈ TB := tbm4 (i := 145) rfl rfl
theorem w866 : (Jvm.Cond.selects "ClockTeeth$Sheet" ({ cls := "ClockTeeth$Sheet", name := "put", desc := "(II)V" } : Jvm.MethodName) ({ cls := "ClockTeeth$Sheet", name := "put", desc := "(II)V" } : Jvm.MethodName)) ∈ TB := tbm4 (i := 146) rfl rfl
theorem w876 : (Jvm.Cond.code ({ cls := "ClockTeeth", name := "addSightOf", desc := "(LClockTeeth$Sheet;I)Z" } : Jvm.MethodName) prog_1_method_57_code (4 : Nat) (Option.some Jvm.ClassFile.FieldType.boolean)) ∈ TB := tbm4 (i := 156) rfl rfl
theorem w873 : (Jvm.Cond.methodLink "ClockTeeth" (321 : Nat) ({ cls := "ClockTeeth", name := "addSightOf", desc := "(LClockTeeth$Sheet;I)Z" } : Jvm.MethodName)) ∈ TB := tbm4 (i := 153) rfl rfl
theorem w875 : (Jvm.Cond.instanceMethod ({ cls := "ClockTeeth", name := "addSightOf", desc := "(LClockTeeth$Sheet;I)Z" } : Jvm.MethodName)) ∈ TB := tbm4 (i := 155) rfl rfl
theorem w486 : (Jvm.Cond.code ({ cls := "ClockTeeth$Sight", name := "tell", desc := "(IIZ)V" } : Jvm.MethodName) prog_7_method_2_code (4 : Nat) (Option.none : Option Jvm.ClassFile.FieldType)) ∈ TB := tbm3 (i := 6) rfl rfl
theorem w780 : (Jvm.Cond.methodLink "ClockTeeth" (334 : Nat) ({ cls := "ClockTeeth$Sight", name := "tell", desc := "(IIZ)V" } : Jvm.MethodName)) ∈ TB := tbm4 (i := 60) rfl rfl
theorem w484 : (Jvm.Cond.instanceMethod ({ cls := "ClockTeeth$Sight", name := "tell", desc := "(IIZ)V" } : Jvm.MethodName)) ∈ TB := tbm3 (i := 4) rfl rfl
theorem w485 : (Jvm.Cond.selects "ClockTeeth$Sight" ({ cls := "ClockTeeth$Sight", name := "tell", desc := "(IIZ)V" } : Jvm.MethodName) ({ cls := "ClockTeeth$Sight", name := "tell", desc := "(IIZ)V" } : Jvm.MethodName)) ∈ TB := tbm3 (i := 5) rfl rfl
theorem w342 : (Jvm.Cond.methodLink "ClockTeeth$Clock" (54 : Nat) ({ cls := "ClockTeeth$Clock", name := "free", desc := "()V" } : Jvm.MethodName)) ∈ TB := tbm2 (i := 102) rfl rfl
theorem w346 : (Jvm.Cond.methodLink "ClockTeeth$Clock" (57 : Nat) ({ cls := "ClockTeeth$Clock", name := "jam", desc := "(III)V" } : Jvm.MethodName)) ∈ TB := tbm2 (i := 106) rfl rfl
theorem w475 : (Jvm.Cond.methodLink "ClockTeeth$Clock" (61 : Nat) ({ cls := "ClockTeeth$Figure", name := "become", desc := "(LClockTeeth$Figure;)V" } : Jvm.MethodName)) ∈ TB := tbm2 (i := 235) rfl rfl
theorem w482 : (Jvm.Cond.code ({ cls := "ClockTeeth$Vote", name := "become", desc := "(LClockTeeth$Vote;)V" } : Jvm.MethodName) prog_9_method_2_code (2 : Nat) (Option.none : Option Jvm.ClassFile.FieldType)) ∈ TB := tbm3 (i := 2) rfl rfl
theorem w479 : (Jvm.Cond.methodLink "ClockTeeth$Clock" (65 : Nat) ({ cls := "ClockTeeth$Vote", name := "become", desc := "(LClockTeeth$Vote;)V" } : Jvm.MethodName)) ∈ TB := tbm2 (i := 239) rfl rfl
theorem w480 : (Jvm.Cond.instanceMethod ({ cls := "ClockTeeth$Vote", name := "become", desc := "(LClockTeeth$Vote;)V" } : Jvm.MethodName)) ∈ TB := tbm3 (i := 0) rfl rfl
theorem w481 : (Jvm.Cond.selects "ClockTeeth$Vote" ({ cls := "ClockTeeth$Vote", name := "become", desc := "(LClockTeeth$Vote;)V" } : Jvm.MethodName) ({ cls := "ClockTeeth$Vote", name := "become", desc := "(LClockTeeth$Vote;)V" } : Jvm.MethodName)) ∈ TB := tbm3 (i := 1) rfl rfl
theorem w483 : (Jvm.Cond.methodLink "ClockTeeth$Clock" (78 : Nat) ({ cls := "ClockTeeth$Sight", name := "tell", desc := "(IIZ)V" } : Jvm.MethodName)) ∈ TB := tbm3 (i := 3) rfl rfl
theorem w696 : (Jvm.Cond.methodLink "ClockTeeth$Clock" (110 : Nat) ({ cls := "ClockTeeth$Figure", name := "comesOut", desc := "(J)Z" } : Jvm.MethodName)) ∈ TB := tbm3 (i := 216) rfl rfl
theorem w697 : (Jvm.Cond.methodLink "ClockTeeth$Clock" (114 : Nat) ({ cls := "ClockTeeth$Clock", name := "doorOf", desc := "(LClockTeeth$Figure;I)I" } : Jvm.MethodName)) ∈ TB := tbm3 (i := 217) rfl rfl
theorem w647 : (Jvm.Cond.code ({ cls := "ClockTeeth$Figure", name := "meets", desc := "(LClockTeeth$Figure;)Z" } : Jvm.MethodName) prog_3_method_9_code (6 : Nat) (Option.some Jvm.ClassFile.FieldType.boolean)) ∈ TB := tbm3 (i := 167) rfl rfl
theorem w644 : (Jvm.Cond.methodLink "ClockTeeth$Clock" (118 : Nat) ({ cls := "ClockTeeth$Figure", name := "meets", desc := "(LClockTeeth$Figure;)Z" } : Jvm.MethodName)) ∈ TB := tbm3 (i := 164) rfl rfl
theorem w645 : (Jvm.Cond.instanceMethod ({ cls := "ClockTeeth$Figure", name := "meets", desc := "(LClockTeeth$Figure;)Z" } : Jvm.MethodName)) ∈ TB := tbm3 (i := 165) rfl rfl
theorem w646 : (Jvm.Cond.selects "ClockTeeth$Figure" ({ cls := "ClockTeeth$Figure", name := "meets", desc := "(LClockTeeth$Figure;)Z" } : Jvm.MethodName) ({ cls := "ClockTeeth$Figure", name := "meets", desc := "(LClockTeeth$Figure;)Z" } : Jvm.MethodName)) ∈ TB := tbm3 (i := 166) rfl rfl
theorem w757 : (Jvm.Cond.methodLink "ClockTeeth$Clock" (122 : Nat) ({ cls := "ClockTeeth$Clock", name := "crashesOf", desc := "(I)I" } : Jvm.MethodName)) ∈ TB := tbm4 (i := 37) rfl rfl
theorem w718 : (Jvm.Cond.code ({ cls := "ClockTeeth$Clock", name := "startFirst", desc := "(ILClockTeeth$Figure;I)Z" } : Jvm.MethodName) prog_2_method_14_code (6 : Nat) (Option.some Jvm.ClassFile.FieldType.boolean)) ∈ TB := tbm3 (i := 238) rfl rfl
theorem w715 : (Jvm.Cond.methodLink "ClockTeeth$Clock" (126 : Nat) ({ cls := "ClockTeeth$Clock", name := "startFirst", desc := "(ILClockTeeth$Figure;I)Z" } : Jvm.MethodName)) ∈ TB := tbm3 (i := 235) rfl rfl
theorem w717 : (Jvm.Cond.instanceMethod ({ cls := "ClockTeeth$Clock", name := "startFirst", desc := "(ILClockTeeth$Figure;I)Z" } : Jvm.MethodName)) ∈ TB := tbm3 (i := 237) rfl rfl
theorem w719 : (Jvm.Cond.methodLink "ClockTeeth$Clock" (130 : Nat) ({ cls := "ClockTeeth$Clock", name := "freeStarts", desc := "(ILClockTeeth$Figure;)J" } : Jvm.MethodName)) ∈ TB := tbm3 (i := 239) rfl rfl
theorem w726 : (Jvm.Cond.methodLink "ClockTeeth$Clock" (141 : Nat) ({ cls := "ClockTeeth$Figure", name := "round", desc := "()I" } : Jvm.MethodName)) ∈ TB := tbm4 (i := 6) rfl rfl
theorem w728 : (Jvm.Cond.methodLink "ClockTeeth$Clock" (149 : Nat) ({ cls := "ClockTeeth$Figure", name := "times", desc := "()I" } : Jvm.MethodName)) ∈ TB := tbm4 (i := 8) rfl rfl
theorem w729 : (Jvm.Cond.methodLink "ClockTeeth$Clock" (152 : Nat) ({ cls := "ClockTeeth$Figure", name := "timeOf", desc := "(I)I" } : Jvm.MethodName)) ∈ TB := tbm4 (i := 9) rfl rfl
theorem w583 : (Jvm.Cond.code ({ cls := "ClockTeeth$Figure", name := "offset", desc := "(I)I" } : Jvm.MethodName) prog_3_method_6_code (2 : Nat) (Option.some Jvm.ClassFile.FieldType.int)) ∈ TB := tbm3 (i := 103) rfl rfl
theorem w730 : (Jvm.Cond.methodLink "ClockTeeth$Clock" (155 : Nat) ({ cls := "ClockTeeth$Figure", name := "offset", desc := "(I)I" } : Jvm.MethodName)) ∈ TB := tbm4 (i := 10) rfl rfl
theorem w581 : (Jvm.Cond.instanceMethod ({ cls := "ClockTeeth$Figure", name := "offset", desc := "(I)I" } : Jvm.MethodName)) ∈ TB := tbm3 (i := 101) rfl rfl
theorem w582 : (Jvm.Cond.selects "ClockTeeth$Figure" ({ cls := "ClockTeeth$Figure", name := "offset", desc := "(I)I" } : Jvm.MethodName) ({ cls := "ClockTeeth$Figure", name := "offset", desc := "(I)I" } : Jvm.MethodName)) ∈ TB := tbm3 (i := 102) rfl rfl
theorem w580 : (Jvm.Cond.methodLink "ClockTeeth$Figure" (33 : Nat) ({ cls := "ClockTeeth$Figure", name := "offset", desc := "(I)I" } : Jvm.MethodName)) ∈ TB := tbm3 (i := 100) rfl rfl
theorem w528 : (Jvm.Cond.methodLink "ClockTeeth$Figure" (37 : Nat) ({ cls := "ClockTeeth$Figure", name := "round", desc := "()I" } : Jvm.MethodName)) ∈ TB := tbm3 (i := 48) rfl rfl
theorem w649 : (Jvm.Cond.methodLink "ClockTeeth$Figure" (48 : Nat) ({ cls := "ClockTeeth$Figure", name := "times", desc := "()I" } : Jvm.MethodName)) ∈ TB := tbm3 (i := 169) rfl rfl
theorem w650 : (Jvm.Cond.methodLink "ClockTeeth$Figure" (51 : Nat) ({ cls := "ClockTeeth$Figure", name := "timeOf", desc := "(I)I" } : Jvm.MethodName)) ∈ TB := tbm3 (i := 170) rfl rfl
theorem w547 : (Jvm.Cond.code ({ cls := "ClockTeeth$Finder", name := "choose", desc := "([LClockTeeth$Figure;I)V" } : Jvm.MethodName) prog_4_method_5_code (4 : Nat) (Option.none : Option Jvm.ClassFile.FieldType)) ∈ TB := tbm3 (i := 67) rfl rfl
theorem w544 : (Jvm.Cond.methodLink "ClockTeeth$Finder" (39 : Nat) ({ cls := "ClockTeeth$Finder", name := "choose", desc := "([LClockTeeth$Figure;I)V" } : Jvm.MethodName)) ∈ TB := tbm3 (i := 64) rfl rfl
theorem w546 : (Jvm.Cond.instanceMethod ({ cls := "ClockTeeth$Finder", name := "choose", desc := "([LClockTeeth$Figure;I)V" } : Jvm.MethodName)) ∈ TB := tbm3 (i := 66) rfl rfl
theorem w551 : (Jvm.Cond.code ({ cls := "ClockTeeth$Finder", name := "addLevel", desc := "(LClockTeeth$Figure;)V" } : Jvm.MethodName) prog_4_method_6_code (6 : Nat) (Option.none : Option Jvm.ClassFile.FieldType)) ∈ TB := tbm3 (i := 71) rfl rfl
theorem w548 : (Jvm.Cond.methodLink "ClockTeeth$Finder" (55 : Nat) ({ cls := "ClockTeeth$Finder", name := "addLevel", desc := "(LClockTeeth$Figure;)V" } : Jvm.MethodName)) ∈ TB := tbm3 (i := 68) rfl rfl
theorem w550 : (Jvm.Cond.instanceMethod ({ cls := "ClockTeeth$Finder", name := "addLevel", desc := "(LClockTeeth$Figure;)V" } : Jvm.MethodName)) ∈ TB := tbm3 (i := 70) rfl rfl
theorem w552 : (Jvm.Cond.methodLink "ClockTeeth$Finder" (59 : Nat) ({ cls := "ClockTeeth$Figure", name := "round", desc := "()I" } : Jvm.MethodName)) ∈ TB := tbm3 (i := 72) rfl rfl
theorem w559 : (Jvm.Cond.methodLink "ClockTeeth$Finder" (67 : Nat) ({ cls := "ClockTeeth$Figure", name := "become", desc := "(LClockTeeth$Figure;)V" } : Jvm.MethodName)) ∈ TB := tbm3 (i := 79) rfl rfl
theorem w576 : (Jvm.Cond.methodLink "ClockTeeth$Finder" (76 : Nat) ({ cls := "ClockTeeth$Figure", name := "timeOf", desc := "(I)I" } : Jvm.MethodName)) ∈ TB := tbm3 (i := 96) rfl rfl
theorem w568 : (Jvm.Cond.methodLink "ClockTeeth$Finder" (80 : Nat) ({ cls := "ClockTeeth$Figure", name := "times", desc := "()I" } : Jvm.MethodName)) ∈ TB := tbm3 (i := 88) rfl rfl
theorem w575 : (Jvm.Cond.code ({ cls := "ClockTeeth$Finder", name := "meet", desc := "(IJI)J" } : Jvm.MethodName) prog_4_method_8_code (12 : Nat) (Option.some Jvm.ClassFile.FieldType.long)) ∈ TB := tbm3 (i := 95) rfl rfl
theorem w572 : (Jvm.Cond.methodLink "ClockTeeth$Finder" (83 : Nat) ({ cls := "ClockTeeth$Finder", name := "meet", desc := "(IJI)J" } : Jvm.MethodName)) ∈ TB := tbm3 (i := 92) rfl rfl
theorem w574 : (Jvm.Cond.instanceMethod ({ cls := "ClockTeeth$Finder", name := "meet", desc := "(IJI)J" } : Jvm.MethodName)) ∈ TB := tbm3 (i := 94) rfl rfl
theorem w341 : (Jvm.Cond.code ({ cls := "ClockTeeth$Clock", name := "empty", desc := "()V" } : Jvm.MethodName) prog_2_method_2_code (1 : Nat) (Option.none : Option Jvm.ClassFile.FieldType)) ∈ TB := tbm2 (i := 101) rfl rfl
theorem w338 : (Jvm.Cond.methodLink "ClockTeeth$Reader" (42 : Nat) ({ cls := "ClockTeeth$Clock", name := "empty", desc := "()V" } : Jvm.MethodName)) ∈ TB := tbm2 (i := 98) rfl rfl
theorem w339 : (Jvm.Cond.instanceMethod ({ cls := "ClockTeeth$Clock", name := "empty", desc := "()V" } : Jvm.MethodName)) ∈ TB := tbm2 (i := 99) rfl rfl
theorem w340 : (Jvm.Cond.selects "ClockTeeth$Clock" ({ cls := "ClockTeeth$Clock", name := "empty", desc := "()V" } : Jvm.MethodName) ({ cls := "ClockTeeth$Clock", name := "empty", desc := "()V" } : Jvm.MethodName)) ∈ TB := tbm2 (i := 100) rfl rfl
theorem w353 : (Jvm.Cond.code ({ cls := "ClockTeeth$Reader", name := "advance", desc := "()V" } : Jvm.MethodName) prog_5_method_13_code (2 : Nat) (Option.none : Option Jvm.ClassFile.FieldType)) ∈ TB := tbm2 (i := 113) rfl rfl
theorem w350 : (Jvm.Cond.methodLink "ClockTeeth$Reader" (47 : Nat) ({ cls := "ClockTeeth$Reader", name := "advance", desc := "()V" } : Jvm.MethodName)) ∈ TB := tbm2 (i := 110) rfl rfl
theorem w352 : (Jvm.Cond.instanceMethod ({ cls := "ClockTeeth$Reader", name := "advance", desc := "()V" } : Jvm.MethodName)) ∈ TB := tbm2 (i := 112) rfl rfl
theorem w377 : (Jvm.Cond.code ({ cls := "ClockTeeth$Reader", name := "readLine", desc := "()V" } : Jvm.MethodName) prog_5_method_3_code (1 : Nat) (Option.none : Option Jvm.ClassFile.FieldType)) ∈ TB := tbm2 (i := 137) rfl rfl
theorem w374 : (Jvm.Cond.methodLink "ClockTeeth$Reader" (50 : Nat) ({ cls := "ClockTeeth$Reader", name := "readLine", desc := "()V" } : Jvm.MethodName)) ∈ TB := tbm2 (i := 134) rfl rfl
theorem w376 : (Jvm.Cond.instanceMethod ({ cls := "ClockTeeth$Reader", name := "readLine", desc := "()V" } : Jvm.MethodName)) ∈ TB := tbm2 (i := 136) rfl rfl
theorem w373 : (Jvm.Cond.code ({ cls := "ClockTeeth$Reader", name := "refuse", desc := "(II)V" } : Jvm.MethodName) prog_5_method_12_code (3 : Nat) (Option.none : Option Jvm.ClassFile.FieldType)) ∈ TB := tbm2 (i := 133) rfl rfl
theorem w370 : (Jvm.Cond.methodLink "ClockTeeth$Reader" (73 : Nat) ({ cls := "ClockTeeth$Reader", name := "refuse", desc := "(II)V" } : Jvm.MethodName)) ∈ TB := tbm2 (i := 130) rfl rfl
theorem w372 : (Jvm.Cond.instanceMethod ({ cls := "ClockTeeth$Reader", name := "refuse", desc := "(II)V" } : Jvm.MethodName)) ∈ TB := tbm2 (i := 132) rfl rfl
theorem w382 : (Jvm.Cond.code ({ cls := "ClockTeeth$Reader", name := "isName", desc := "(Ljava/lang/String;)Z" } : Jvm.MethodName) prog_5_method_10_code (3 : Nat) (Option.some Jvm.ClassFile.FieldType.boolean)) ∈ TB := tbm2 (i := 142) rfl rfl
theorem w379 : (Jvm.Cond.methodLink "ClockTeeth$Reader" (79 : Nat) ({ cls := "ClockTeeth$Reader", name := "isName", desc := "(Ljava/lang/String;)Z" } : Jvm.MethodName)) ∈ TB := tbm2 (i := 139) rfl rfl
theorem w381 : (Jvm.Cond.instanceMethod ({ cls := "ClockTeeth$Reader", name := "isName", desc := "(Ljava/lang/String;)Z" } : Jvm.MethodName)) ∈ TB := tbm2 (i := 141) rfl rfl
theorem w434 : (Jvm.Cond.code ({ cls := "ClockTeeth$Reader", name := "readFigure", desc := "()V" } : Jvm.MethodName) prog_5_method_4_code (10 : Nat) (Option.none : Option Jvm.ClassFile.FieldType)) ∈ TB := tbm2 (i := 194) rfl rfl
theorem w431 : (Jvm.Cond.methodLink "ClockTeeth$Reader" (83 : Nat) ({ cls := "ClockTeeth$Reader", name := "readFigure", desc := "()V" } : Jvm.MethodName)) ∈ TB := tbm2 (i := 191) rfl rfl
theorem w433 : (Jvm.Cond.instanceMethod ({ cls := "ClockTeeth$Reader", name := "readFigure", desc := "()V" } : Jvm.MethodName)) ∈ TB := tbm2 (i := 193) rfl rfl
theorem w451 : (Jvm.Cond.code ({ cls := "ClockTeeth$Reader", name := "readStick", desc := "()V" } : Jvm.MethodName) prog_5_method_5_code (4 : Nat) (Option.none : Option Jvm.ClassFile.FieldType)) ∈ TB := tbm2 (i := 211) rfl rfl
theorem w448 : (Jvm.Cond.methodLink "ClockTeeth$Reader" (88 : Nat) ({ cls := "ClockTeeth$Reader", name := "readStick", desc := "()V" } : Jvm.MethodName)) ∈ TB := tbm2 (i := 208) rfl rfl
theorem w450 : (Jvm.Cond.instanceMethod ({ cls := "ClockTeeth$Reader", name := "readStick", desc := "()V" } : Jvm.MethodName)) ∈ TB := tbm2 (i := 210) rfl rfl
theorem w457 : (Jvm.Cond.code ({ cls := "ClockTeeth$Reader", name := "readReach", desc := "()V" } : Jvm.MethodName) prog_5_method_6_code (1 : Nat) (Option.none : Option Jvm.ClassFile.FieldType)) ∈ TB := tbm2 (i := 217) rfl rfl
theorem w454 : (Jvm.Cond.methodLink "ClockTeeth$Reader" (93 : Nat) ({ cls := "ClockTeeth$Reader", name := "readReach", desc := "()V" } : Jvm.MethodName)) ∈ TB := tbm2 (i := 214) rfl rfl
theorem w456 : (Jvm.Cond.instanceMethod ({ cls := "ClockTeeth$Reader", name := "readReach", desc := "()V" } : Jvm.MethodName)) ∈ TB := tbm2 (i := 216) rfl rfl
theorem w462 : (Jvm.Cond.code ({ cls := "ClockTeeth$Reader", name := "readVote", desc := "()V" } : Jvm.MethodName) prog_5_method_7_code (6 : Nat) (Option.none : Option Jvm.ClassFile.FieldType)) ∈ TB := tbm2 (i := 222) rfl rfl
theorem w459 : (Jvm.Cond.methodLink "ClockTeeth$Reader" (98 : Nat) ({ cls := "ClockTeeth$Reader", name := "readVote", desc := "()V" } : Jvm.MethodName)) ∈ TB := tbm2 (i := 219) rfl rfl
theorem w461 : (Jvm.Cond.instanceMethod ({ cls := "ClockTeeth$Reader", name := "readVote", desc := "()V" } : Jvm.MethodName)) ∈ TB := tbm2 (i := 221) rfl rfl
theorem w369 : (Jvm.Cond.code ({ cls := "ClockTeeth$Reader", name := "demand", desc := "(ZI)V" } : Jvm.MethodName) prog_5_method_11_code (3 : Nat) (Option.none : Option Jvm.ClassFile.FieldType)) ∈ TB := tbm2 (i := 129) rfl rfl
theorem w366 : (Jvm.Cond.methodLink "ClockTeeth$Reader" (101 : Nat) ({ cls := "ClockTeeth$Reader", name := "demand", desc := "(ZI)V" } : Jvm.MethodName)) ∈ TB := tbm2 (i := 126) rfl rfl
theorem w368 : (Jvm.Cond.instanceMethod ({ cls := "ClockTeeth$Reader", name := "demand", desc := "(ZI)V" } : Jvm.MethodName)) ∈ TB := tbm2 (i := 128) rfl rfl
theorem w442 : (Jvm.Cond.code ({ cls := "ClockTeeth$Reader", name := "number", desc := "(II)I" } : Jvm.MethodName) prog_5_method_9_code (5 : Nat) (Option.some Jvm.ClassFile.FieldType.int)) ∈ TB := tbm2 (i := 202) rfl rfl
theorem w439 : (Jvm.Cond.methodLink "ClockTeeth$Reader" (113 : Nat) ({ cls := "ClockTeeth$Reader", name := "number", desc := "(II)I" } : Jvm.MethodName)) ∈ TB := tbm2 (i := 199) rfl rfl
theorem w441 : (Jvm.Cond.instanceMethod ({ cls := "ClockTeeth$Reader", name := "number", desc := "(II)I" } : Jvm.MethodName)) ∈ TB := tbm2 (i := 201) rfl rfl
theorem w446 : (Jvm.Cond.code ({ cls := "ClockTeeth$Reader", name := "endLine", desc := "()V" } : Jvm.MethodName) prog_5_method_8_code (1 : Nat) (Option.none : Option Jvm.ClassFile.FieldType)) ∈ TB := tbm2 (i := 206) rfl rfl
theorem w443 : (Jvm.Cond.methodLink "ClockTeeth$Reader" (117 : Nat) ({ cls := "ClockTeeth$Reader", name := "endLine", desc := "()V" } : Jvm.MethodName)) ∈ TB := tbm2 (i := 203) rfl rfl
theorem w445 : (Jvm.Cond.instanceMethod ({ cls := "ClockTeeth$Reader", name := "endLine", desc := "()V" } : Jvm.MethodName)) ∈ TB := tbm2 (i := 205) rfl rfl
theorem w452 : (Jvm.Cond.methodLink "ClockTeeth$Reader" (141 : Nat) ({ cls := "ClockTeeth$Clock", name := "jam", desc := "(III)V" } : Jvm.MethodName)) ∈ TB := tbm2 (i := 212) rfl rfl
theorem w463 : (Jvm.Cond.methodLink "ClockTeeth$Reader" (147 : Nat) ({ cls := "ClockTeeth$Clock", name := "leastVoteYear", desc := "()I" } : Jvm.MethodName)) ∈ TB := tbm2 (i := 223) rfl rfl
theorem w467 : (Jvm.Cond.methodLink "ClockTeeth$Reader" (151 : Nat) ({ cls := "ClockTeeth$Clock", name := "addVote", desc := "(IIIII)V" } : Jvm.MethodName)) ∈ TB := tbm2 (i := 227) rfl rfl
theorem w357 : (Jvm.Cond.code ({ cls := "ClockTeeth$Tape", name := "isSign", desc := "(IC)Z" } : Jvm.MethodName) prog_8_method_5_code (3 : Nat) (Option.some Jvm.ClassFile.FieldType.boolean)) ∈ TB := tbm2 (i := 117) rfl rfl
theorem w354 : (Jvm.Cond.methodLink "ClockTeeth$Reader" (167 : Nat) ({ cls := "ClockTeeth$Tape", name := "isSign", desc := "(IC)Z" } : Jvm.MethodName)) ∈ TB := tbm2 (i := 114) rfl rfl
theorem w355 : (Jvm.Cond.instanceMethod ({ cls := "ClockTeeth$Tape", name := "isSign", desc := "(IC)Z" } : Jvm.MethodName)) ∈ TB := tbm2 (i := 115) rfl rfl
theorem w356 : (Jvm.Cond.selects "ClockTeeth$Tape" ({ cls := "ClockTeeth$Tape", name := "isSign", desc := "(IC)Z" } : Jvm.MethodName) ({ cls := "ClockTeeth$Tape", name := "isSign", desc := "(IC)Z" } : Jvm.MethodName)) ∈ TB := tbm2 (i := 116) rfl rfl
theorem w361 : (Jvm.Cond.code ({ cls := "ClockTeeth$Tape", name := "isLetter", desc := "(I)Z" } : Jvm.MethodName) prog_8_method_3_code (2 : Nat) (Option.some Jvm.ClassFile.FieldType.boolean)) ∈ TB := tbm2 (i := 121) rfl rfl
theorem w358 : (Jvm.Cond.methodLink "ClockTeeth$Reader" (171 : Nat) ({ cls := "ClockTeeth$Tape", name := "isLetter", desc := "(I)Z" } : Jvm.MethodName)) ∈ TB := tbm2 (i := 118) rfl rfl
theorem w359 : (Jvm.Cond.instanceMethod ({ cls := "ClockTeeth$Tape", name := "isLetter", desc := "(I)Z" } : Jvm.MethodName)) ∈ TB := tbm2 (i := 119) rfl rfl
theorem w360 : (Jvm.Cond.selects "ClockTeeth$Tape" ({ cls := "ClockTeeth$Tape", name := "isLetter", desc := "(I)Z" } : Jvm.MethodName) ({ cls := "ClockTeeth$Tape", name := "isLetter", desc := "(I)Z" } : Jvm.MethodName)) ∈ TB := tbm2 (i := 120) rfl rfl
theorem w365 : (Jvm.Cond.code ({ cls := "ClockTeeth$Tape", name := "isDigit", desc := "(I)Z" } : Jvm.MethodName) prog_8_method_4_code (2 : Nat) (Option.some Jvm.ClassFile.FieldType.boolean)) ∈ TB := tbm2 (i := 125) rfl rfl
theorem w362 : (Jvm.Cond.methodLink "ClockTeeth$Reader" (175 : Nat) ({ cls := "ClockTeeth$Tape", name := "isDigit", desc := "(I)Z" } : Jvm.MethodName)) ∈ TB := tbm2 (i := 122) rfl rfl
theorem w363 : (Jvm.Cond.instanceMethod ({ cls := "ClockTeeth$Tape", name := "isDigit", desc := "(I)Z" } : Jvm.MethodName)) ∈ TB := tbm2 (i := 123) rfl rfl
theorem w364 : (Jvm.Cond.selects "ClockTeeth$Tape" ({ cls := "ClockTeeth$Tape", name := "isDigit", desc := "(I)Z" } : Jvm.MethodName) ({ cls := "ClockTeeth$Tape", name := "isDigit", desc := "(I)Z" } : Jvm.MethodName)) ∈ TB := tbm2 (i := 124) rfl rfl
theorem w284 : (Jvm.Cond.code ({ cls := "ClockTeeth", name := "feed", desc := "(J)I" } : Jvm.MethodName) prog_1_method_2_code (3 : Nat) (Option.some Jvm.ClassFile.FieldType.int)) ∈ TB := tbm2 (i := 44) rfl rfl
theorem w281 : (Jvm.Cond.methodLink "ClockTeethLaw" (15 : Nat) ({ cls := "ClockTeeth", name := "feed", desc := "(J)I" } : Jvm.MethodName)) ∈ TB := tbm2 (i := 41) rfl rfl
theorem w282 : (Jvm.Cond.instanceMethod ({ cls := "ClockTeeth", name := "feed", desc := "(J)I" } : Jvm.MethodName)) ∈ TB := tbm2 (i := 42) rfl rfl
theorem w283 : (Jvm.Cond.selects "ClockTeeth" ({ cls := "ClockTeeth", name := "feed", desc := "(J)I" } : Jvm.MethodName) ({ cls := "ClockTeeth", name := "feed", desc := "(J)I" } : Jvm.MethodName)) ∈ TB := tbm2 (i := 43) rfl rfl
theorem w985 : (Jvm.Cond.code ({ cls := "ClockTeethModel", name := "feed", desc := "(J)I" } : Jvm.MethodName) prog_11_method_7_code (4 : Nat) (Option.some Jvm.ClassFile.FieldType.int)) ∈ TB := tbm5 (i := 25) rfl rfl
theorem w982 : (Jvm.Cond.methodLink "ClockTeethLaw" (19 : Nat) ({ cls := "ClockTeethModel", name := "feed", desc := "(J)I" } : Jvm.MethodName)) ∈ TB := tbm5 (i := 22) rfl rfl
theorem w983 : (Jvm.Cond.instanceMethod ({ cls := "ClockTeethModel", name := "feed", desc := "(J)I" } : Jvm.MethodName)) ∈ TB := tbm5 (i := 23) rfl rfl
theorem w984 : (Jvm.Cond.selects "ClockTeethModel" ({ cls := "ClockTeethModel", name := "feed", desc := "(J)I" } : Jvm.MethodName) ({ cls := "ClockTeethModel", name := "feed", desc := "(J)I" } : Jvm.MethodName)) ∈ TB := tbm5 (i := 24) rfl rfl
theorem w293 : (Jvm.Cond.code ({ cls := "ClockTeeth", name := "end", desc := "(I)I" } : Jvm.MethodName) prog_1_method_3_code (3 : Nat) (Option.some Jvm.ClassFile.FieldType.int)) ∈ TB := tbm2 (i := 53) rfl rfl
theorem w290 : (Jvm.Cond.methodLink "ClockTeethLaw" (20 : Nat) ({ cls := "ClockTeeth", name := "end", desc := "(I)I" } : Jvm.MethodName)) ∈ TB := tbm2 (i := 50) rfl rfl
theorem w291 : (Jvm.Cond.instanceMethod ({ cls := "ClockTeeth", name := "end", desc := "(I)I" } : Jvm.MethodName)) ∈ TB := tbm2 (i := 51) rfl rfl
theorem w292 : (Jvm.Cond.selects "ClockTeeth" ({ cls := "ClockTeeth", name := "end", desc := "(I)I" } : Jvm.MethodName) ({ cls := "ClockTeeth", name := "end", desc := "(I)I" } : Jvm.MethodName)) ∈ TB := tbm2 (i := 52) rfl rfl
theorem w990 : (Jvm.Cond.code ({ cls := "ClockTeethModel", name := "end", desc := "(I)I" } : Jvm.MethodName) prog_11_method_8_code (3 : Nat) (Option.some Jvm.ClassFile.FieldType.int)) ∈ TB := tbm5 (i := 30) rfl rfl
theorem w987 : (Jvm.Cond.methodLink "ClockTeethLaw" (24 : Nat) ({ cls := "ClockTeethModel", name := "end", desc := "(I)I" } : Jvm.MethodName)) ∈ TB := tbm5 (i := 27) rfl rfl
theorem w988 : (Jvm.Cond.instanceMethod ({ cls := "ClockTeethModel", name := "end", desc := "(I)I" } : Jvm.MethodName)) ∈ TB := tbm5 (i := 28) rfl rfl
theorem w989 : (Jvm.Cond.selects "ClockTeethModel" ({ cls := "ClockTeethModel", name := "end", desc := "(I)I" } : Jvm.MethodName) ({ cls := "ClockTeethModel", name := "end", desc := "(I)I" } : Jvm.MethodName)) ∈ TB := tbm5 (i := 29) rfl rfl
theorem w297 : (Jvm.Cond.code ({ cls := "ClockTeeth", name := "text", desc := "()I" } : Jvm.MethodName) prog_1_method_4_code (4 : Nat) (Option.some Jvm.ClassFile.FieldType.int)) ∈ TB := tbm2 (i := 57) rfl rfl
theorem w294 : (Jvm.Cond.methodLink "ClockTeethLaw" (25 : Nat) ({ cls := "ClockTeeth", name := "text", desc := "()I" } : Jvm.MethodName)) ∈ TB := tbm2 (i := 54) rfl rfl
theorem w295 : (Jvm.Cond.instanceMethod ({ cls := "ClockTeeth", name := "text", desc := "()I" } : Jvm.MethodName)) ∈ TB := tbm2 (i := 55) rfl rfl
theorem w296 : (Jvm.Cond.selects "ClockTeeth" ({ cls := "ClockTeeth", name := "text", desc := "()I" } : Jvm.MethodName) ({ cls := "ClockTeeth", name := "text", desc := "()I" } : Jvm.MethodName)) ∈ TB := tbm2 (i := 56) rfl rfl
theorem w997 : (Jvm.Cond.code ({ cls := "ClockTeethModel", name := "text", desc := "()I" } : Jvm.MethodName) prog_11_method_21_code (2 : Nat) (Option.some Jvm.ClassFile.FieldType.int)) ∈ TB := tbm5 (i := 37) rfl rfl
theorem w994 : (Jvm.Cond.methodLink "ClockTeethLaw" (29 : Nat) ({ cls := "ClockTeethModel", name := "text", desc := "()I" } : Jvm.MethodName)) ∈ TB := tbm5 (i := 34) rfl rfl
theorem w995 : (Jvm.Cond.instanceMethod ({ cls := "ClockTeethModel", name := "text", desc := "()I" } : Jvm.MethodName)) ∈ TB := tbm5 (i := 35) rfl rfl
theorem w996 : (Jvm.Cond.selects "ClockTeethModel" ({ cls := "ClockTeethModel", name := "text", desc := "()I" } : Jvm.MethodName) ({ cls := "ClockTeethModel", name := "text", desc := "()I" } : Jvm.MethodName)) ∈ TB := tbm5 (i := 36) rfl rfl
theorem w491 : (Jvm.Cond.code ({ cls := "ClockTeeth", name := "fault", desc := "()I" } : Jvm.MethodName) prog_1_method_5_code (1 : Nat) (Option.some Jvm.ClassFile.FieldType.int)) ∈ TB := tbm3 (i := 11) rfl rfl
theorem w488 : (Jvm.Cond.methodLink "ClockTeethLaw" (30 : Nat) ({ cls := "ClockTeeth", name := "fault", desc := "()I" } : Jvm.MethodName)) ∈ TB := tbm3 (i := 8) rfl rfl
theorem w489 : (Jvm.Cond.instanceMethod ({ cls := "ClockTeeth", name := "fault", desc := "()I" } : Jvm.MethodName)) ∈ TB := tbm3 (i := 9) rfl rfl
theorem w490 : (Jvm.Cond.selects "ClockTeeth" ({ cls := "ClockTeeth", name := "fault", desc := "()I" } : Jvm.MethodName) ({ cls := "ClockTeeth", name := "fault", desc := "()I" } : Jvm.MethodName)) ∈ TB := tbm3 (i := 10) rfl rfl
theorem w1053 : (Jvm.Cond.code ({ cls := "ClockTeethModel", name := "fault", desc := "()I" } : Jvm.MethodName) prog_11_method_22_code (1 : Nat) (Option.some Jvm.ClassFile.FieldType.int)) ∈ TB := tbm5 (i := 93) rfl rfl
theorem w1050 : (Jvm.Cond.methodLink "ClockTeethLaw" (33 : Nat) ({ cls := "ClockTeethModel", name := "fault", desc := "()I" } : Jvm.MethodName)) ∈ TB := tbm5 (i := 90) rfl rfl
theorem w1051 : (Jvm.Cond.instanceMethod ({ cls := "ClockTeethModel", name := "fault", desc := "()I" } : Jvm.MethodName)) ∈ TB := tbm5 (i := 91) rfl rfl
theorem w1052 : (Jvm.Cond.selects "ClockTeethModel" ({ cls := "ClockTeethModel", name := "fault", desc := "()I" } : Jvm.MethodName) ({ cls := "ClockTeethModel", name := "fault", desc := "()I" } : Jvm.MethodName)) ∈ TB := tbm5 (i := 92) rfl rfl
theorem w495 : (Jvm.Cond.code ({ cls := "ClockTeeth", name := "rule", desc := "(I)I" } : Jvm.MethodName) prog_1_method_6_code (2 : Nat) (Option.some Jvm.ClassFile.FieldType.int)) ∈ TB := tbm3 (i := 15) rfl rfl
theorem w492 : (Jvm.Cond.methodLink "ClockTeethLaw" (34 : Nat) ({ cls := "ClockTeeth", name := "rule", desc := "(I)I" } : Jvm.MethodName)) ∈ TB := tbm3 (i := 12) rfl rfl
theorem w493 : (Jvm.Cond.instanceMethod ({ cls := "ClockTeeth", name := "rule", desc := "(I)I" } : Jvm.MethodName)) ∈ TB := tbm3 (i := 13) rfl rfl
theorem w494 : (Jvm.Cond.selects "ClockTeeth" ({ cls := "ClockTeeth", name := "rule", desc := "(I)I" } : Jvm.MethodName) ({ cls := "ClockTeeth", name := "rule", desc := "(I)I" } : Jvm.MethodName)) ∈ TB := tbm3 (i := 14) rfl rfl
theorem w1057 : (Jvm.Cond.code ({ cls := "ClockTeethModel", name := "rule", desc := "(I)I" } : Jvm.MethodName) prog_11_method_23_code (2 : Nat) (Option.some Jvm.ClassFile.FieldType.int)) ∈ TB := tbm5 (i := 97) rfl rfl
theorem w1054 : (Jvm.Cond.methodLink "ClockTeethLaw" (37 : Nat) ({ cls := "ClockTeethModel", name := "rule", desc := "(I)I" } : Jvm.MethodName)) ∈ TB := tbm5 (i := 94) rfl rfl
theorem w1055 : (Jvm.Cond.instanceMethod ({ cls := "ClockTeethModel", name := "rule", desc := "(I)I" } : Jvm.MethodName)) ∈ TB := tbm5 (i := 95) rfl rfl
theorem w1056 : (Jvm.Cond.selects "ClockTeethModel" ({ cls := "ClockTeethModel", name := "rule", desc := "(I)I" } : Jvm.MethodName) ({ cls := "ClockTeethModel", name := "rule", desc := "(I)I" } : Jvm.MethodName)) ∈ TB := tbm5 (i := 96) rfl rfl
theorem w499 : (Jvm.Cond.code ({ cls := "ClockTeeth", name := "figure", desc := "(II)I" } : Jvm.MethodName) prog_1_method_7_code (4 : Nat) (Option.some Jvm.ClassFile.FieldType.int)) ∈ TB := tbm3 (i := 19) rfl rfl
theorem w496 : (Jvm.Cond.methodLink "ClockTeethLaw" (38 : Nat) ({ cls := "ClockTeeth", name := "figure", desc := "(II)I" } : Jvm.MethodName)) ∈ TB := tbm3 (i := 16) rfl rfl
theorem w497 : (Jvm.Cond.instanceMethod ({ cls := "ClockTeeth", name := "figure", desc := "(II)I" } : Jvm.MethodName)) ∈ TB := tbm3 (i := 17) rfl rfl
theorem w498 : (Jvm.Cond.selects "ClockTeeth" ({ cls := "ClockTeeth", name := "figure", desc := "(II)I" } : Jvm.MethodName) ({ cls := "ClockTeeth", name := "figure", desc := "(II)I" } : Jvm.MethodName)) ∈ TB := tbm3 (i := 18) rfl rfl
theorem w1061 : (Jvm.Cond.code ({ cls := "ClockTeethModel", name := "figure", desc := "(II)I" } : Jvm.MethodName) prog_11_method_27_code (3 : Nat) (Option.some Jvm.ClassFile.FieldType.int)) ∈ TB := tbm5 (i := 101) rfl rfl
theorem w1058 : (Jvm.Cond.methodLink "ClockTeethLaw" (42 : Nat) ({ cls := "ClockTeethModel", name := "figure", desc := "(II)I" } : Jvm.MethodName)) ∈ TB := tbm5 (i := 98) rfl rfl
theorem w1059 : (Jvm.Cond.instanceMethod ({ cls := "ClockTeethModel", name := "figure", desc := "(II)I" } : Jvm.MethodName)) ∈ TB := tbm5 (i := 99) rfl rfl
theorem w1060 : (Jvm.Cond.selects "ClockTeethModel" ({ cls := "ClockTeethModel", name := "figure", desc := "(II)I" } : Jvm.MethodName) ({ cls := "ClockTeethModel", name := "figure", desc := "(II)I" } : Jvm.MethodName)) ∈ TB := tbm5 (i := 100) rfl rfl
theorem w515 : (Jvm.Cond.code ({ cls := "ClockTeeth", name := "vote", desc := "(II)I" } : Jvm.MethodName) prog_1_method_8_code (4 : Nat) (Option.some Jvm.ClassFile.FieldType.int)) ∈ TB := tbm3 (i := 35) rfl rfl
theorem w512 : (Jvm.Cond.methodLink "ClockTeethLaw" (43 : Nat) ({ cls := "ClockTeeth", name := "vote", desc := "(II)I" } : Jvm.MethodName)) ∈ TB := tbm3 (i := 32) rfl rfl
theorem w513 : (Jvm.Cond.instanceMethod ({ cls := "ClockTeeth", name := "vote", desc := "(II)I" } : Jvm.MethodName)) ∈ TB := tbm3 (i := 33) rfl rfl
theorem w514 : (Jvm.Cond.selects "ClockTeeth" ({ cls := "ClockTeeth", name := "vote", desc := "(II)I" } : Jvm.MethodName) ({ cls := "ClockTeeth", name := "vote", desc := "(II)I" } : Jvm.MethodName)) ∈ TB := tbm3 (i := 34) rfl rfl
theorem w1078 : (Jvm.Cond.code ({ cls := "ClockTeethModel", name := "vote", desc := "(II)I" } : Jvm.MethodName) prog_11_method_28_code (3 : Nat) (Option.some Jvm.ClassFile.FieldType.int)) ∈ TB := tbm5 (i := 118) rfl rfl
theorem w1075 : (Jvm.Cond.methodLink "ClockTeethLaw" (46 : Nat) ({ cls := "ClockTeethModel", name := "vote", desc := "(II)I" } : Jvm.MethodName)) ∈ TB := tbm5 (i := 115) rfl rfl
theorem w1076 : (Jvm.Cond.instanceMethod ({ cls := "ClockTeethModel", name := "vote", desc := "(II)I" } : Jvm.MethodName)) ∈ TB := tbm5 (i := 116) rfl rfl
theorem w1077 : (Jvm.Cond.selects "ClockTeethModel" ({ cls := "ClockTeethModel", name := "vote", desc := "(II)I" } : Jvm.MethodName) ({ cls := "ClockTeethModel", name := "vote", desc := "(II)I" } : Jvm.MethodName)) ∈ TB := tbm5 (i := 117) rfl rfl
theorem w519 : (Jvm.Cond.code ({ cls := "ClockTeeth", name := "out", desc := "(IJ)I" } : Jvm.MethodName) prog_1_method_9_code (4 : Nat) (Option.some Jvm.ClassFile.FieldType.int)) ∈ TB := tbm3 (i := 39) rfl rfl
theorem w516 : (Jvm.Cond.methodLink "ClockTeethLaw" (47 : Nat) ({ cls := "ClockTeeth", name := "out", desc := "(IJ)I" } : Jvm.MethodName)) ∈ TB := tbm3 (i := 36) rfl rfl
theorem w517 : (Jvm.Cond.instanceMethod ({ cls := "ClockTeeth", name := "out", desc := "(IJ)I" } : Jvm.MethodName)) ∈ TB := tbm3 (i := 37) rfl rfl
theorem w518 : (Jvm.Cond.selects "ClockTeeth" ({ cls := "ClockTeeth", name := "out", desc := "(IJ)I" } : Jvm.MethodName) ({ cls := "ClockTeeth", name := "out", desc := "(IJ)I" } : Jvm.MethodName)) ∈ TB := tbm3 (i := 38) rfl rfl
theorem w1083 : (Jvm.Cond.code ({ cls := "ClockTeethModel", name := "out", desc := "(IJ)I" } : Jvm.MethodName) prog_11_method_33_code (4 : Nat) (Option.some Jvm.ClassFile.FieldType.int)) ∈ TB := tbm5 (i := 123) rfl rfl
theorem w1080 : (Jvm.Cond.methodLink "ClockTeethLaw" (51 : Nat) ({ cls := "ClockTeethModel", name := "out", desc := "(IJ)I" } : Jvm.MethodName)) ∈ TB := tbm5 (i := 120) rfl rfl
theorem w1081 : (Jvm.Cond.instanceMethod ({ cls := "ClockTeethModel", name := "out", desc := "(IJ)I" } : Jvm.MethodName)) ∈ TB := tbm5 (i := 121) rfl rfl
theorem w1082 : (Jvm.Cond.selects "ClockTeethModel" ({ cls := "ClockTeethModel", name := "out", desc := "(IJ)I" } : Jvm.MethodName) ({ cls := "ClockTeethModel", name := "out", desc := "(IJ)I" } : Jvm.MethodName)) ∈ TB := tbm5 (i := 122) rfl rfl
theorem w538 : (Jvm.Cond.code ({ cls := "ClockTeeth", name := "next", desc := "(IJ)J" } : Jvm.MethodName) prog_1_method_10_code (4 : Nat) (Option.some Jvm.ClassFile.FieldType.long)) ∈ TB := tbm3 (i := 58) rfl rfl
theorem w535 : (Jvm.Cond.methodLink "ClockTeethLaw" (52 : Nat) ({ cls := "ClockTeeth", name := "next", desc := "(IJ)J" } : Jvm.MethodName)) ∈ TB := tbm3 (i := 55) rfl rfl
theorem w536 : (Jvm.Cond.instanceMethod ({ cls := "ClockTeeth", name := "next", desc := "(IJ)J" } : Jvm.MethodName)) ∈ TB := tbm3 (i := 56) rfl rfl
theorem w537 : (Jvm.Cond.selects "ClockTeeth" ({ cls := "ClockTeeth", name := "next", desc := "(IJ)J" } : Jvm.MethodName) ({ cls := "ClockTeeth", name := "next", desc := "(IJ)J" } : Jvm.MethodName)) ∈ TB := tbm3 (i := 57) rfl rfl
theorem w1106 : (Jvm.Cond.code ({ cls := "ClockTeethModel", name := "next", desc := "(IJ)J" } : Jvm.MethodName) prog_11_method_37_code (4 : Nat) (Option.some Jvm.ClassFile.FieldType.long)) ∈ TB := tbm5 (i := 146) rfl rfl
theorem w1103 : (Jvm.Cond.methodLink "ClockTeethLaw" (56 : Nat) ({ cls := "ClockTeethModel", name := "next", desc := "(IJ)J" } : Jvm.MethodName)) ∈ TB := tbm5 (i := 143) rfl rfl
theorem w1104 : (Jvm.Cond.instanceMethod ({ cls := "ClockTeethModel", name := "next", desc := "(IJ)J" } : Jvm.MethodName)) ∈ TB := tbm5 (i := 144) rfl rfl
theorem w1105 : (Jvm.Cond.selects "ClockTeethModel" ({ cls := "ClockTeethModel", name := "next", desc := "(IJ)J" } : Jvm.MethodName) ({ cls := "ClockTeethModel", name := "next", desc := "(IJ)J" } : Jvm.MethodName)) ∈ TB := tbm5 (i := 145) rfl rfl
theorem w588 : (Jvm.Cond.code ({ cls := "ClockTeeth", name := "last", desc := "(IJ)J" } : Jvm.MethodName) prog_1_method_11_code (10 : Nat) (Option.some Jvm.ClassFile.FieldType.long)) ∈ TB := tbm3 (i := 108) rfl rfl
theorem w585 : (Jvm.Cond.methodLink "ClockTeethLaw" (57 : Nat) ({ cls := "ClockTeeth", name := "last", desc := "(IJ)J" } : Jvm.MethodName)) ∈ TB := tbm3 (i := 105) rfl rfl
theorem w586 : (Jvm.Cond.instanceMethod ({ cls := "ClockTeeth", name := "last", desc := "(IJ)J" } : Jvm.MethodName)) ∈ TB := tbm3 (i := 106) rfl rfl
theorem w587 : (Jvm.Cond.selects "ClockTeeth" ({ cls := "ClockTeeth", name := "last", desc := "(IJ)J" } : Jvm.MethodName) ({ cls := "ClockTeeth", name := "last", desc := "(IJ)J" } : Jvm.MethodName)) ∈ TB := tbm3 (i := 107) rfl rfl
theorem w1122 : (Jvm.Cond.code ({ cls := "ClockTeethModel", name := "last", desc := "(IJ)J" } : Jvm.MethodName) prog_11_method_38_code (9 : Nat) (Option.some Jvm.ClassFile.FieldType.long)) ∈ TB := tbm5 (i := 162) rfl rfl
theorem w1119 : (Jvm.Cond.methodLink "ClockTeethLaw" (60 : Nat) ({ cls := "ClockTeethModel", name := "last", desc := "(IJ)J" } : Jvm.MethodName)) ∈ TB := tbm5 (i := 159) rfl rfl
theorem w1120 : (Jvm.Cond.instanceMethod ({ cls := "ClockTeethModel", name := "last", desc := "(IJ)J" } : Jvm.MethodName)) ∈ TB := tbm5 (i := 160) rfl rfl
theorem w1121 : (Jvm.Cond.selects "ClockTeethModel" ({ cls := "ClockTeethModel", name := "last", desc := "(IJ)J" } : Jvm.MethodName) ({ cls := "ClockTeethModel", name := "last", desc := "(IJ)J" } : Jvm.MethodName)) ∈ TB := tbm5 (i := 161) rfl rfl
theorem w596 : (Jvm.Cond.code ({ cls := "ClockTeeth", name := "often", desc := "(IJJ)J" } : Jvm.MethodName) prog_1_method_12_code (6 : Nat) (Option.some Jvm.ClassFile.FieldType.long)) ∈ TB := tbm3 (i := 116) rfl rfl
theorem w593 : (Jvm.Cond.methodLink "ClockTeethLaw" (61 : Nat) ({ cls := "ClockTeeth", name := "often", desc := "(IJJ)J" } : Jvm.MethodName)) ∈ TB := tbm3 (i := 113) rfl rfl
theorem w594 : (Jvm.Cond.instanceMethod ({ cls := "ClockTeeth", name := "often", desc := "(IJJ)J" } : Jvm.MethodName)) ∈ TB := tbm3 (i := 114) rfl rfl
theorem w595 : (Jvm.Cond.selects "ClockTeeth" ({ cls := "ClockTeeth", name := "often", desc := "(IJJ)J" } : Jvm.MethodName) ({ cls := "ClockTeeth", name := "often", desc := "(IJJ)J" } : Jvm.MethodName)) ∈ TB := tbm3 (i := 115) rfl rfl
theorem w1126 : (Jvm.Cond.code ({ cls := "ClockTeethModel", name := "often", desc := "(IJJ)J" } : Jvm.MethodName) prog_11_method_42_code (9 : Nat) (Option.some Jvm.ClassFile.FieldType.long)) ∈ TB := tbm5 (i := 166) rfl rfl
theorem w1123 : (Jvm.Cond.methodLink "ClockTeethLaw" (65 : Nat) ({ cls := "ClockTeethModel", name := "often", desc := "(IJJ)J" } : Jvm.MethodName)) ∈ TB := tbm5 (i := 163) rfl rfl
theorem w1124 : (Jvm.Cond.instanceMethod ({ cls := "ClockTeethModel", name := "often", desc := "(IJJ)J" } : Jvm.MethodName)) ∈ TB := tbm5 (i := 164) rfl rfl
theorem w1125 : (Jvm.Cond.selects "ClockTeethModel" ({ cls := "ClockTeethModel", name := "often", desc := "(IJJ)J" } : Jvm.MethodName) ({ cls := "ClockTeethModel", name := "often", desc := "(IJJ)J" } : Jvm.MethodName)) ∈ TB := tbm5 (i := 165) rfl rfl
theorem w611 : (Jvm.Cond.code ({ cls := "ClockTeeth", name := "together", desc := "(IIJ)J" } : Jvm.MethodName) prog_1_method_13_code (5 : Nat) (Option.some Jvm.ClassFile.FieldType.long)) ∈ TB := tbm3 (i := 131) rfl rfl
theorem w608 : (Jvm.Cond.methodLink "ClockTeethLaw" (66 : Nat) ({ cls := "ClockTeeth", name := "together", desc := "(IIJ)J" } : Jvm.MethodName)) ∈ TB := tbm3 (i := 128) rfl rfl
theorem w609 : (Jvm.Cond.instanceMethod ({ cls := "ClockTeeth", name := "together", desc := "(IIJ)J" } : Jvm.MethodName)) ∈ TB := tbm3 (i := 129) rfl rfl
theorem w610 : (Jvm.Cond.selects "ClockTeeth" ({ cls := "ClockTeeth", name := "together", desc := "(IIJ)J" } : Jvm.MethodName) ({ cls := "ClockTeeth", name := "together", desc := "(IIJ)J" } : Jvm.MethodName)) ∈ TB := tbm3 (i := 130) rfl rfl
theorem w1139 : (Jvm.Cond.code ({ cls := "ClockTeethModel", name := "together", desc := "(IIJ)J" } : Jvm.MethodName) prog_11_method_51_code (5 : Nat) (Option.some Jvm.ClassFile.FieldType.long)) ∈ TB := tbm5 (i := 179) rfl rfl
theorem w1136 : (Jvm.Cond.methodLink "ClockTeethLaw" (70 : Nat) ({ cls := "ClockTeethModel", name := "together", desc := "(IIJ)J" } : Jvm.MethodName)) ∈ TB := tbm5 (i := 176) rfl rfl
theorem w1137 : (Jvm.Cond.instanceMethod ({ cls := "ClockTeethModel", name := "together", desc := "(IIJ)J" } : Jvm.MethodName)) ∈ TB := tbm5 (i := 177) rfl rfl
theorem w1138 : (Jvm.Cond.selects "ClockTeethModel" ({ cls := "ClockTeethModel", name := "together", desc := "(IIJ)J" } : Jvm.MethodName) ({ cls := "ClockTeethModel", name := "together", desc := "(IIJ)J" } : Jvm.MethodName)) ∈ TB := tbm5 (i := 178) rfl rfl
theorem w619 : (Jvm.Cond.code ({ cls := "ClockTeeth", name := "meetings", desc := "(IIJJ)J" } : Jvm.MethodName) prog_1_method_14_code (7 : Nat) (Option.some Jvm.ClassFile.FieldType.long)) ∈ TB := tbm3 (i := 139) rfl rfl
theorem w616 : (Jvm.Cond.methodLink "ClockTeethLaw" (71 : Nat) ({ cls := "ClockTeeth", name := "meetings", desc := "(IIJJ)J" } : Jvm.MethodName)) ∈ TB := tbm3 (i := 136) rfl rfl
theorem w617 : (Jvm.Cond.instanceMethod ({ cls := "ClockTeeth", name := "meetings", desc := "(IIJJ)J" } : Jvm.MethodName)) ∈ TB := tbm3 (i := 137) rfl rfl
theorem w618 : (Jvm.Cond.selects "ClockTeeth" ({ cls := "ClockTeeth", name := "meetings", desc := "(IIJJ)J" } : Jvm.MethodName) ({ cls := "ClockTeeth", name := "meetings", desc := "(IIJJ)J" } : Jvm.MethodName)) ∈ TB := tbm3 (i := 138) rfl rfl
theorem w1173 : (Jvm.Cond.code ({ cls := "ClockTeethModel", name := "meetings", desc := "(IIJJ)J" } : Jvm.MethodName) prog_11_method_52_code (10 : Nat) (Option.some Jvm.ClassFile.FieldType.long)) ∈ TB := tbm5 (i := 213) rfl rfl
theorem w1170 : (Jvm.Cond.methodLink "ClockTeethLaw" (75 : Nat) ({ cls := "ClockTeethModel", name := "meetings", desc := "(IIJJ)J" } : Jvm.MethodName)) ∈ TB := tbm5 (i := 210) rfl rfl
theorem w1171 : (Jvm.Cond.instanceMethod ({ cls := "ClockTeethModel", name := "meetings", desc := "(IIJJ)J" } : Jvm.MethodName)) ∈ TB := tbm5 (i := 211) rfl rfl
theorem w1172 : (Jvm.Cond.selects "ClockTeethModel" ({ cls := "ClockTeethModel", name := "meetings", desc := "(IIJJ)J" } : Jvm.MethodName) ({ cls := "ClockTeethModel", name := "meetings", desc := "(IIJJ)J" } : Jvm.MethodName)) ∈ TB := tbm5 (i := 212) rfl rfl
theorem w623 : (Jvm.Cond.code ({ cls := "ClockTeeth", name := "all", desc := "(IJ)J" } : Jvm.MethodName) prog_1_method_15_code (4 : Nat) (Option.some Jvm.ClassFile.FieldType.long)) ∈ TB := tbm3 (i := 143) rfl rfl
theorem w620 : (Jvm.Cond.methodLink "ClockTeethLaw" (76 : Nat) ({ cls := "ClockTeeth", name := "all", desc := "(IJ)J" } : Jvm.MethodName)) ∈ TB := tbm3 (i := 140) rfl rfl
theorem w621 : (Jvm.Cond.instanceMethod ({ cls := "ClockTeeth", name := "all", desc := "(IJ)J" } : Jvm.MethodName)) ∈ TB := tbm3 (i := 141) rfl rfl
theorem w622 : (Jvm.Cond.selects "ClockTeeth" ({ cls := "ClockTeeth", name := "all", desc := "(IJ)J" } : Jvm.MethodName) ({ cls := "ClockTeeth", name := "all", desc := "(IJ)J" } : Jvm.MethodName)) ∈ TB := tbm3 (i := 142) rfl rfl
theorem w1177 : (Jvm.Cond.code ({ cls := "ClockTeethModel", name := "all", desc := "(IJ)J" } : Jvm.MethodName) prog_11_method_54_code (4 : Nat) (Option.some Jvm.ClassFile.FieldType.long)) ∈ TB := tbm5 (i := 217) rfl rfl
theorem w1174 : (Jvm.Cond.methodLink "ClockTeethLaw" (79 : Nat) ({ cls := "ClockTeethModel", name := "all", desc := "(IJ)J" } : Jvm.MethodName)) ∈ TB := tbm5 (i := 214) rfl rfl
theorem w1175 : (Jvm.Cond.instanceMethod ({ cls := "ClockTeethModel", name := "all", desc := "(IJ)J" } : Jvm.MethodName)) ∈ TB := tbm5 (i := 215) rfl rfl
theorem w1176 : (Jvm.Cond.selects "ClockTeethModel" ({ cls := "ClockTeethModel", name := "all", desc := "(IJ)J" } : Jvm.MethodName) ({ cls := "ClockTeethModel", name := "all", desc := "(IJ)J" } : Jvm.MethodName)) ∈ TB := tbm5 (i := 216) rfl rfl
theorem w631 : (Jvm.Cond.code ({ cls := "ClockTeeth", name := "cycle", desc := "(I)J" } : Jvm.MethodName) prog_1_method_16_code (2 : Nat) (Option.some Jvm.ClassFile.FieldType.long)) ∈ TB := tbm3 (i := 151) rfl rfl
theorem w628 : (Jvm.Cond.methodLink "ClockTeethLaw" (80 : Nat) ({ cls := "ClockTeeth", name := "cycle", desc := "(I)J" } : Jvm.MethodName)) ∈ TB := tbm3 (i := 148) rfl rfl
theorem w629 : (Jvm.Cond.instanceMethod ({ cls := "ClockTeeth", name := "cycle", desc := "(I)J" } : Jvm.MethodName)) ∈ TB := tbm3 (i := 149) rfl rfl
theorem w630 : (Jvm.Cond.selects "ClockTeeth" ({ cls := "ClockTeeth", name := "cycle", desc := "(I)J" } : Jvm.MethodName) ({ cls := "ClockTeeth", name := "cycle", desc := "(I)J" } : Jvm.MethodName)) ∈ TB := tbm3 (i := 150) rfl rfl
theorem w1185 : (Jvm.Cond.code ({ cls := "ClockTeethModel", name := "cycle", desc := "(I)J" } : Jvm.MethodName) prog_11_method_55_code (5 : Nat) (Option.some Jvm.ClassFile.FieldType.long)) ∈ TB := tbm5 (i := 225) rfl rfl
theorem w1182 : (Jvm.Cond.methodLink "ClockTeethLaw" (84 : Nat) ({ cls := "ClockTeethModel", name := "cycle", desc := "(I)J" } : Jvm.MethodName)) ∈ TB := tbm5 (i := 222) rfl rfl
theorem w1183 : (Jvm.Cond.instanceMethod ({ cls := "ClockTeethModel", name := "cycle", desc := "(I)J" } : Jvm.MethodName)) ∈ TB := tbm5 (i := 223) rfl rfl
theorem w1184 : (Jvm.Cond.selects "ClockTeethModel" ({ cls := "ClockTeethModel", name := "cycle", desc := "(I)J" } : Jvm.MethodName) ({ cls := "ClockTeethModel", name := "cycle", desc := "(I)J" } : Jvm.MethodName)) ∈ TB := tbm5 (i := 224) rfl rfl
theorem w639 : (Jvm.Cond.code ({ cls := "ClockTeeth", name := "crash", desc := "(I)I" } : Jvm.MethodName) prog_1_method_17_code (2 : Nat) (Option.some Jvm.ClassFile.FieldType.int)) ∈ TB := tbm3 (i := 159) rfl rfl
theorem w636 : (Jvm.Cond.methodLink "ClockTeethLaw" (85 : Nat) ({ cls := "ClockTeeth", name := "crash", desc := "(I)I" } : Jvm.MethodName)) ∈ TB := tbm3 (i := 156) rfl rfl
theorem w637 : (Jvm.Cond.instanceMethod ({ cls := "ClockTeeth", name := "crash", desc := "(I)I" } : Jvm.MethodName)) ∈ TB := tbm3 (i := 157) rfl rfl
theorem w638 : (Jvm.Cond.selects "ClockTeeth" ({ cls := "ClockTeeth", name := "crash", desc := "(I)I" } : Jvm.MethodName) ({ cls := "ClockTeeth", name := "crash", desc := "(I)I" } : Jvm.MethodName)) ∈ TB := tbm3 (i := 158) rfl rfl
theorem w1189 : (Jvm.Cond.code ({ cls := "ClockTeethModel", name := "crash", desc := "(I)I" } : Jvm.MethodName) prog_11_method_58_code (2 : Nat) (Option.some Jvm.ClassFile.FieldType.int)) ∈ TB := tbm5 (i := 229) rfl rfl
theorem w1186 : (Jvm.Cond.methodLink "ClockTeethLaw" (88 : Nat) ({ cls := "ClockTeethModel", name := "crash", desc := "(I)I" } : Jvm.MethodName)) ∈ TB := tbm5 (i := 226) rfl rfl
theorem w1187 : (Jvm.Cond.instanceMethod ({ cls := "ClockTeethModel", name := "crash", desc := "(I)I" } : Jvm.MethodName)) ∈ TB := tbm5 (i := 227) rfl rfl
theorem w1188 : (Jvm.Cond.selects "ClockTeethModel" ({ cls := "ClockTeethModel", name := "crash", desc := "(I)I" } : Jvm.MethodName) ({ cls := "ClockTeethModel", name := "crash", desc := "(I)I" } : Jvm.MethodName)) ∈ TB := tbm5 (i := 228) rfl rfl
theorem w654 : (Jvm.Cond.code ({ cls := "ClockTeeth", name := "first", desc := "(JI)J" } : Jvm.MethodName) prog_1_method_18_code (11 : Nat) (Option.some Jvm.ClassFile.FieldType.long)) ∈ TB := tbm3 (i := 174) rfl rfl
theorem w651 : (Jvm.Cond.methodLink "ClockTeethLaw" (89 : Nat) ({ cls := "ClockTeeth", name := "first", desc := "(JI)J" } : Jvm.MethodName)) ∈ TB := tbm3 (i := 171) rfl rfl
theorem w652 : (Jvm.Cond.instanceMethod ({ cls := "ClockTeeth", name := "first", desc := "(JI)J" } : Jvm.MethodName)) ∈ TB := tbm3 (i := 172) rfl rfl
theorem w653 : (Jvm.Cond.selects "ClockTeeth" ({ cls := "ClockTeeth", name := "first", desc := "(JI)J" } : Jvm.MethodName) ({ cls := "ClockTeeth", name := "first", desc := "(JI)J" } : Jvm.MethodName)) ∈ TB := tbm3 (i := 173) rfl rfl
theorem w1201 : (Jvm.Cond.code ({ cls := "ClockTeethModel", name := "first", desc := "(JI)J" } : Jvm.MethodName) prog_11_method_61_code (12 : Nat) (Option.some Jvm.ClassFile.FieldType.long)) ∈ TB := tbm6 (i := 1) rfl rfl
theorem w1198 : (Jvm.Cond.methodLink "ClockTeethLaw" (93 : Nat) ({ cls := "ClockTeethModel", name := "first", desc := "(JI)J" } : Jvm.MethodName)) ∈ TB := tbm5 (i := 238) rfl rfl
theorem w1199 : (Jvm.Cond.instanceMethod ({ cls := "ClockTeethModel", name := "first", desc := "(JI)J" } : Jvm.MethodName)) ∈ TB := tbm5 (i := 239) rfl rfl
theorem w1200 : (Jvm.Cond.selects "ClockTeethModel" ({ cls := "ClockTeethModel", name := "first", desc := "(JI)J" } : Jvm.MethodName) ({ cls := "ClockTeethModel", name := "first", desc := "(JI)J" } : Jvm.MethodName)) ∈ TB := tbm6 (i := 0) rfl rfl
theorem w662 : (Jvm.Cond.code ({ cls := "ClockTeeth", name := "date", desc := "(JI)J" } : Jvm.MethodName) prog_1_method_19_code (4 : Nat) (Option.some Jvm.ClassFile.FieldType.long)) ∈ TB := tbm3 (i := 182) rfl rfl
theorem w659 : (Jvm.Cond.methodLink "ClockTeethLaw" (94 : Nat) ({ cls := "ClockTeeth", name := "date", desc := "(JI)J" } : Jvm.MethodName)) ∈ TB := tbm3 (i := 179) rfl rfl
theorem w660 : (Jvm.Cond.instanceMethod ({ cls := "ClockTeeth", name := "date", desc := "(JI)J" } : Jvm.MethodName)) ∈ TB := tbm3 (i := 180) rfl rfl
theorem w661 : (Jvm.Cond.selects "ClockTeeth" ({ cls := "ClockTeeth", name := "date", desc := "(JI)J" } : Jvm.MethodName) ({ cls := "ClockTeeth", name := "date", desc := "(JI)J" } : Jvm.MethodName)) ∈ TB := tbm3 (i := 181) rfl rfl
theorem w1205 : (Jvm.Cond.code ({ cls := "ClockTeethModel", name := "date", desc := "(JI)J" } : Jvm.MethodName) prog_11_method_64_code (4 : Nat) (Option.some Jvm.ClassFile.FieldType.long)) ∈ TB := tbm6 (i := 5) rfl rfl
theorem w1202 : (Jvm.Cond.methodLink "ClockTeethLaw" (97 : Nat) ({ cls := "ClockTeethModel", name := "date", desc := "(JI)J" } : Jvm.MethodName)) ∈ TB := tbm6 (i := 2) rfl rfl
theorem w1203 : (Jvm.Cond.instanceMethod ({ cls := "ClockTeethModel", name := "date", desc := "(JI)J" } : Jvm.MethodName)) ∈ TB := tbm6 (i := 3) rfl rfl
theorem w1204 : (Jvm.Cond.selects "ClockTeethModel" ({ cls := "ClockTeethModel", name := "date", desc := "(JI)J" } : Jvm.MethodName) ({ cls := "ClockTeethModel", name := "date", desc := "(JI)J" } : Jvm.MethodName)) ∈ TB := tbm6 (i := 4) rfl rfl
theorem w674 : (Jvm.Cond.code ({ cls := "ClockTeeth", name := "day", desc := "(II)J" } : Jvm.MethodName) prog_1_method_20_code (4 : Nat) (Option.some Jvm.ClassFile.FieldType.long)) ∈ TB := tbm3 (i := 194) rfl rfl
theorem w671 : (Jvm.Cond.methodLink "ClockTeethLaw" (98 : Nat) ({ cls := "ClockTeeth", name := "day", desc := "(II)J" } : Jvm.MethodName)) ∈ TB := tbm3 (i := 191) rfl rfl
theorem w672 : (Jvm.Cond.instanceMethod ({ cls := "ClockTeeth", name := "day", desc := "(II)J" } : Jvm.MethodName)) ∈ TB := tbm3 (i := 192) rfl rfl
theorem w673 : (Jvm.Cond.selects "ClockTeeth" ({ cls := "ClockTeeth", name := "day", desc := "(II)J" } : Jvm.MethodName) ({ cls := "ClockTeeth", name := "day", desc := "(II)J" } : Jvm.MethodName)) ∈ TB := tbm3 (i := 193) rfl rfl
theorem w1216 : (Jvm.Cond.code ({ cls := "ClockTeethModel", name := "day", desc := "(II)J" } : Jvm.MethodName) prog_11_method_65_code (4 : Nat) (Option.some Jvm.ClassFile.FieldType.long)) ∈ TB := tbm6 (i := 16) rfl rfl
theorem w1213 : (Jvm.Cond.methodLink "ClockTeethLaw" (102 : Nat) ({ cls := "ClockTeethModel", name := "day", desc := "(II)J" } : Jvm.MethodName)) ∈ TB := tbm6 (i := 13) rfl rfl
theorem w1214 : (Jvm.Cond.instanceMethod ({ cls := "ClockTeethModel", name := "day", desc := "(II)J" } : Jvm.MethodName)) ∈ TB := tbm6 (i := 14) rfl rfl
theorem w1215 : (Jvm.Cond.selects "ClockTeethModel" ({ cls := "ClockTeethModel", name := "day", desc := "(II)J" } : Jvm.MethodName) ({ cls := "ClockTeethModel", name := "day", desc := "(II)J" } : Jvm.MethodName)) ∈ TB := tbm6 (i := 15) rfl rfl
theorem w679 : (Jvm.Cond.code ({ cls := "ClockTeeth", name := "by", desc := "(IJ)I" } : Jvm.MethodName) prog_1_method_21_code (5 : Nat) (Option.some Jvm.ClassFile.FieldType.int)) ∈ TB := tbm3 (i := 199) rfl rfl
theorem w676 : (Jvm.Cond.methodLink "ClockTeethLaw" (103 : Nat) ({ cls := "ClockTeeth", name := "by", desc := "(IJ)I" } : Jvm.MethodName)) ∈ TB := tbm3 (i := 196) rfl rfl
theorem w677 : (Jvm.Cond.instanceMethod ({ cls := "ClockTeeth", name := "by", desc := "(IJ)I" } : Jvm.MethodName)) ∈ TB := tbm3 (i := 197) rfl rfl
theorem w678 : (Jvm.Cond.selects "ClockTeeth" ({ cls := "ClockTeeth", name := "by", desc := "(IJ)I" } : Jvm.MethodName) ({ cls := "ClockTeeth", name := "by", desc := "(IJ)I" } : Jvm.MethodName)) ∈ TB := tbm3 (i := 198) rfl rfl
theorem w1223 : (Jvm.Cond.code ({ cls := "ClockTeethModel", name := "by", desc := "(IJ)I" } : Jvm.MethodName) prog_11_method_67_code (4 : Nat) (Option.some Jvm.ClassFile.FieldType.int)) ∈ TB := tbm6 (i := 23) rfl rfl
theorem w1220 : (Jvm.Cond.methodLink "ClockTeethLaw" (106 : Nat) ({ cls := "ClockTeethModel", name := "by", desc := "(IJ)I" } : Jvm.MethodName)) ∈ TB := tbm6 (i := 20) rfl rfl
theorem w1221 : (Jvm.Cond.instanceMethod ({ cls := "ClockTeethModel", name := "by", desc := "(IJ)I" } : Jvm.MethodName)) ∈ TB := tbm6 (i := 21) rfl rfl
theorem w1222 : (Jvm.Cond.selects "ClockTeethModel" ({ cls := "ClockTeethModel", name := "by", desc := "(IJ)I" } : Jvm.MethodName) ({ cls := "ClockTeethModel", name := "by", desc := "(IJ)I" } : Jvm.MethodName)) ∈ TB := tbm6 (i := 22) rfl rfl
theorem w687 : (Jvm.Cond.code ({ cls := "ClockTeeth", name := "clashes", desc := "(JI)I" } : Jvm.MethodName) prog_1_method_22_code (6 : Nat) (Option.some Jvm.ClassFile.FieldType.int)) ∈ TB := tbm3 (i := 207) rfl rfl
theorem w684 : (Jvm.Cond.methodLink "ClockTeethLaw" (107 : Nat) ({ cls := "ClockTeeth", name := "clashes", desc := "(JI)I" } : Jvm.MethodName)) ∈ TB := tbm3 (i := 204) rfl rfl
theorem w685 : (Jvm.Cond.instanceMethod ({ cls := "ClockTeeth", name := "clashes", desc := "(JI)I" } : Jvm.MethodName)) ∈ TB := tbm3 (i := 205) rfl rfl
theorem w686 : (Jvm.Cond.selects "ClockTeeth" ({ cls := "ClockTeeth", name := "clashes", desc := "(JI)I" } : Jvm.MethodName) ({ cls := "ClockTeeth", name := "clashes", desc := "(JI)I" } : Jvm.MethodName)) ∈ TB := tbm3 (i := 206) rfl rfl
theorem w1231 : (Jvm.Cond.code ({ cls := "ClockTeethModel", name := "clashes", desc := "(JI)I" } : Jvm.MethodName) prog_11_method_70_code (6 : Nat) (Option.some Jvm.ClassFile.FieldType.int)) ∈ TB := tbm6 (i := 31) rfl rfl
theorem w1228 : (Jvm.Cond.methodLink "ClockTeethLaw" (111 : Nat) ({ cls := "ClockTeethModel", name := "clashes", desc := "(JI)I" } : Jvm.MethodName)) ∈ TB := tbm6 (i := 28) rfl rfl
theorem w1229 : (Jvm.Cond.instanceMethod ({ cls := "ClockTeethModel", name := "clashes", desc := "(JI)I" } : Jvm.MethodName)) ∈ TB := tbm6 (i := 29) rfl rfl
theorem w1230 : (Jvm.Cond.selects "ClockTeethModel" ({ cls := "ClockTeethModel", name := "clashes", desc := "(JI)I" } : Jvm.MethodName) ({ cls := "ClockTeethModel", name := "clashes", desc := "(JI)I" } : Jvm.MethodName)) ∈ TB := tbm6 (i := 30) rfl rfl
theorem w701 : (Jvm.Cond.code ({ cls := "ClockTeeth", name := "stick", desc := "(III)I" } : Jvm.MethodName) prog_1_method_23_code (6 : Nat) (Option.some Jvm.ClassFile.FieldType.int)) ∈ TB := tbm3 (i := 221) rfl rfl
theorem w698 : (Jvm.Cond.methodLink "ClockTeethLaw" (112 : Nat) ({ cls := "ClockTeeth", name := "stick", desc := "(III)I" } : Jvm.MethodName)) ∈ TB := tbm3 (i := 218) rfl rfl
theorem w699 : (Jvm.Cond.instanceMethod ({ cls := "ClockTeeth", name := "stick", desc := "(III)I" } : Jvm.MethodName)) ∈ TB := tbm3 (i := 219) rfl rfl
theorem w700 : (Jvm.Cond.selects "ClockTeeth" ({ cls := "ClockTeeth", name := "stick", desc := "(III)I" } : Jvm.MethodName) ({ cls := "ClockTeeth", name := "stick", desc := "(III)I" } : Jvm.MethodName)) ∈ TB := tbm3 (i := 220) rfl rfl
theorem w1243 : (Jvm.Cond.code ({ cls := "ClockTeethModel", name := "stick", desc := "(III)I" } : Jvm.MethodName) prog_11_method_71_code (6 : Nat) (Option.some Jvm.ClassFile.FieldType.int)) ∈ TB := tbm6 (i := 43) rfl rfl
theorem w1240 : (Jvm.Cond.methodLink "ClockTeethLaw" (116 : Nat) ({ cls := "ClockTeethModel", name := "stick", desc := "(III)I" } : Jvm.MethodName)) ∈ TB := tbm6 (i := 40) rfl rfl
theorem w1241 : (Jvm.Cond.instanceMethod ({ cls := "ClockTeethModel", name := "stick", desc := "(III)I" } : Jvm.MethodName)) ∈ TB := tbm6 (i := 41) rfl rfl
theorem w1242 : (Jvm.Cond.selects "ClockTeethModel" ({ cls := "ClockTeethModel", name := "stick", desc := "(III)I" } : Jvm.MethodName) ({ cls := "ClockTeethModel", name := "stick", desc := "(III)I" } : Jvm.MethodName)) ∈ TB := tbm6 (i := 42) rfl rfl
theorem w710 : (Jvm.Cond.code ({ cls := "ClockTeeth", name := "cut", desc := "(II)I" } : Jvm.MethodName) prog_1_method_24_code (3 : Nat) (Option.some Jvm.ClassFile.FieldType.int)) ∈ TB := tbm3 (i := 230) rfl rfl
theorem w707 : (Jvm.Cond.methodLink "ClockTeethLaw" (117 : Nat) ({ cls := "ClockTeeth", name := "cut", desc := "(II)I" } : Jvm.MethodName)) ∈ TB := tbm3 (i := 227) rfl rfl
theorem w708 : (Jvm.Cond.instanceMethod ({ cls := "ClockTeeth", name := "cut", desc := "(II)I" } : Jvm.MethodName)) ∈ TB := tbm3 (i := 228) rfl rfl
theorem w709 : (Jvm.Cond.selects "ClockTeeth" ({ cls := "ClockTeeth", name := "cut", desc := "(II)I" } : Jvm.MethodName) ({ cls := "ClockTeeth", name := "cut", desc := "(II)I" } : Jvm.MethodName)) ∈ TB := tbm3 (i := 229) rfl rfl
theorem w1248 : (Jvm.Cond.code ({ cls := "ClockTeethModel", name := "cut", desc := "(II)I" } : Jvm.MethodName) prog_11_method_75_code (3 : Nat) (Option.some Jvm.ClassFile.FieldType.int)) ∈ TB := tbm6 (i := 48) rfl rfl
theorem w1245 : (Jvm.Cond.methodLink "ClockTeethLaw" (120 : Nat) ({ cls := "ClockTeethModel", name := "cut", desc := "(II)I" } : Jvm.MethodName)) ∈ TB := tbm6 (i := 45) rfl rfl
theorem w1246 : (Jvm.Cond.instanceMethod ({ cls := "ClockTeethModel", name := "cut", desc := "(II)I" } : Jvm.MethodName)) ∈ TB := tbm6 (i := 46) rfl rfl
theorem w1247 : (Jvm.Cond.selects "ClockTeethModel" ({ cls := "ClockTeethModel", name := "cut", desc := "(II)I" } : Jvm.MethodName) ({ cls := "ClockTeethModel", name := "cut", desc := "(II)I" } : Jvm.MethodName)) ∈ TB := tbm6 (i := 47) rfl rfl
theorem w739 : (Jvm.Cond.code ({ cls := "ClockTeeth", name := "turn", desc := "(I)I" } : Jvm.MethodName) prog_1_method_25_code (7 : Nat) (Option.some Jvm.ClassFile.FieldType.int)) ∈ TB := tbm4 (i := 19) rfl rfl
theorem w736 : (Jvm.Cond.methodLink "ClockTeethLaw" (121 : Nat) ({ cls := "ClockTeeth", name := "turn", desc := "(I)I" } : Jvm.MethodName)) ∈ TB := tbm4 (i := 16) rfl rfl
theorem w737 : (Jvm.Cond.instanceMethod ({ cls := "ClockTeeth", name := "turn", desc := "(I)I" } : Jvm.MethodName)) ∈ TB := tbm4 (i := 17) rfl rfl
theorem w738 : (Jvm.Cond.selects "ClockTeeth" ({ cls := "ClockTeeth", name := "turn", desc := "(I)I" } : Jvm.MethodName) ({ cls := "ClockTeeth", name := "turn", desc := "(I)I" } : Jvm.MethodName)) ∈ TB := tbm4 (i := 18) rfl rfl
theorem w1266 : (Jvm.Cond.code ({ cls := "ClockTeethModel", name := "turn", desc := "(I)I" } : Jvm.MethodName) prog_11_method_76_code (6 : Nat) (Option.some Jvm.ClassFile.FieldType.int)) ∈ TB := tbm6 (i := 66) rfl rfl
theorem w1263 : (Jvm.Cond.methodLink "ClockTeethLaw" (124 : Nat) ({ cls := "ClockTeethModel", name := "turn", desc := "(I)I" } : Jvm.MethodName)) ∈ TB := tbm6 (i := 63) rfl rfl
theorem w1264 : (Jvm.Cond.instanceMethod ({ cls := "ClockTeethModel", name := "turn", desc := "(I)I" } : Jvm.MethodName)) ∈ TB := tbm6 (i := 64) rfl rfl
theorem w1265 : (Jvm.Cond.selects "ClockTeethModel" ({ cls := "ClockTeethModel", name := "turn", desc := "(I)I" } : Jvm.MethodName) ({ cls := "ClockTeethModel", name := "turn", desc := "(I)I" } : Jvm.MethodName)) ∈ TB := tbm6 (i := 65) rfl rfl
theorem w745 : (Jvm.Cond.code ({ cls := "ClockTeeth", name := "recut", desc := "(III)I" } : Jvm.MethodName) prog_1_method_26_code (6 : Nat) (Option.some Jvm.ClassFile.FieldType.int)) ∈ TB := tbm4 (i := 25) rfl rfl
theorem w742 : (Jvm.Cond.methodLink "ClockTeethLaw" (125 : Nat) ({ cls := "ClockTeeth", name := "recut", desc := "(III)I" } : Jvm.MethodName)) ∈ TB := tbm4 (i := 22) rfl rfl
theorem w743 : (Jvm.Cond.instanceMethod ({ cls := "ClockTeeth", name := "recut", desc := "(III)I" } : Jvm.MethodName)) ∈ TB := tbm4 (i := 23) rfl rfl
theorem w744 : (Jvm.Cond.selects "ClockTeeth" ({ cls := "ClockTeeth", name := "recut", desc := "(III)I" } : Jvm.MethodName) ({ cls := "ClockTeeth", name := "recut", desc := "(III)I" } : Jvm.MethodName)) ∈ TB := tbm4 (i := 24) rfl rfl
theorem w1270 : (Jvm.Cond.code ({ cls := "ClockTeethModel", name := "recut", desc := "(III)I" } : Jvm.MethodName) prog_11_method_77_code (5 : Nat) (Option.some Jvm.ClassFile.FieldType.int)) ∈ TB := tbm6 (i := 70) rfl rfl
theorem w1267 : (Jvm.Cond.methodLink "ClockTeethLaw" (128 : Nat) ({ cls := "ClockTeethModel", name := "recut", desc := "(III)I" } : Jvm.MethodName)) ∈ TB := tbm6 (i := 67) rfl rfl
theorem w1268 : (Jvm.Cond.instanceMethod ({ cls := "ClockTeethModel", name := "recut", desc := "(III)I" } : Jvm.MethodName)) ∈ TB := tbm6 (i := 68) rfl rfl
theorem w1269 : (Jvm.Cond.selects "ClockTeethModel" ({ cls := "ClockTeethModel", name := "recut", desc := "(III)I" } : Jvm.MethodName) ({ cls := "ClockTeethModel", name := "recut", desc := "(III)I" } : Jvm.MethodName)) ∈ TB := tbm6 (i := 69) rfl rfl
theorem w752 : (Jvm.Cond.code ({ cls := "ClockTeeth", name := "mend", desc := "(I)I" } : Jvm.MethodName) prog_1_method_27_code (5 : Nat) (Option.some Jvm.ClassFile.FieldType.int)) ∈ TB := tbm4 (i := 32) rfl rfl
theorem w749 : (Jvm.Cond.methodLink "ClockTeethLaw" (129 : Nat) ({ cls := "ClockTeeth", name := "mend", desc := "(I)I" } : Jvm.MethodName)) ∈ TB := tbm4 (i := 29) rfl rfl
theorem w750 : (Jvm.Cond.instanceMethod ({ cls := "ClockTeeth", name := "mend", desc := "(I)I" } : Jvm.MethodName)) ∈ TB := tbm4 (i := 30) rfl rfl
theorem w751 : (Jvm.Cond.selects "ClockTeeth" ({ cls := "ClockTeeth", name := "mend", desc := "(I)I" } : Jvm.MethodName) ({ cls := "ClockTeeth", name := "mend", desc := "(I)I" } : Jvm.MethodName)) ∈ TB := tbm4 (i := 31) rfl rfl
theorem w1274 : (Jvm.Cond.code ({ cls := "ClockTeethModel", name := "mend", desc := "(I)I" } : Jvm.MethodName) prog_11_method_78_code (5 : Nat) (Option.some Jvm.ClassFile.FieldType.int)) ∈ TB := tbm6 (i := 74) rfl rfl
theorem w1271 : (Jvm.Cond.methodLink "ClockTeethLaw" (132 : Nat) ({ cls := "ClockTeethModel", name := "mend", desc := "(I)I" } : Jvm.MethodName)) ∈ TB := tbm6 (i := 71) rfl rfl
theorem w1272 : (Jvm.Cond.instanceMethod ({ cls := "ClockTeethModel", name := "mend", desc := "(I)I" } : Jvm.MethodName)) ∈ TB := tbm6 (i := 72) rfl rfl
theorem w1273 : (Jvm.Cond.selects "ClockTeethModel" ({ cls := "ClockTeethModel", name := "mend", desc := "(I)I" } : Jvm.MethodName) ({ cls := "ClockTeethModel", name := "mend", desc := "(I)I" } : Jvm.MethodName)) ∈ TB := tbm6 (i := 73) rfl rfl
theorem w761 : (Jvm.Cond.code ({ cls := "ClockTeeth", name := "hold", desc := "(I)I" } : Jvm.MethodName) prog_1_method_28_code (2 : Nat) (Option.some Jvm.ClassFile.FieldType.int)) ∈ TB := tbm4 (i := 41) rfl rfl
theorem w758 : (Jvm.Cond.methodLink "ClockTeethLaw" (133 : Nat) ({ cls := "ClockTeeth", name := "hold", desc := "(I)I" } : Jvm.MethodName)) ∈ TB := tbm4 (i := 38) rfl rfl
theorem w759 : (Jvm.Cond.instanceMethod ({ cls := "ClockTeeth", name := "hold", desc := "(I)I" } : Jvm.MethodName)) ∈ TB := tbm4 (i := 39) rfl rfl
theorem w760 : (Jvm.Cond.selects "ClockTeeth" ({ cls := "ClockTeeth", name := "hold", desc := "(I)I" } : Jvm.MethodName) ({ cls := "ClockTeeth", name := "hold", desc := "(I)I" } : Jvm.MethodName)) ∈ TB := tbm4 (i := 40) rfl rfl
theorem w1285 : (Jvm.Cond.code ({ cls := "ClockTeethModel", name := "hold", desc := "(I)I" } : Jvm.MethodName) prog_11_method_79_code (5 : Nat) (Option.some Jvm.ClassFile.FieldType.int)) ∈ TB := tbm6 (i := 85) rfl rfl
theorem w1282 : (Jvm.Cond.methodLink "ClockTeethLaw" (136 : Nat) ({ cls := "ClockTeethModel", name := "hold", desc := "(I)I" } : Jvm.MethodName)) ∈ TB := tbm6 (i := 82) rfl rfl
theorem w1283 : (Jvm.Cond.instanceMethod ({ cls := "ClockTeethModel", name := "hold", desc := "(I)I" } : Jvm.MethodName)) ∈ TB := tbm6 (i := 83) rfl rfl
theorem w1284 : (Jvm.Cond.selects "ClockTeethModel" ({ cls := "ClockTeethModel", name := "hold", desc := "(I)I" } : Jvm.MethodName) ({ cls := "ClockTeethModel", name := "hold", desc := "(I)I" } : Jvm.MethodName)) ∈ TB := tbm6 (i := 84) rfl rfl
theorem w769 : (Jvm.Cond.code ({ cls := "ClockTeeth", name := "ask", desc := "(IIIII)I" } : Jvm.MethodName) prog_1_method_29_code (6 : Nat) (Option.some Jvm.ClassFile.FieldType.int)) ∈ TB := tbm4 (i := 49) rfl rfl
theorem w766 : (Jvm.Cond.methodLink "ClockTeethLaw" (137 : Nat) ({ cls := "ClockTeeth", name := "ask", desc := "(IIIII)I" } : Jvm.MethodName)) ∈ TB := tbm4 (i := 46) rfl rfl
theorem w767 : (Jvm.Cond.instanceMethod ({ cls := "ClockTeeth", name := "ask", desc := "(IIIII)I" } : Jvm.MethodName)) ∈ TB := tbm4 (i := 47) rfl rfl
theorem w768 : (Jvm.Cond.selects "ClockTeeth" ({ cls := "ClockTeeth", name := "ask", desc := "(IIIII)I" } : Jvm.MethodName) ({ cls := "ClockTeeth", name := "ask", desc := "(IIIII)I" } : Jvm.MethodName)) ∈ TB := tbm4 (i := 48) rfl rfl
theorem w1289 : (Jvm.Cond.code ({ cls := "ClockTeethModel", name := "ask", desc := "(IIIII)I" } : Jvm.MethodName) prog_11_method_80_code (8 : Nat) (Option.some Jvm.ClassFile.FieldType.int)) ∈ TB := tbm6 (i := 89) rfl rfl
theorem w1286 : (Jvm.Cond.methodLink "ClockTeethLaw" (141 : Nat) ({ cls := "ClockTeethModel", name := "ask", desc := "(IIIII)I" } : Jvm.MethodName)) ∈ TB := tbm6 (i := 86) rfl rfl
theorem w1287 : (Jvm.Cond.instanceMethod ({ cls := "ClockTeethModel", name := "ask", desc := "(IIIII)I" } : Jvm.MethodName)) ∈ TB := tbm6 (i := 87) rfl rfl
theorem w1288 : (Jvm.Cond.selects "ClockTeethModel" ({ cls := "ClockTeethModel", name := "ask", desc := "(IIIII)I" } : Jvm.MethodName) ({ cls := "ClockTeethModel", name := "ask", desc := "(IIIII)I" } : Jvm.MethodName)) ∈ TB := tbm6 (i := 88) rfl rfl
theorem w775 : (Jvm.Cond.code ({ cls := "ClockTeeth", name := "see", desc := "(IIZ)I" } : Jvm.MethodName) prog_1_method_30_code (4 : Nat) (Option.some Jvm.ClassFile.FieldType.int)) ∈ TB := tbm4 (i := 55) rfl rfl
theorem w772 : (Jvm.Cond.methodLink "ClockTeethLaw" (142 : Nat) ({ cls := "ClockTeeth", name := "see", desc := "(IIZ)I" } : Jvm.MethodName)) ∈ TB := tbm4 (i := 52) rfl rfl
theorem w773 : (Jvm.Cond.instanceMethod ({ cls := "ClockTeeth", name := "see", desc := "(IIZ)I" } : Jvm.MethodName)) ∈ TB := tbm4 (i := 53) rfl rfl
theorem w774 : (Jvm.Cond.selects "ClockTeeth" ({ cls := "ClockTeeth", name := "see", desc := "(IIZ)I" } : Jvm.MethodName) ({ cls := "ClockTeeth", name := "see", desc := "(IIZ)I" } : Jvm.MethodName)) ∈ TB := tbm4 (i := 54) rfl rfl
theorem w1294 : (Jvm.Cond.code ({ cls := "ClockTeethModel", name := "see", desc := "(IIZ)I" } : Jvm.MethodName) prog_11_method_81_code (5 : Nat) (Option.some Jvm.ClassFile.FieldType.int)) ∈ TB := tbm6 (i := 94) rfl rfl
theorem w1291 : (Jvm.Cond.methodLink "ClockTeethLaw" (146 : Nat) ({ cls := "ClockTeethModel", name := "see", desc := "(IIZ)I" } : Jvm.MethodName)) ∈ TB := tbm6 (i := 91) rfl rfl
theorem w1292 : (Jvm.Cond.instanceMethod ({ cls := "ClockTeethModel", name := "see", desc := "(IIZ)I" } : Jvm.MethodName)) ∈ TB := tbm6 (i := 92) rfl rfl
theorem w1293 : (Jvm.Cond.selects "ClockTeethModel" ({ cls := "ClockTeethModel", name := "see", desc := "(IIZ)I" } : Jvm.MethodName) ({ cls := "ClockTeethModel", name := "see", desc := "(IIZ)I" } : Jvm.MethodName)) ∈ TB := tbm6 (i := 93) rfl rfl
theorem w784 : (Jvm.Cond.code ({ cls := "ClockTeeth", name := "forget", desc := "(I)I" } : Jvm.MethodName) prog_1_method_31_code (3 : Nat) (Option.some Jvm.ClassFile.FieldType.int)) ∈ TB := tbm4 (i := 64) rfl rfl
theorem w781 : (Jvm.Cond.methodLink "ClockTeethLaw" (147 : Nat) ({ cls := "ClockTeeth", name := "forget", desc := "(I)I" } : Jvm.MethodName)) ∈ TB := tbm4 (i := 61) rfl rfl
theorem w782 : (Jvm.Cond.instanceMethod ({ cls := "ClockTeeth", name := "forget", desc := "(I)I" } : Jvm.MethodName)) ∈ TB := tbm4 (i := 62) rfl rfl
theorem w783 : (Jvm.Cond.selects "ClockTeeth" ({ cls := "ClockTeeth", name := "forget", desc := "(I)I" } : Jvm.MethodName) ({ cls := "ClockTeeth", name := "forget", desc := "(I)I" } : Jvm.MethodName)) ∈ TB := tbm4 (i := 63) rfl rfl
theorem w1299 : (Jvm.Cond.code ({ cls := "ClockTeethModel", name := "forget", desc := "(I)I" } : Jvm.MethodName) prog_11_method_82_code (3 : Nat) (Option.some Jvm.ClassFile.FieldType.int)) ∈ TB := tbm6 (i := 99) rfl rfl
theorem w1296 : (Jvm.Cond.methodLink "ClockTeethLaw" (150 : Nat) ({ cls := "ClockTeethModel", name := "forget", desc := "(I)I" } : Jvm.MethodName)) ∈ TB := tbm6 (i := 96) rfl rfl
theorem w1297 : (Jvm.Cond.instanceMethod ({ cls := "ClockTeethModel", name := "forget", desc := "(I)I" } : Jvm.MethodName)) ∈ TB := tbm6 (i := 97) rfl rfl
theorem w1298 : (Jvm.Cond.selects "ClockTeethModel" ({ cls := "ClockTeethModel", name := "forget", desc := "(I)I" } : Jvm.MethodName) ({ cls := "ClockTeethModel", name := "forget", desc := "(I)I" } : Jvm.MethodName)) ∈ TB := tbm6 (i := 98) rfl rfl
theorem w788 : (Jvm.Cond.code ({ cls := "ClockTeeth", name := "error", desc := "(I)I" } : Jvm.MethodName) prog_1_method_32_code (5 : Nat) (Option.some Jvm.ClassFile.FieldType.int)) ∈ TB := tbm4 (i := 68) rfl rfl
theorem w785 : (Jvm.Cond.methodLink "ClockTeethLaw" (151 : Nat) ({ cls := "ClockTeeth", name := "error", desc := "(I)I" } : Jvm.MethodName)) ∈ TB := tbm4 (i := 65) rfl rfl
theorem w786 : (Jvm.Cond.instanceMethod ({ cls := "ClockTeeth", name := "error", desc := "(I)I" } : Jvm.MethodName)) ∈ TB := tbm4 (i := 66) rfl rfl
theorem w787 : (Jvm.Cond.selects "ClockTeeth" ({ cls := "ClockTeeth", name := "error", desc := "(I)I" } : Jvm.MethodName) ({ cls := "ClockTeeth", name := "error", desc := "(I)I" } : Jvm.MethodName)) ∈ TB := tbm4 (i := 67) rfl rfl
theorem w1303 : (Jvm.Cond.code ({ cls := "ClockTeethModel", name := "error", desc := "(I)I" } : Jvm.MethodName) prog_11_method_84_code (5 : Nat) (Option.some Jvm.ClassFile.FieldType.int)) ∈ TB := tbm6 (i := 103) rfl rfl
theorem w1300 : (Jvm.Cond.methodLink "ClockTeethLaw" (154 : Nat) ({ cls := "ClockTeethModel", name := "error", desc := "(I)I" } : Jvm.MethodName)) ∈ TB := tbm6 (i := 100) rfl rfl
theorem w1301 : (Jvm.Cond.instanceMethod ({ cls := "ClockTeethModel", name := "error", desc := "(I)I" } : Jvm.MethodName)) ∈ TB := tbm6 (i := 101) rfl rfl
theorem w1302 : (Jvm.Cond.selects "ClockTeethModel" ({ cls := "ClockTeethModel", name := "error", desc := "(I)I" } : Jvm.MethodName) ({ cls := "ClockTeethModel", name := "error", desc := "(I)I" } : Jvm.MethodName)) ∈ TB := tbm6 (i := 102) rfl rfl
theorem w796 : (Jvm.Cond.code ({ cls := "ClockTeeth", name := "wheels", desc := "(II)I" } : Jvm.MethodName) prog_1_method_33_code (7 : Nat) (Option.some Jvm.ClassFile.FieldType.int)) ∈ TB := tbm4 (i := 76) rfl rfl
theorem w793 : (Jvm.Cond.methodLink "ClockTeethLaw" (155 : Nat) ({ cls := "ClockTeeth", name := "wheels", desc := "(II)I" } : Jvm.MethodName)) ∈ TB := tbm4 (i := 73) rfl rfl
theorem w794 : (Jvm.Cond.instanceMethod ({ cls := "ClockTeeth", name := "wheels", desc := "(II)I" } : Jvm.MethodName)) ∈ TB := tbm4 (i := 74) rfl rfl
theorem w795 : (Jvm.Cond.selects "ClockTeeth" ({ cls := "ClockTeeth", name := "wheels", desc := "(II)I" } : Jvm.MethodName) ({ cls := "ClockTeeth", name := "wheels", desc := "(II)I" } : Jvm.MethodName)) ∈ TB := tbm4 (i := 75) rfl rfl
theorem w1311 : (Jvm.Cond.code ({ cls := "ClockTeethModel", name := "wheels", desc := "(II)I" } : Jvm.MethodName) prog_11_method_86_code (8 : Nat) (Option.some Jvm.ClassFile.FieldType.int)) ∈ TB := tbm6 (i := 111) rfl rfl
theorem w1308 : (Jvm.Cond.methodLink "ClockTeethLaw" (158 : Nat) ({ cls := "ClockTeethModel", name := "wheels", desc := "(II)I" } : Jvm.MethodName)) ∈ TB := tbm6 (i := 108) rfl rfl
theorem w1309 : (Jvm.Cond.instanceMethod ({ cls := "ClockTeethModel", name := "wheels", desc := "(II)I" } : Jvm.MethodName)) ∈ TB := tbm6 (i := 109) rfl rfl
theorem w1310 : (Jvm.Cond.selects "ClockTeethModel" ({ cls := "ClockTeethModel", name := "wheels", desc := "(II)I" } : Jvm.MethodName) ({ cls := "ClockTeethModel", name := "wheels", desc := "(II)I" } : Jvm.MethodName)) ∈ TB := tbm6 (i := 110) rfl rfl
theorem w811 : (Jvm.Cond.code ({ cls := "ClockTeeth", name := "worn", desc := "(I)I" } : Jvm.MethodName) prog_1_method_34_code (4 : Nat) (Option.some Jvm.ClassFile.FieldType.int)) ∈ TB := tbm4 (i := 91) rfl rfl
theorem w808 : (Jvm.Cond.methodLink "ClockTeethLaw" (159 : Nat) ({ cls := "ClockTeeth", name := "worn", desc := "(I)I" } : Jvm.MethodName)) ∈ TB := tbm4 (i := 88) rfl rfl
theorem w809 : (Jvm.Cond.instanceMethod ({ cls := "ClockTeeth", name := "worn", desc := "(I)I" } : Jvm.MethodName)) ∈ TB := tbm4 (i := 89) rfl rfl
theorem w810 : (Jvm.Cond.selects "ClockTeeth" ({ cls := "ClockTeeth", name := "worn", desc := "(I)I" } : Jvm.MethodName) ({ cls := "ClockTeeth", name := "worn", desc := "(I)I" } : Jvm.MethodName)) ∈ TB := tbm4 (i := 90) rfl rfl
theorem w1319 : (Jvm.Cond.code ({ cls := "ClockTeethModel", name := "worn", desc := "(I)I" } : Jvm.MethodName) prog_11_method_87_code (6 : Nat) (Option.some Jvm.ClassFile.FieldType.int)) ∈ TB := tbm6 (i := 119) rfl rfl
theorem w1316 : (Jvm.Cond.methodLink "ClockTeethLaw" (162 : Nat) ({ cls := "ClockTeethModel", name := "worn", desc := "(I)I" } : Jvm.MethodName)) ∈ TB := tbm6 (i := 116) rfl rfl
theorem w1317 : (Jvm.Cond.instanceMethod ({ cls := "ClockTeethModel", name := "worn", desc := "(I)I" } : Jvm.MethodName)) ∈ TB := tbm6 (i := 117) rfl rfl
theorem w1318 : (Jvm.Cond.selects "ClockTeethModel" ({ cls := "ClockTeethModel", name := "worn", desc := "(I)I" } : Jvm.MethodName) ({ cls := "ClockTeethModel", name := "worn", desc := "(I)I" } : Jvm.MethodName)) ∈ TB := tbm6 (i := 118) rfl rfl
theorem w815 : (Jvm.Cond.code ({ cls := "ClockTeeth", name := "fright", desc := "(IJI)I" } : Jvm.MethodName) prog_1_method_35_code (5 : Nat) (Option.some Jvm.ClassFile.FieldType.int)) ∈ TB := tbm4 (i := 95) rfl rfl
theorem w812 : (Jvm.Cond.methodLink "ClockTeethLaw" (163 : Nat) ({ cls := "ClockTeeth", name := "fright", desc := "(IJI)I" } : Jvm.MethodName)) ∈ TB := tbm4 (i := 92) rfl rfl
theorem w813 : (Jvm.Cond.instanceMethod ({ cls := "ClockTeeth", name := "fright", desc := "(IJI)I" } : Jvm.MethodName)) ∈ TB := tbm4 (i := 93) rfl rfl
theorem w814 : (Jvm.Cond.selects "ClockTeeth" ({ cls := "ClockTeeth", name := "fright", desc := "(IJI)I" } : Jvm.MethodName) ({ cls := "ClockTeeth", name := "fright", desc := "(IJI)I" } : Jvm.MethodName)) ∈ TB := tbm4 (i := 94) rfl rfl
theorem w1323 : (Jvm.Cond.code ({ cls := "ClockTeethModel", name := "fright", desc := "(IJI)I" } : Jvm.MethodName) prog_11_method_90_code (5 : Nat) (Option.some Jvm.ClassFile.FieldType.int)) ∈ TB := tbm6 (i := 123) rfl rfl
theorem w1320 : (Jvm.Cond.methodLink "ClockTeethLaw" (167 : Nat) ({ cls := "ClockTeethModel", name := "fright", desc := "(IJI)I" } : Jvm.MethodName)) ∈ TB := tbm6 (i := 120) rfl rfl
theorem w1321 : (Jvm.Cond.instanceMethod ({ cls := "ClockTeethModel", name := "fright", desc := "(IJI)I" } : Jvm.MethodName)) ∈ TB := tbm6 (i := 121) rfl rfl
theorem w1322 : (Jvm.Cond.selects "ClockTeethModel" ({ cls := "ClockTeethModel", name := "fright", desc := "(IJI)I" } : Jvm.MethodName) ({ cls := "ClockTeethModel", name := "fright", desc := "(IJI)I" } : Jvm.MethodName)) ∈ TB := tbm6 (i := 122) rfl rfl
theorem w830 : (Jvm.Cond.code ({ cls := "ClockTeeth", name := "stand", desc := "(JI)I" } : Jvm.MethodName) prog_1_method_36_code (6 : Nat) (Option.some Jvm.ClassFile.FieldType.int)) ∈ TB := tbm4 (i := 110) rfl rfl
theorem w827 : (Jvm.Cond.methodLink "ClockTeethLaw" (168 : Nat) ({ cls := "ClockTeeth", name := "stand", desc := "(JI)I" } : Jvm.MethodName)) ∈ TB := tbm4 (i := 107) rfl rfl
theorem w828 : (Jvm.Cond.instanceMethod ({ cls := "ClockTeeth", name := "stand", desc := "(JI)I" } : Jvm.MethodName)) ∈ TB := tbm4 (i := 108) rfl rfl
theorem w829 : (Jvm.Cond.selects "ClockTeeth" ({ cls := "ClockTeeth", name := "stand", desc := "(JI)I" } : Jvm.MethodName) ({ cls := "ClockTeeth", name := "stand", desc := "(JI)I" } : Jvm.MethodName)) ∈ TB := tbm4 (i := 109) rfl rfl
theorem w1335 : (Jvm.Cond.code ({ cls := "ClockTeethModel", name := "stand", desc := "(JI)I" } : Jvm.MethodName) prog_11_method_91_code (9 : Nat) (Option.some Jvm.ClassFile.FieldType.int)) ∈ TB := tbm6 (i := 135) rfl rfl
theorem w1332 : (Jvm.Cond.methodLink "ClockTeethLaw" (171 : Nat) ({ cls := "ClockTeethModel", name := "stand", desc := "(JI)I" } : Jvm.MethodName)) ∈ TB := tbm6 (i := 132) rfl rfl
theorem w1333 : (Jvm.Cond.instanceMethod ({ cls := "ClockTeethModel", name := "stand", desc := "(JI)I" } : Jvm.MethodName)) ∈ TB := tbm6 (i := 133) rfl rfl
theorem w1334 : (Jvm.Cond.selects "ClockTeethModel" ({ cls := "ClockTeethModel", name := "stand", desc := "(JI)I" } : Jvm.MethodName) ({ cls := "ClockTeethModel", name := "stand", desc := "(JI)I" } : Jvm.MethodName)) ∈ TB := tbm6 (i := 134) rfl rfl
theorem w834 : (Jvm.Cond.code ({ cls := "ClockTeeth", name := "keep", desc := "(I)I" } : Jvm.MethodName) prog_1_method_37_code (3 : Nat) (Option.some Jvm.ClassFile.FieldType.int)) ∈ TB := tbm4 (i := 114) rfl rfl
theorem w831 : (Jvm.Cond.methodLink "ClockTeethLaw" (172 : Nat) ({ cls := "ClockTeeth", name := "keep", desc := "(I)I" } : Jvm.MethodName)) ∈ TB := tbm4 (i := 111) rfl rfl
theorem w832 : (Jvm.Cond.instanceMethod ({ cls := "ClockTeeth", name := "keep", desc := "(I)I" } : Jvm.MethodName)) ∈ TB := tbm4 (i := 112) rfl rfl
theorem w833 : (Jvm.Cond.selects "ClockTeeth" ({ cls := "ClockTeeth", name := "keep", desc := "(I)I" } : Jvm.MethodName) ({ cls := "ClockTeeth", name := "keep", desc := "(I)I" } : Jvm.MethodName)) ∈ TB := tbm4 (i := 113) rfl rfl
theorem w1339 : (Jvm.Cond.code ({ cls := "ClockTeethModel", name := "keep", desc := "(I)I" } : Jvm.MethodName) prog_11_method_93_code (3 : Nat) (Option.some Jvm.ClassFile.FieldType.int)) ∈ TB := tbm6 (i := 139) rfl rfl
theorem w1336 : (Jvm.Cond.methodLink "ClockTeethLaw" (175 : Nat) ({ cls := "ClockTeethModel", name := "keep", desc := "(I)I" } : Jvm.MethodName)) ∈ TB := tbm6 (i := 136) rfl rfl
theorem w1337 : (Jvm.Cond.instanceMethod ({ cls := "ClockTeethModel", name := "keep", desc := "(I)I" } : Jvm.MethodName)) ∈ TB := tbm6 (i := 137) rfl rfl
theorem w1338 : (Jvm.Cond.selects "ClockTeethModel" ({ cls := "ClockTeethModel", name := "keep", desc := "(I)I" } : Jvm.MethodName) ({ cls := "ClockTeethModel", name := "keep", desc := "(I)I" } : Jvm.MethodName)) ∈ TB := tbm6 (i := 138) rfl rfl
theorem w841 : (Jvm.Cond.code ({ cls := "ClockTeeth", name := "back", desc := "(I)I" } : Jvm.MethodName) prog_1_method_38_code (2 : Nat) (Option.some Jvm.ClassFile.FieldType.int)) ∈ TB := tbm4 (i := 121) rfl rfl
theorem w838 : (Jvm.Cond.methodLink "ClockTeethLaw" (176 : Nat) ({ cls := "ClockTeeth", name := "back", desc := "(I)I" } : Jvm.MethodName)) ∈ TB := tbm4 (i := 118) rfl rfl
theorem w839 : (Jvm.Cond.instanceMethod ({ cls := "ClockTeeth", name := "back", desc := "(I)I" } : Jvm.MethodName)) ∈ TB := tbm4 (i := 119) rfl rfl
theorem w840 : (Jvm.Cond.selects "ClockTeeth" ({ cls := "ClockTeeth", name := "back", desc := "(I)I" } : Jvm.MethodName) ({ cls := "ClockTeeth", name := "back", desc := "(I)I" } : Jvm.MethodName)) ∈ TB := tbm4 (i := 120) rfl rfl
theorem w1347 : (Jvm.Cond.code ({ cls := "ClockTeethModel", name := "back", desc := "(I)I" } : Jvm.MethodName) prog_11_method_94_code (2 : Nat) (Option.some Jvm.ClassFile.FieldType.int)) ∈ TB := tbm6 (i := 147) rfl rfl
theorem w1344 : (Jvm.Cond.methodLink "ClockTeethLaw" (179 : Nat) ({ cls := "ClockTeethModel", name := "back", desc := "(I)I" } : Jvm.MethodName)) ∈ TB := tbm6 (i := 144) rfl rfl
theorem w1345 : (Jvm.Cond.instanceMethod ({ cls := "ClockTeethModel", name := "back", desc := "(I)I" } : Jvm.MethodName)) ∈ TB := tbm6 (i := 145) rfl rfl
theorem w1346 : (Jvm.Cond.selects "ClockTeethModel" ({ cls := "ClockTeethModel", name := "back", desc := "(I)I" } : Jvm.MethodName) ({ cls := "ClockTeethModel", name := "back", desc := "(I)I" } : Jvm.MethodName)) ∈ TB := tbm6 (i := 146) rfl rfl
theorem w845 : (Jvm.Cond.code ({ cls := "ClockTeeth", name := "sheet", desc := "(III)I" } : Jvm.MethodName) prog_1_method_39_code (4 : Nat) (Option.some Jvm.ClassFile.FieldType.int)) ∈ TB := tbm4 (i := 125) rfl rfl
theorem w842 : (Jvm.Cond.methodLink "ClockTeethLaw" (180 : Nat) ({ cls := "ClockTeeth", name := "sheet", desc := "(III)I" } : Jvm.MethodName)) ∈ TB := tbm4 (i := 122) rfl rfl
theorem w843 : (Jvm.Cond.instanceMethod ({ cls := "ClockTeeth", name := "sheet", desc := "(III)I" } : Jvm.MethodName)) ∈ TB := tbm4 (i := 123) rfl rfl
theorem w844 : (Jvm.Cond.selects "ClockTeeth" ({ cls := "ClockTeeth", name := "sheet", desc := "(III)I" } : Jvm.MethodName) ({ cls := "ClockTeeth", name := "sheet", desc := "(III)I" } : Jvm.MethodName)) ∈ TB := tbm4 (i := 124) rfl rfl
theorem w1351 : (Jvm.Cond.code ({ cls := "ClockTeethModel", name := "sheet", desc := "(III)I" } : Jvm.MethodName) prog_11_method_96_code (5 : Nat) (Option.some Jvm.ClassFile.FieldType.int)) ∈ TB := tbm6 (i := 151) rfl rfl
theorem w1348 : (Jvm.Cond.methodLink "ClockTeethLaw" (183 : Nat) ({ cls := "ClockTeethModel", name := "sheet", desc := "(III)I" } : Jvm.MethodName)) ∈ TB := tbm6 (i := 148) rfl rfl
theorem w1349 : (Jvm.Cond.instanceMethod ({ cls := "ClockTeethModel", name := "sheet", desc := "(III)I" } : Jvm.MethodName)) ∈ TB := tbm6 (i := 149) rfl rfl
theorem w1350 : (Jvm.Cond.selects "ClockTeethModel" ({ cls := "ClockTeethModel", name := "sheet", desc := "(III)I" } : Jvm.MethodName) ({ cls := "ClockTeethModel", name := "sheet", desc := "(III)I" } : Jvm.MethodName)) ∈ TB := tbm6 (i := 150) rfl rfl
theorem w859 : (Jvm.Cond.code ({ cls := "ClockTeeth", name := "lay", desc := "(III)I" } : Jvm.MethodName) prog_1_method_40_code (6 : Nat) (Option.some Jvm.ClassFile.FieldType.int)) ∈ TB := tbm4 (i := 139) rfl rfl
theorem w856 : (Jvm.Cond.methodLink "ClockTeethLaw" (184 : Nat) ({ cls := "ClockTeeth", name := "lay", desc := "(III)I" } : Jvm.MethodName)) ∈ TB := tbm4 (i := 136) rfl rfl
theorem w857 : (Jvm.Cond.instanceMethod ({ cls := "ClockTeeth", name := "lay", desc := "(III)I" } : Jvm.MethodName)) ∈ TB := tbm4 (i := 137) rfl rfl
theorem w858 : (Jvm.Cond.selects "ClockTeeth" ({ cls := "ClockTeeth", name := "lay", desc := "(III)I" } : Jvm.MethodName) ({ cls := "ClockTeeth", name := "lay", desc := "(III)I" } : Jvm.MethodName)) ∈ TB := tbm4 (i := 138) rfl rfl
theorem w1359 : (Jvm.Cond.code ({ cls := "ClockTeethModel", name := "lay", desc := "(III)I" } : Jvm.MethodName) prog_11_method_97_code (4 : Nat) (Option.some Jvm.ClassFile.FieldType.int)) ∈ TB := tbm6 (i := 159) rfl rfl
theorem w1356 : (Jvm.Cond.methodLink "ClockTeethLaw" (187 : Nat) ({ cls := "ClockTeethModel", name := "lay", desc := "(III)I" } : Jvm.MethodName)) ∈ TB := tbm6 (i := 156) rfl rfl
theorem w1357 : (Jvm.Cond.instanceMethod ({ cls := "ClockTeethModel", name := "lay", desc := "(III)I" } : Jvm.MethodName)) ∈ TB := tbm6 (i := 157) rfl rfl
theorem w1358 : (Jvm.Cond.selects "ClockTeethModel" ({ cls := "ClockTeethModel", name := "lay", desc := "(III)I" } : Jvm.MethodName) ({ cls := "ClockTeethModel", name := "lay", desc := "(III)I" } : Jvm.MethodName)) ∈ TB := tbm6 (i := 158) rfl rfl
theorem w871 : (Jvm.Cond.code ({ cls := "ClockTeeth", name := "read", desc := "(IIII)I" } : Jvm.MethodName) prog_1_method_41_code (11 : Nat) (Option.some Jvm.ClassFile.FieldType.int)) ∈ TB := tbm4 (i := 151) rfl rfl
theorem w868 : (Jvm.Cond.methodLink "ClockTeethLaw" (188 : Nat) ({ cls := "ClockTeeth", name := "read", desc := "(IIII)I" } : Jvm.MethodName)) ∈ TB := tbm4 (i := 148) rfl rfl
theorem w869 : (Jvm.Cond.instanceMethod ({ cls := "ClockTeeth", name := "read", desc := "(IIII)I" } : Jvm.MethodName)) ∈ TB := tbm4 (i := 149) rfl rfl
theorem w870 : (Jvm.Cond.selects "ClockTeeth" ({ cls := "ClockTeeth", name := "read", desc := "(IIII)I" } : Jvm.MethodName) ({ cls := "ClockTeeth", name := "read", desc := "(IIII)I" } : Jvm.MethodName)) ∈ TB := tbm4 (i := 150) rfl rfl
theorem w1363 : (Jvm.Cond.code ({ cls := "ClockTeethModel", name := "read", desc := "(IIII)I" } : Jvm.MethodName) prog_11_method_98_code (12 : Nat) (Option.some Jvm.ClassFile.FieldType.int)) ∈ TB := tbm6 (i := 163) rfl rfl
theorem w1360 : (Jvm.Cond.methodLink "ClockTeethLaw" (192 : Nat) ({ cls := "ClockTeethModel", name := "read", desc := "(IIII)I" } : Jvm.MethodName)) ∈ TB := tbm6 (i := 160) rfl rfl
theorem w1361 : (Jvm.Cond.instanceMethod ({ cls := "ClockTeethModel", name := "read", desc := "(IIII)I" } : Jvm.MethodName)) ∈ TB := tbm6 (i := 161) rfl rfl
theorem w1362 : (Jvm.Cond.selects "ClockTeethModel" ({ cls := "ClockTeethModel", name := "read", desc := "(IIII)I" } : Jvm.MethodName) ({ cls := "ClockTeethModel", name := "read", desc := "(IIII)I" } : Jvm.MethodName)) ∈ TB := tbm6 (i := 162) rfl rfl
theorem w880 : (Jvm.Cond.code ({ cls := "ClockTeeth", name := "torn", desc := "()I" } : Jvm.MethodName) prog_1_method_42_code (1 : Nat) (Option.some Jvm.ClassFile.FieldType.int)) ∈ TB := tbm4 (i := 160) rfl rfl
theorem w877 : (Jvm.Cond.methodLink "ClockTeethLaw" (193 : Nat) ({ cls := "ClockTeeth", name := "torn", desc := "()I" } : Jvm.MethodName)) ∈ TB := tbm4 (i := 157) rfl rfl
theorem w878 : (Jvm.Cond.instanceMethod ({ cls := "ClockTeeth", name := "torn", desc := "()I" } : Jvm.MethodName)) ∈ TB := tbm4 (i := 158) rfl rfl
theorem w879 : (Jvm.Cond.selects "ClockTeeth" ({ cls := "ClockTeeth", name := "torn", desc := "()I" } : Jvm.MethodName) ({ cls := "ClockTeeth", name := "torn", desc := "()I" } : Jvm.MethodName)) ∈ TB := tbm4 (i := 159) rfl rfl
theorem w1369 : (Jvm.Cond.code ({ cls := "ClockTeethModel", name := "torn", desc := "()I" } : Jvm.MethodName) prog_11_method_99_code (1 : Nat) (Option.some Jvm.ClassFile.FieldType.int)) ∈ TB := tbm6 (i := 169) rfl rfl
theorem w1366 : (Jvm.Cond.methodLink "ClockTeethLaw" (196 : Nat) ({ cls := "ClockTeethModel", name := "torn", desc := "()I" } : Jvm.MethodName)) ∈ TB := tbm6 (i := 166) rfl rfl
theorem w1367 : (Jvm.Cond.instanceMethod ({ cls := "ClockTeethModel", name := "torn", desc := "()I" } : Jvm.MethodName)) ∈ TB := tbm6 (i := 167) rfl rfl
theorem w1368 : (Jvm.Cond.selects "ClockTeethModel" ({ cls := "ClockTeethModel", name := "torn", desc := "()I" } : Jvm.MethodName) ({ cls := "ClockTeethModel", name := "torn", desc := "()I" } : Jvm.MethodName)) ∈ TB := tbm6 (i := 168) rfl rfl
theorem w884 : (Jvm.Cond.code ({ cls := "ClockTeeth", name := "count", desc := "(I)I" } : Jvm.MethodName) prog_1_method_43_code (2 : Nat) (Option.some Jvm.ClassFile.FieldType.int)) ∈ TB := tbm4 (i := 164) rfl rfl
theorem w881 : (Jvm.Cond.methodLink "ClockTeethLaw" (197 : Nat) ({ cls := "ClockTeeth", name := "count", desc := "(I)I" } : Jvm.MethodName)) ∈ TB := tbm4 (i := 161) rfl rfl
theorem w882 : (Jvm.Cond.instanceMethod ({ cls := "ClockTeeth", name := "count", desc := "(I)I" } : Jvm.MethodName)) ∈ TB := tbm4 (i := 162) rfl rfl
theorem w883 : (Jvm.Cond.selects "ClockTeeth" ({ cls := "ClockTeeth", name := "count", desc := "(I)I" } : Jvm.MethodName) ({ cls := "ClockTeeth", name := "count", desc := "(I)I" } : Jvm.MethodName)) ∈ TB := tbm4 (i := 163) rfl rfl
theorem w1373 : (Jvm.Cond.code ({ cls := "ClockTeethModel", name := "count", desc := "(I)I" } : Jvm.MethodName) prog_11_method_100_code (2 : Nat) (Option.some Jvm.ClassFile.FieldType.int)) ∈ TB := tbm6 (i := 173) rfl rfl
theorem w1370 : (Jvm.Cond.methodLink "ClockTeethLaw" (200 : Nat) ({ cls := "ClockTeethModel", name := "count", desc := "(I)I" } : Jvm.MethodName)) ∈ TB := tbm6 (i := 170) rfl rfl
theorem w1371 : (Jvm.Cond.instanceMethod ({ cls := "ClockTeethModel", name := "count", desc := "(I)I" } : Jvm.MethodName)) ∈ TB := tbm6 (i := 171) rfl rfl
theorem w1372 : (Jvm.Cond.selects "ClockTeethModel" ({ cls := "ClockTeethModel", name := "count", desc := "(I)I" } : Jvm.MethodName) ({ cls := "ClockTeethModel", name := "count", desc := "(I)I" } : Jvm.MethodName)) ∈ TB := tbm6 (i := 172) rfl rfl
theorem w895 : (Jvm.Cond.code ({ cls := "ClockTeethModel", name := "firstDraft", desc := "()V" } : Jvm.MethodName) prog_11_method_5_code (2 : Nat) (Option.none : Option Jvm.ClassFile.FieldType)) ∈ TB := tbm4 (i := 175) rfl rfl
theorem w892 : (Jvm.Cond.methodLink "ClockTeethModel" (43 : Nat) ({ cls := "ClockTeethModel", name := "firstDraft", desc := "()V" } : Jvm.MethodName)) ∈ TB := tbm4 (i := 172) rfl rfl
theorem w894 : (Jvm.Cond.instanceMethod ({ cls := "ClockTeethModel", name := "firstDraft", desc := "()V" } : Jvm.MethodName)) ∈ TB := tbm4 (i := 174) rfl rfl
theorem w899 : (Jvm.Cond.code ({ cls := "ClockTeethModel", name := "keepDraft", desc := "()V" } : Jvm.MethodName) prog_11_method_6_code (2 : Nat) (Option.none : Option Jvm.ClassFile.FieldType)) ∈ TB := tbm4 (i := 179) rfl rfl
theorem w896 : (Jvm.Cond.methodLink "ClockTeethModel" (46 : Nat) ({ cls := "ClockTeethModel", name := "keepDraft", desc := "()V" } : Jvm.MethodName)) ∈ TB := tbm4 (i := 176) rfl rfl
theorem w898 : (Jvm.Cond.instanceMethod ({ cls := "ClockTeethModel", name := "keepDraft", desc := "()V" } : Jvm.MethodName)) ∈ TB := tbm4 (i := 178) rfl rfl
theorem w1005 : (Jvm.Cond.code ({ cls := "ClockTeethModel", name := "look", desc := "(I)I" } : Jvm.MethodName) prog_11_method_10_code (2 : Nat) (Option.some Jvm.ClassFile.FieldType.int)) ∈ TB := tbm5 (i := 45) rfl rfl
theorem w1002 : (Jvm.Cond.methodLink "ClockTeethModel" (87 : Nat) ({ cls := "ClockTeethModel", name := "look", desc := "(I)I" } : Jvm.MethodName)) ∈ TB := tbm5 (i := 42) rfl rfl
theorem w1004 : (Jvm.Cond.instanceMethod ({ cls := "ClockTeethModel", name := "look", desc := "(I)I" } : Jvm.MethodName)) ∈ TB := tbm5 (i := 44) rfl rfl
theorem w1025 : (Jvm.Cond.code ({ cls := "ClockTeethModel", name := "is", desc := "(IIIII)Z" } : Jvm.MethodName) prog_11_method_11_code (6 : Nat) (Option.some Jvm.ClassFile.FieldType.boolean)) ∈ TB := tbm5 (i := 65) rfl rfl
theorem w1022 : (Jvm.Cond.methodLink "ClockTeethModel" (91 : Nat) ({ cls := "ClockTeethModel", name := "is", desc := "(IIIII)Z" } : Jvm.MethodName)) ∈ TB := tbm5 (i := 62) rfl rfl
theorem w1024 : (Jvm.Cond.instanceMethod ({ cls := "ClockTeethModel", name := "is", desc := "(IIIII)Z" } : Jvm.MethodName)) ∈ TB := tbm5 (i := 64) rfl rfl
theorem w1029 : (Jvm.Cond.code ({ cls := "ClockTeethModel", name := "ends", desc := "(III)Z" } : Jvm.MethodName) prog_11_method_12_code (4 : Nat) (Option.some Jvm.ClassFile.FieldType.boolean)) ∈ TB := tbm5 (i := 69) rfl rfl
theorem w1026 : (Jvm.Cond.methodLink "ClockTeethModel" (95 : Nat) ({ cls := "ClockTeethModel", name := "ends", desc := "(III)Z" } : Jvm.MethodName)) ∈ TB := tbm5 (i := 66) rfl rfl
theorem w1028 : (Jvm.Cond.instanceMethod ({ cls := "ClockTeethModel", name := "ends", desc := "(III)Z" } : Jvm.MethodName)) ∈ TB := tbm5 (i := 68) rfl rfl
theorem w1013 : (Jvm.Cond.code ({ cls := "ClockTeethModel", name := "needs", desc := "(ZI)V" } : Jvm.MethodName) prog_11_method_9_code (3 : Nat) (Option.none : Option Jvm.ClassFile.FieldType)) ∈ TB := tbm5 (i := 53) rfl rfl
theorem w1010 : (Jvm.Cond.methodLink "ClockTeethModel" (113 : Nat) ({ cls := "ClockTeethModel", name := "needs", desc := "(ZI)V" } : Jvm.MethodName)) ∈ TB := tbm5 (i := 50) rfl rfl
theorem w1012 : (Jvm.Cond.instanceMethod ({ cls := "ClockTeethModel", name := "needs", desc := "(ZI)V" } : Jvm.MethodName)) ∈ TB := tbm5 (i := 52) rfl rfl
theorem w1045 : (Jvm.Cond.code ({ cls := "ClockTeethModel", name := "looked", desc := "(II)I" } : Jvm.MethodName) prog_11_method_16_code (3 : Nat) (Option.some Jvm.ClassFile.FieldType.int)) ∈ TB := tbm5 (i := 85) rfl rfl
theorem w1042 : (Jvm.Cond.methodLink "ClockTeethModel" (117 : Nat) ({ cls := "ClockTeethModel", name := "looked", desc := "(II)I" } : Jvm.MethodName)) ∈ TB := tbm5 (i := 82) rfl rfl
theorem w1044 : (Jvm.Cond.instanceMethod ({ cls := "ClockTeethModel", name := "looked", desc := "(II)I" } : Jvm.MethodName)) ∈ TB := tbm5 (i := 84) rfl rfl
theorem w1001 : (Jvm.Cond.code ({ cls := "ClockTeethModel", name := "next1", desc := "()V" } : Jvm.MethodName) prog_11_method_15_code (2 : Nat) (Option.none : Option Jvm.ClassFile.FieldType)) ∈ TB := tbm5 (i := 41) rfl rfl
theorem w998 : (Jvm.Cond.methodLink "ClockTeethModel" (121 : Nat) ({ cls := "ClockTeethModel", name := "next1", desc := "()V" } : Jvm.MethodName)) ∈ TB := tbm5 (i := 38) rfl rfl
theorem w1000 : (Jvm.Cond.instanceMethod ({ cls := "ClockTeethModel", name := "next1", desc := "()V" } : Jvm.MethodName)) ∈ TB := tbm5 (i := 40) rfl rfl
theorem w1037 : (Jvm.Cond.code ({ cls := "ClockTeethModel", name := "kindNow", desc := "()I" } : Jvm.MethodName) prog_11_method_14_code (1 : Nat) (Option.some Jvm.ClassFile.FieldType.int)) ∈ TB := tbm5 (i := 77) rfl rfl
theorem w1034 : (Jvm.Cond.methodLink "ClockTeethModel" (124 : Nat) ({ cls := "ClockTeethModel", name := "kindNow", desc := "()I" } : Jvm.MethodName)) ∈ TB := tbm5 (i := 74) rfl rfl
theorem w1036 : (Jvm.Cond.instanceMethod ({ cls := "ClockTeethModel", name := "kindNow", desc := "()I" } : Jvm.MethodName)) ∈ TB := tbm5 (i := 76) rfl rfl
theorem w1041 : (Jvm.Cond.code ({ cls := "ClockTeethModel", name := "readNumber", desc := "(II)I" } : Jvm.MethodName) prog_11_method_17_code (4 : Nat) (Option.some Jvm.ClassFile.FieldType.int)) ∈ TB := tbm5 (i := 81) rfl rfl
theorem w1038 : (Jvm.Cond.methodLink "ClockTeethModel" (128 : Nat) ({ cls := "ClockTeethModel", name := "readNumber", desc := "(II)I" } : Jvm.MethodName)) ∈ TB := tbm5 (i := 78) rfl rfl
theorem w1040 : (Jvm.Cond.instanceMethod ({ cls := "ClockTeethModel", name := "readNumber", desc := "(II)I" } : Jvm.MethodName)) ∈ TB := tbm5 (i := 80) rfl rfl
theorem w1021 : (Jvm.Cond.code ({ cls := "ClockTeethModel", name := "lineNow", desc := "()I" } : Jvm.MethodName) prog_11_method_13_code (1 : Nat) (Option.some Jvm.ClassFile.FieldType.int)) ∈ TB := tbm5 (i := 61) rfl rfl
theorem w1018 : (Jvm.Cond.methodLink "ClockTeethModel" (131 : Nat) ({ cls := "ClockTeethModel", name := "lineNow", desc := "()I" } : Jvm.MethodName)) ∈ TB := tbm5 (i := 58) rfl rfl
theorem w1020 : (Jvm.Cond.instanceMethod ({ cls := "ClockTeethModel", name := "lineNow", desc := "()I" } : Jvm.MethodName)) ∈ TB := tbm5 (i := 60) rfl rfl
theorem w1033 : (Jvm.Cond.code ({ cls := "ClockTeethModel", name := "readFigure", desc := "()V" } : Jvm.MethodName) prog_11_method_18_code (8 : Nat) (Option.none : Option Jvm.ClassFile.FieldType)) ∈ TB := tbm5 (i := 73) rfl rfl
theorem w1030 : (Jvm.Cond.methodLink "ClockTeethModel" (134 : Nat) ({ cls := "ClockTeethModel", name := "readFigure", desc := "()V" } : Jvm.MethodName)) ∈ TB := tbm5 (i := 70) rfl rfl
theorem w1032 : (Jvm.Cond.instanceMethod ({ cls := "ClockTeethModel", name := "readFigure", desc := "()V" } : Jvm.MethodName)) ∈ TB := tbm5 (i := 72) rfl rfl
theorem w1049 : (Jvm.Cond.code ({ cls := "ClockTeethModel", name := "readVote", desc := "()V" } : Jvm.MethodName) prog_11_method_19_code (3 : Nat) (Option.none : Option Jvm.ClassFile.FieldType)) ∈ TB := tbm5 (i := 89) rfl rfl
theorem w1046 : (Jvm.Cond.methodLink "ClockTeethModel" (137 : Nat) ({ cls := "ClockTeethModel", name := "readVote", desc := "()V" } : Jvm.MethodName)) ∈ TB := tbm5 (i := 86) rfl rfl
theorem w1048 : (Jvm.Cond.instanceMethod ({ cls := "ClockTeethModel", name := "readVote", desc := "()V" } : Jvm.MethodName)) ∈ TB := tbm5 (i := 88) rfl rfl
theorem w1017 : (Jvm.Cond.code ({ cls := "ClockTeethModel", name := "readLine", desc := "()V" } : Jvm.MethodName) prog_11_method_20_code (2 : Nat) (Option.none : Option Jvm.ClassFile.FieldType)) ∈ TB := tbm5 (i := 57) rfl rfl
theorem w1014 : (Jvm.Cond.methodLink "ClockTeethModel" (140 : Nat) ({ cls := "ClockTeethModel", name := "readLine", desc := "()V" } : Jvm.MethodName)) ∈ TB := tbm5 (i := 54) rfl rfl
theorem w1016 : (Jvm.Cond.instanceMethod ({ cls := "ClockTeethModel", name := "readLine", desc := "()V" } : Jvm.MethodName)) ∈ TB := tbm5 (i := 56) rfl rfl
theorem w1070 : (Jvm.Cond.code ({ cls := "ClockTeethModel", name := "of", desc := "(II)I" } : Jvm.MethodName) prog_11_method_25_code (3 : Nat) (Option.some Jvm.ClassFile.FieldType.int)) ∈ TB := tbm5 (i := 110) rfl rfl
theorem w1067 : (Jvm.Cond.methodLink "ClockTeethModel" (143 : Nat) ({ cls := "ClockTeethModel", name := "of", desc := "(II)I" } : Jvm.MethodName)) ∈ TB := tbm5 (i := 107) rfl rfl
theorem w1069 : (Jvm.Cond.instanceMethod ({ cls := "ClockTeethModel", name := "of", desc := "(II)I" } : Jvm.MethodName)) ∈ TB := tbm5 (i := 109) rfl rfl
theorem w1065 : (Jvm.Cond.code ({ cls := "ClockTeethModel", name := "isFigure", desc := "(I)Z" } : Jvm.MethodName) prog_11_method_24_code (2 : Nat) (Option.some Jvm.ClassFile.FieldType.boolean)) ∈ TB := tbm5 (i := 105) rfl rfl
theorem w1062 : (Jvm.Cond.methodLink "ClockTeethModel" (146 : Nat) ({ cls := "ClockTeethModel", name := "isFigure", desc := "(I)Z" } : Jvm.MethodName)) ∈ TB := tbm5 (i := 102) rfl rfl
theorem w1064 : (Jvm.Cond.instanceMethod ({ cls := "ClockTeethModel", name := "isFigure", desc := "(I)Z" } : Jvm.MethodName)) ∈ TB := tbm5 (i := 104) rfl rfl
theorem w1074 : (Jvm.Cond.code ({ cls := "ClockTeethModel", name := "roundOf", desc := "(I)I" } : Jvm.MethodName) prog_11_method_26_code (2 : Nat) (Option.some Jvm.ClassFile.FieldType.int)) ∈ TB := tbm5 (i := 114) rfl rfl
theorem w1071 : (Jvm.Cond.methodLink "ClockTeethModel" (152 : Nat) ({ cls := "ClockTeethModel", name := "roundOf", desc := "(I)I" } : Jvm.MethodName)) ∈ TB := tbm5 (i := 111) rfl rfl
theorem w1073 : (Jvm.Cond.instanceMethod ({ cls := "ClockTeethModel", name := "roundOf", desc := "(I)I" } : Jvm.MethodName)) ∈ TB := tbm5 (i := 113) rfl rfl
theorem w1095 : (Jvm.Cond.code ({ cls := "ClockTeethModel", name := "timesOf", desc := "(I)I" } : Jvm.MethodName) prog_11_method_29_code (2 : Nat) (Option.some Jvm.ClassFile.FieldType.int)) ∈ TB := tbm5 (i := 135) rfl rfl
theorem w1092 : (Jvm.Cond.methodLink "ClockTeethModel" (157 : Nat) ({ cls := "ClockTeethModel", name := "timesOf", desc := "(I)I" } : Jvm.MethodName)) ∈ TB := tbm5 (i := 132) rfl rfl
theorem w1094 : (Jvm.Cond.instanceMethod ({ cls := "ClockTeethModel", name := "timesOf", desc := "(I)I" } : Jvm.MethodName)) ∈ TB := tbm5 (i := 134) rfl rfl
theorem w1099 : (Jvm.Cond.code ({ cls := "ClockTeethModel", name := "restOf", desc := "(II)I" } : Jvm.MethodName) prog_11_method_30_code (5 : Nat) (Option.some Jvm.ClassFile.FieldType.int)) ∈ TB := tbm5 (i := 139) rfl rfl
theorem w1096 : (Jvm.Cond.methodLink "ClockTeethModel" (160 : Nat) ({ cls := "ClockTeethModel", name := "restOf", desc := "(II)I" } : Jvm.MethodName)) ∈ TB := tbm5 (i := 136) rfl rfl
theorem w1098 : (Jvm.Cond.instanceMethod ({ cls := "ClockTeethModel", name := "restOf", desc := "(II)I" } : Jvm.MethodName)) ∈ TB := tbm5 (i := 138) rfl rfl
theorem w1091 : (Jvm.Cond.code ({ cls := "ClockTeethModel", name := "isOut", desc := "(IJ)Z" } : Jvm.MethodName) prog_11_method_31_code (7 : Nat) (Option.some Jvm.ClassFile.FieldType.boolean)) ∈ TB := tbm5 (i := 131) rfl rfl
theorem w1088 : (Jvm.Cond.methodLink "ClockTeethModel" (169 : Nat) ({ cls := "ClockTeethModel", name := "isOut", desc := "(IJ)Z" } : Jvm.MethodName)) ∈ TB := tbm5 (i := 128) rfl rfl
theorem w1090 : (Jvm.Cond.instanceMethod ({ cls := "ClockTeethModel", name := "isOut", desc := "(IJ)Z" } : Jvm.MethodName)) ∈ TB := tbm5 (i := 130) rfl rfl
theorem w1110 : (Jvm.Cond.code ({ cls := "ClockTeethModel", name := "nextOf", desc := "(IJ)J" } : Jvm.MethodName) prog_11_method_35_code (9 : Nat) (Option.some Jvm.ClassFile.FieldType.long)) ∈ TB := tbm5 (i := 150) rfl rfl
theorem w1107 : (Jvm.Cond.methodLink "ClockTeethModel" (185 : Nat) ({ cls := "ClockTeethModel", name := "nextOf", desc := "(IJ)J" } : Jvm.MethodName)) ∈ TB := tbm5 (i := 147) rfl rfl
theorem w1109 : (Jvm.Cond.instanceMethod ({ cls := "ClockTeethModel", name := "nextOf", desc := "(IJ)J" } : Jvm.MethodName)) ∈ TB := tbm5 (i := 149) rfl rfl
theorem w1155 : (Jvm.Cond.code ({ cls := "ClockTeethModel", name := "startsRests", desc := "()V" } : Jvm.MethodName) prog_11_method_45_code (1 : Nat) (Option.none : Option Jvm.ClassFile.FieldType)) ∈ TB := tbm5 (i := 195) rfl rfl
theorem w1152 : (Jvm.Cond.methodLink "ClockTeethModel" (218 : Nat) ({ cls := "ClockTeethModel", name := "startsRests", desc := "()V" } : Jvm.MethodName)) ∈ TB := tbm5 (i := 192) rfl rfl
theorem w1154 : (Jvm.Cond.instanceMethod ({ cls := "ClockTeethModel", name := "startsRests", desc := "()V" } : Jvm.MethodName)) ∈ TB := tbm5 (i := 194) rfl rfl
theorem w1159 : (Jvm.Cond.code ({ cls := "ClockTeethModel", name := "joinsRests", desc := "(I)V" } : Jvm.MethodName) prog_11_method_46_code (9 : Nat) (Option.none : Option Jvm.ClassFile.FieldType)) ∈ TB := tbm5 (i := 199) rfl rfl
theorem w1156 : (Jvm.Cond.methodLink "ClockTeethModel" (221 : Nat) ({ cls := "ClockTeethModel", name := "joinsRests", desc := "(I)V" } : Jvm.MethodName)) ∈ TB := tbm5 (i := 196) rfl rfl
theorem w1158 : (Jvm.Cond.instanceMethod ({ cls := "ClockTeethModel", name := "joinsRests", desc := "(I)V" } : Jvm.MethodName)) ∈ TB := tbm5 (i := 198) rfl rfl
theorem w1151 : (Jvm.Cond.code ({ cls := "ClockTeethModel", name := "findRests", desc := "(I)V" } : Jvm.MethodName) prog_11_method_47_code (3 : Nat) (Option.none : Option Jvm.ClassFile.FieldType)) ∈ TB := tbm5 (i := 191) rfl rfl
theorem w1148 : (Jvm.Cond.methodLink "ClockTeethModel" (225 : Nat) ({ cls := "ClockTeethModel", name := "findRests", desc := "(I)V" } : Jvm.MethodName)) ∈ TB := tbm5 (i := 188) rfl rfl
theorem w1150 : (Jvm.Cond.instanceMethod ({ cls := "ClockTeethModel", name := "findRests", desc := "(I)V" } : Jvm.MethodName)) ∈ TB := tbm5 (i := 190) rfl rfl
theorem w1169 : (Jvm.Cond.code ({ cls := "ClockTeethModel", name := "firstOfRests", desc := "(J)J" } : Jvm.MethodName) prog_11_method_48_code (8 : Nat) (Option.some Jvm.ClassFile.FieldType.long)) ∈ TB := tbm5 (i := 209) rfl rfl
theorem w1166 : (Jvm.Cond.methodLink "ClockTeethModel" (228 : Nat) ({ cls := "ClockTeethModel", name := "firstOfRests", desc := "(J)J" } : Jvm.MethodName)) ∈ TB := tbm5 (i := 206) rfl rfl
theorem w1168 : (Jvm.Cond.instanceMethod ({ cls := "ClockTeethModel", name := "firstOfRests", desc := "(J)J" } : Jvm.MethodName)) ∈ TB := tbm5 (i := 208) rfl rfl
theorem w1143 : (Jvm.Cond.code ({ cls := "ClockTeethModel", name := "areTwo", desc := "(II)Z" } : Jvm.MethodName) prog_11_method_49_code (3 : Nat) (Option.some Jvm.ClassFile.FieldType.boolean)) ∈ TB := tbm5 (i := 183) rfl rfl
theorem w1140 : (Jvm.Cond.methodLink "ClockTeethModel" (231 : Nat) ({ cls := "ClockTeethModel", name := "areTwo", desc := "(II)Z" } : Jvm.MethodName)) ∈ TB := tbm5 (i := 180) rfl rfl
theorem w1142 : (Jvm.Cond.instanceMethod ({ cls := "ClockTeethModel", name := "areTwo", desc := "(II)Z" } : Jvm.MethodName)) ∈ TB := tbm5 (i := 182) rfl rfl
theorem w1147 : (Jvm.Cond.code ({ cls := "ClockTeethModel", name := "togetherOf", desc := "(IIJ)J" } : Jvm.MethodName) prog_11_method_50_code (5 : Nat) (Option.some Jvm.ClassFile.FieldType.long)) ∈ TB := tbm5 (i := 187) rfl rfl
theorem w1144 : (Jvm.Cond.methodLink "ClockTeethModel" (235 : Nat) ({ cls := "ClockTeethModel", name := "togetherOf", desc := "(IIJ)J" } : Jvm.MethodName)) ∈ TB := tbm5 (i := 184) rfl rfl
theorem w1146 : (Jvm.Cond.instanceMethod ({ cls := "ClockTeethModel", name := "togetherOf", desc := "(IIJ)J" } : Jvm.MethodName)) ∈ TB := tbm5 (i := 186) rfl rfl
theorem w1181 : (Jvm.Cond.code ({ cls := "ClockTeethModel", name := "areSome", desc := "(I)Z" } : Jvm.MethodName) prog_11_method_53_code (2 : Nat) (Option.some Jvm.ClassFile.FieldType.boolean)) ∈ TB := tbm5 (i := 221) rfl rfl
theorem w1178 : (Jvm.Cond.methodLink "ClockTeethModel" (239 : Nat) ({ cls := "ClockTeethModel", name := "areSome", desc := "(I)Z" } : Jvm.MethodName)) ∈ TB := tbm5 (i := 218) rfl rfl
theorem w1180 : (Jvm.Cond.instanceMethod ({ cls := "ClockTeethModel", name := "areSome", desc := "(I)Z" } : Jvm.MethodName)) ∈ TB := tbm5 (i := 220) rfl rfl
theorem w1197 : (Jvm.Cond.code ({ cls := "ClockTeethModel", name := "doCrash", desc := "(II)Z" } : Jvm.MethodName) prog_11_method_56_code (7 : Nat) (Option.some Jvm.ClassFile.FieldType.boolean)) ∈ TB := tbm5 (i := 237) rfl rfl
theorem w1194 : (Jvm.Cond.methodLink "ClockTeethModel" (242 : Nat) ({ cls := "ClockTeethModel", name := "doCrash", desc := "(II)Z" } : Jvm.MethodName)) ∈ TB := tbm5 (i := 234) rfl rfl
theorem w1196 : (Jvm.Cond.instanceMethod ({ cls := "ClockTeethModel", name := "doCrash", desc := "(II)Z" } : Jvm.MethodName)) ∈ TB := tbm5 (i := 236) rfl rfl
theorem w1193 : (Jvm.Cond.code ({ cls := "ClockTeethModel", name := "crashOf", desc := "(I)I" } : Jvm.MethodName) prog_11_method_57_code (4 : Nat) (Option.some Jvm.ClassFile.FieldType.int)) ∈ TB := tbm5 (i := 233) rfl rfl
theorem w1190 : (Jvm.Cond.methodLink "ClockTeethModel" (245 : Nat) ({ cls := "ClockTeethModel", name := "crashOf", desc := "(I)I" } : Jvm.MethodName)) ∈ TB := tbm5 (i := 230) rfl rfl
theorem w1192 : (Jvm.Cond.instanceMethod ({ cls := "ClockTeethModel", name := "crashOf", desc := "(I)I" } : Jvm.MethodName)) ∈ TB := tbm5 (i := 232) rfl rfl
theorem w1227 : (Jvm.Cond.code ({ cls := "ClockTeethModel", name := "doorOn", desc := "(IJ)I" } : Jvm.MethodName) prog_11_method_66_code (6 : Nat) (Option.some Jvm.ClassFile.FieldType.int)) ∈ TB := tbm6 (i := 27) rfl rfl
theorem w1224 : (Jvm.Cond.methodLink "ClockTeethModel" (263 : Nat) ({ cls := "ClockTeethModel", name := "doorOn", desc := "(IJ)I" } : Jvm.MethodName)) ∈ TB := tbm6 (i := 24) rfl rfl
theorem w1226 : (Jvm.Cond.instanceMethod ({ cls := "ClockTeethModel", name := "doorOn", desc := "(IJ)I" } : Jvm.MethodName)) ∈ TB := tbm6 (i := 26) rfl rfl
theorem w1239 : (Jvm.Cond.code ({ cls := "ClockTeethModel", name := "isClash", desc := "(J)Z" } : Jvm.MethodName) prog_11_method_69_code (7 : Nat) (Option.some Jvm.ClassFile.FieldType.boolean)) ∈ TB := tbm6 (i := 39) rfl rfl
theorem w1236 : (Jvm.Cond.methodLink "ClockTeethModel" (273 : Nat) ({ cls := "ClockTeethModel", name := "isClash", desc := "(J)Z" } : Jvm.MethodName)) ∈ TB := tbm6 (i := 36) rfl rfl
theorem w1238 : (Jvm.Cond.instanceMethod ({ cls := "ClockTeethModel", name := "isClash", desc := "(J)Z" } : Jvm.MethodName)) ∈ TB := tbm6 (i := 38) rfl rfl
theorem w1256 : (Jvm.Cond.code ({ cls := "ClockTeethModel", name := "mayHave", desc := "(II)Z" } : Jvm.MethodName) prog_11_method_73_code (3 : Nat) (Option.some Jvm.ClassFile.FieldType.boolean)) ∈ TB := tbm6 (i := 56) rfl rfl
theorem w1253 : (Jvm.Cond.methodLink "ClockTeethModel" (285 : Nat) ({ cls := "ClockTeethModel", name := "mayHave", desc := "(II)Z" } : Jvm.MethodName)) ∈ TB := tbm6 (i := 53) rfl rfl
theorem w1255 : (Jvm.Cond.instanceMethod ({ cls := "ClockTeethModel", name := "mayHave", desc := "(II)Z" } : Jvm.MethodName)) ∈ TB := tbm6 (i := 55) rfl rfl
theorem w1262 : (Jvm.Cond.code ({ cls := "ClockTeethModel", name := "quietFirst", desc := "(II)I" } : Jvm.MethodName) prog_11_method_72_code (5 : Nat) (Option.some Jvm.ClassFile.FieldType.int)) ∈ TB := tbm6 (i := 62) rfl rfl
theorem w1259 : (Jvm.Cond.methodLink "ClockTeethModel" (288 : Nat) ({ cls := "ClockTeethModel", name := "quietFirst", desc := "(II)I" } : Jvm.MethodName)) ∈ TB := tbm6 (i := 59) rfl rfl
theorem w1261 : (Jvm.Cond.instanceMethod ({ cls := "ClockTeethModel", name := "quietFirst", desc := "(II)I" } : Jvm.MethodName)) ∈ TB := tbm6 (i := 61) rfl rfl
theorem w1252 : (Jvm.Cond.code ({ cls := "ClockTeethModel", name := "findCut", desc := "(I)Z" } : Jvm.MethodName) prog_11_method_74_code (7 : Nat) (Option.some Jvm.ClassFile.FieldType.boolean)) ∈ TB := tbm6 (i := 52) rfl rfl
theorem w1249 : (Jvm.Cond.methodLink "ClockTeethModel" (294 : Nat) ({ cls := "ClockTeethModel", name := "findCut", desc := "(I)Z" } : Jvm.MethodName)) ∈ TB := tbm6 (i := 49) rfl rfl
theorem w1251 : (Jvm.Cond.instanceMethod ({ cls := "ClockTeethModel", name := "findCut", desc := "(I)Z" } : Jvm.MethodName)) ∈ TB := tbm6 (i := 51) rfl rfl
theorem w1278 : (Jvm.Cond.code ({ cls := "ClockTeethModel", name := "allCrash", desc := "()I" } : Jvm.MethodName) prog_11_method_59_code (3 : Nat) (Option.some Jvm.ClassFile.FieldType.int)) ∈ TB := tbm6 (i := 78) rfl rfl
theorem w1275 : (Jvm.Cond.methodLink "ClockTeethModel" (297 : Nat) ({ cls := "ClockTeethModel", name := "allCrash", desc := "()I" } : Jvm.MethodName)) ∈ TB := tbm6 (i := 75) rfl rfl
theorem w1277 : (Jvm.Cond.instanceMethod ({ cls := "ClockTeethModel", name := "allCrash", desc := "()I" } : Jvm.MethodName)) ∈ TB := tbm6 (i := 77) rfl rfl
theorem w1307 : (Jvm.Cond.code ({ cls := "ClockTeethModel", name := "isFit", desc := "(I)Z" } : Jvm.MethodName) prog_11_method_83_code (5 : Nat) (Option.some Jvm.ClassFile.FieldType.boolean)) ∈ TB := tbm6 (i := 107) rfl rfl
theorem w1304 : (Jvm.Cond.methodLink "ClockTeethModel" (307 : Nat) ({ cls := "ClockTeethModel", name := "isFit", desc := "(I)Z" } : Jvm.MethodName)) ∈ TB := tbm6 (i := 104) rfl rfl
theorem w1306 : (Jvm.Cond.instanceMethod ({ cls := "ClockTeethModel", name := "isFit", desc := "(I)Z" } : Jvm.MethodName)) ∈ TB := tbm6 (i := 106) rfl rfl
theorem w1315 : (Jvm.Cond.code ({ cls := "ClockTeethModel", name := "isPlainFit", desc := "(III)Z" } : Jvm.MethodName) prog_11_method_85_code (7 : Nat) (Option.some Jvm.ClassFile.FieldType.boolean)) ∈ TB := tbm6 (i := 115) rfl rfl
theorem w1312 : (Jvm.Cond.methodLink "ClockTeethModel" (310 : Nat) ({ cls := "ClockTeethModel", name := "isPlainFit", desc := "(III)Z" } : Jvm.MethodName)) ∈ TB := tbm6 (i := 112) rfl rfl
theorem w1314 : (Jvm.Cond.instanceMethod ({ cls := "ClockTeethModel", name := "isPlainFit", desc := "(III)Z" } : Jvm.MethodName)) ∈ TB := tbm6 (i := 114) rfl rfl
theorem w1331 : (Jvm.Cond.code ({ cls := "ClockTeethModel", name := "isFright", desc := "(IJ)Z" } : Jvm.MethodName) prog_11_method_88_code (6 : Nat) (Option.some Jvm.ClassFile.FieldType.boolean)) ∈ TB := tbm6 (i := 131) rfl rfl
theorem w1328 : (Jvm.Cond.methodLink "ClockTeethModel" (313 : Nat) ({ cls := "ClockTeethModel", name := "isFright", desc := "(IJ)Z" } : Jvm.MethodName)) ∈ TB := tbm6 (i := 128) rfl rfl
theorem w1330 : (Jvm.Cond.instanceMethod ({ cls := "ClockTeethModel", name := "isFright", desc := "(IJ)Z" } : Jvm.MethodName)) ∈ TB := tbm6 (i := 130) rfl rfl
theorem w1327 : (Jvm.Cond.code ({ cls := "ClockTeethModel", name := "frightOf", desc := "(IJI)I" } : Jvm.MethodName) prog_11_method_89_code (7 : Nat) (Option.some Jvm.ClassFile.FieldType.int)) ∈ TB := tbm6 (i := 127) rfl rfl
theorem w1324 : (Jvm.Cond.methodLink "ClockTeethModel" (316 : Nat) ({ cls := "ClockTeethModel", name := "frightOf", desc := "(IJI)I" } : Jvm.MethodName)) ∈ TB := tbm6 (i := 124) rfl rfl
theorem w1326 : (Jvm.Cond.instanceMethod ({ cls := "ClockTeethModel", name := "frightOf", desc := "(IJI)I" } : Jvm.MethodName)) ∈ TB := tbm6 (i := 126) rfl rfl
theorem w1343 : (Jvm.Cond.code ({ cls := "ClockTeethModel", name := "copies", desc := "(II)V" } : Jvm.MethodName) prog_11_method_92_code (4 : Nat) (Option.none : Option Jvm.ClassFile.FieldType)) ∈ TB := tbm6 (i := 143) rfl rfl
theorem w1340 : (Jvm.Cond.methodLink "ClockTeethModel" (320 : Nat) ({ cls := "ClockTeethModel", name := "copies", desc := "(II)V" } : Jvm.MethodName)) ∈ TB := tbm6 (i := 140) rfl rfl
theorem w1342 : (Jvm.Cond.instanceMethod ({ cls := "ClockTeethModel", name := "copies", desc := "(II)V" } : Jvm.MethodName)) ∈ TB := tbm6 (i := 142) rfl rfl
theorem w1365 : (Jvm.Cond.methodLink "ClockTeethModel" (331 : Nat) ({ cls := "ClockTeethModel", name := "see", desc := "(IIZ)I" } : Jvm.MethodName)) ∈ TB := tbm6 (i := 165) rfl rfl
theorem w891 : (Jvm.Cond.constant "ClockTeethModel" (23 : Nat) (46656 : Int32)) ∈ TB := tbm4 (i := 171) rfl rfl
theorem w539 : (Jvm.Cond.constantLong "ClockTeeth" (166 : Nat) (-1 : Int64)) ∈ TB := tbm3 (i := 59) rfl rfl
theorem w589 : (Jvm.Cond.constantLong "ClockTeeth" (172 : Nat) (-4 : Int64)) ∈ TB := tbm3 (i := 109) rfl rfl
theorem w658 : (Jvm.Cond.constantLong "ClockTeeth" (210 : Nat) (1000000000001 : Int64)) ∈ TB := tbm3 (i := 178) rfl rfl
theorem w675 : (Jvm.Cond.constantLong "ClockTeeth" (220 : Nat) (365 : Int64)) ∈ TB := tbm3 (i := 195) rfl rfl
theorem w872 : (Jvm.Cond.constantLong "ClockTeeth" (319 : Nat) (3 : Int64)) ∈ TB := tbm4 (i := 152) rfl rfl
theorem w523 : (Jvm.Cond.constantLong "ClockTeeth" (328 : Nat) (1000000000000 : Int64)) ∈ TB := tbm3 (i := 43) rfl rfl
theorem w666 : (Jvm.Cond.constantLong "ClockTeeth" (355 : Nat) (1461 : Int64)) ∈ TB := tbm3 (i := 186) rfl rfl
theorem w667 : (Jvm.Cond.constantLong "ClockTeeth" (357 : Nat) (4 : Int64)) ∈ TB := tbm3 (i := 187) rfl rfl
theorem w732 : (Jvm.Cond.constantLong "ClockTeeth$Clock" (161 : Nat) (-1 : Int64)) ∈ TB := tbm4 (i := 12) rfl rfl
theorem w564 : (Jvm.Cond.constantLong "ClockTeeth$Finder" (43 : Nat) (1000000000000 : Int64)) ∈ TB := tbm3 (i := 84) rfl rfl
theorem w584 : (Jvm.Cond.constantLong "ClockTeeth$Finder" (49 : Nat) (-4 : Int64)) ∈ TB := tbm3 (i := 104) rfl rfl
theorem w289 : (Jvm.Cond.constantLong "ClockTeeth$Tape" (19 : Nat) (255 : Int64)) ∈ TB := tbm2 (i := 49) rfl rfl
theorem w1374 : (Jvm.Cond.constantLong "ClockTeethLaw" (13 : Nat) (4294967295 : Int64)) ∈ TB := tbm6 (i := 174) rfl rfl
theorem w986 : (Jvm.Cond.constantLong "ClockTeethModel" (69 : Nat) (255 : Int64)) ∈ TB := tbm5 (i := 26) rfl rfl
theorem w1006 : (Jvm.Cond.constantLong "ClockTeethModel" (102 : Nat) (97 : Int64)) ∈ TB := tbm5 (i := 46) rfl rfl
theorem w1007 : (Jvm.Cond.constantLong "ClockTeethModel" (104 : Nat) (122 : Int64)) ∈ TB := tbm5 (i := 47) rfl rfl
theorem w1008 : (Jvm.Cond.constantLong "ClockTeethModel" (106 : Nat) (48 : Int64)) ∈ TB := tbm5 (i := 48) rfl rfl
theorem w1009 : (Jvm.Cond.constantLong "ClockTeethModel" (108 : Nat) (57 : Int64)) ∈ TB := tbm5 (i := 49) rfl rfl
theorem w1066 : (Jvm.Cond.constantLong "ClockTeethModel" (150 : Nat) (5 : Int64)) ∈ TB := tbm5 (i := 106) rfl rfl
theorem w1079 : (Jvm.Cond.constantLong "ClockTeethModel" (155 : Nat) (4 : Int64)) ∈ TB := tbm5 (i := 119) rfl rfl
theorem w1087 : (Jvm.Cond.constantLong "ClockTeethModel" (163 : Nat) (1000000000000 : Int64)) ∈ TB := tbm5 (i := 127) rfl rfl
theorem w1111 : (Jvm.Cond.constantLong "ClockTeethModel" (177 : Nat) (-1 : Int64)) ∈ TB := tbm5 (i := 151) rfl rfl
theorem w1118 : (Jvm.Cond.constantLong "ClockTeethModel" (183 : Nat) (-4 : Int64)) ∈ TB := tbm5 (i := 158) rfl rfl
theorem w1206 : (Jvm.Cond.constantLong "ClockTeethModel" (248 : Nat) (1461 : Int64)) ∈ TB := tbm6 (i := 6) rfl rfl
theorem w1217 : (Jvm.Cond.constantLong "ClockTeethModel" (257 : Nat) (9999 : Int64)) ∈ TB := tbm6 (i := 17) rfl rfl
theorem w1218 : (Jvm.Cond.constantLong "ClockTeethModel" (259 : Nat) (365 : Int64)) ∈ TB := tbm6 (i := 18) rfl rfl
theorem w1219 : (Jvm.Cond.constantLong "ClockTeethModel" (261 : Nat) (364 : Int64)) ∈ TB := tbm6 (i := 19) rfl rfl
theorem w1235 : (Jvm.Cond.constantLong "ClockTeethModel" (267 : Nat) (400 : Int64)) ∈ TB := tbm6 (i := 35) rfl rfl
theorem w1244 : (Jvm.Cond.constantLong "ClockTeethModel" (276 : Nat) (8 : Int64)) ∈ TB := tbm6 (i := 44) rfl rfl
theorem w1257 : (Jvm.Cond.constantLong "ClockTeethModel" (278 : Nat) (2 : Int64)) ∈ TB := tbm6 (i := 57) rfl rfl
theorem w1258 : (Jvm.Cond.constantLong "ClockTeethModel" (280 : Nat) (60 : Int64)) ∈ TB := tbm6 (i := 58) rfl rfl
theorem w1290 : (Jvm.Cond.constantLong "ClockTeethModel" (303 : Nat) (99 : Int64)) ∈ TB := tbm6 (i := 90) rfl rfl
theorem w1295 : (Jvm.Cond.constantLong "ClockTeethModel" (305 : Nat) (30000 : Int64)) ∈ TB := tbm6 (i := 95) rfl rfl
theorem w1355 : (Jvm.Cond.constantLong "ClockTeethModel" (324 : Nat) (3 : Int64)) ∈ TB := tbm6 (i := 155) rfl rfl
theorem w1364 : (Jvm.Cond.constantLong "ClockTeethModel" (329 : Nat) (12 : Int64)) ∈ TB := tbm6 (i := 164) rfl rfl
theorem w25 : (Jvm.Cond.classLink "ClockTeeth" (9 : Nat) "ClockTeeth$Tape") ∈ TB := tbm1 (i := 25) rfl rfl
theorem w26 : (Jvm.Cond.instantiable "ClockTeeth$Tape" (2 : Nat)) ∈ TB := tbm1 (i := 26) rfl rfl
theorem w43 : (Jvm.Cond.instantiable "ClockTeeth$Clock" (10 : Nat)) ∈ TB := tbm1 (i := 43) rfl rfl
theorem w223 : (Jvm.Cond.instantiable "ClockTeeth$Sheet" (3 : Nat)) ∈ TB := tbm1 (i := 223) rfl rfl
theorem w189 : (Jvm.Cond.classLink "ClockTeeth" (40 : Nat) "ClockTeeth$Finder") ∈ TB := tbm1 (i := 189) rfl rfl
theorem w190 : (Jvm.Cond.instantiable "ClockTeeth$Finder" (7 : Nat)) ∈ TB := tbm1 (i := 190) rfl rfl
theorem w221 : (Jvm.Cond.classLink "ClockTeeth" (47 : Nat) "ClockTeeth$Figure") ∈ TB := tbm1 (i := 221) rfl rfl
theorem w54 : (Jvm.Cond.instantiable "ClockTeeth$Figure" (5 : Nat)) ∈ TB := tbm1 (i := 54) rfl rfl
theorem w298 : (Jvm.Cond.classLink "ClockTeeth" (79 : Nat) "ClockTeeth$Reader") ∈ TB := tbm2 (i := 58) rfl rfl
theorem w299 : (Jvm.Cond.instantiable "ClockTeeth$Reader" (9 : Nat)) ∈ TB := tbm2 (i := 59) rfl rfl
theorem w90 : (Jvm.Cond.instantiable "ClockTeeth$Vote" (5 : Nat)) ∈ TB := tbm1 (i := 90) rfl rfl
theorem w122 : (Jvm.Cond.instantiable "ClockTeeth$Sight" (3 : Nat)) ∈ TB := tbm1 (i := 122) rfl rfl
theorem w17 : (Jvm.Cond.classLink "ClockTeethLaw" (7 : Nat) "ClockTeeth") ∈ TB := tbm1 (i := 17) rfl rfl
theorem w18 : (Jvm.Cond.instantiable "ClockTeeth" (13 : Nat)) ∈ TB := tbm1 (i := 18) rfl rfl
theorem w885 : (Jvm.Cond.classLink "ClockTeethLaw" (10 : Nat) "ClockTeethModel") ∈ TB := tbm4 (i := 165) rfl rfl
theorem w886 : (Jvm.Cond.instantiable "ClockTeethModel" (27 : Nat)) ∈ TB := tbm4 (i := 166) rfl rfl
theorem w66 : (Jvm.Cond.fieldLink "ClockTeeth$Clock" (98 : Nat) "ClockTeeth$Figure" "start" "I") ∈ TB := tbm1 (i := 66) rfl rfl
theorem w74 : (Jvm.Cond.fieldLink "ClockTeeth$Clock" (100 : Nat) "ClockTeeth$Figure" "late" "I") ∈ TB := tbm1 (i := 74) rfl rfl
theorem w313 : (Jvm.Cond.fieldLink "ClockTeeth$Reader" (31 : Nat) "ClockTeeth$Reader" "foundAt" "I") ∈ TB := tbm2 (i := 73) rfl rfl
theorem w72 : (Jvm.Cond.fieldLink "ClockTeeth$Reader" (124 : Nat) "ClockTeeth$Figure" "late" "I") ∈ TB := tbm1 (i := 72) rfl rfl
theorem w76 : (Jvm.Cond.fieldLink "ClockTeeth$Reader" (129 : Nat) "ClockTeeth$Figure" "gap" "I") ∈ TB := tbm1 (i := 76) rfl rfl
theorem w60 : (Jvm.Cond.fieldLink "ClockTeeth$Reader" (132 : Nat) "ClockTeeth$Figure" "teeth" "I") ∈ TB := tbm1 (i := 60) rfl rfl
theorem w64 : (Jvm.Cond.fieldLink "ClockTeeth$Reader" (135 : Nat) "ClockTeeth$Figure" "start" "I") ∈ TB := tbm1 (i := 64) rfl rfl
theorem w68 : (Jvm.Cond.fieldLink "ClockTeeth$Reader" (138 : Nat) "ClockTeeth$Figure" "door" "I") ∈ TB := tbm1 (i := 68) rfl rfl
theorem w163 : (Jvm.Cond.fieldLink "ClockTeeth$Reader" (145 : Nat) "ClockTeeth$Clock" "reach" "I") ∈ TB := tbm1 (i := 163) rfl rfl
theorem w127 : (Jvm.Cond.fieldLink "ClockTeeth$Sight" (7 : Nat) "ClockTeeth$Sight" "who" "I") ∈ TB := tbm1 (i := 127) rfl rfl
theorem w129 : (Jvm.Cond.fieldLink "ClockTeeth$Sight" (13 : Nat) "ClockTeeth$Sight" "when" "I") ∈ TB := tbm1 (i := 129) rfl rfl
theorem w131 : (Jvm.Cond.fieldLink "ClockTeeth$Sight" (16 : Nat) "ClockTeeth$Sight" "was" "Z") ∈ TB := tbm1 (i := 131) rfl rfl
