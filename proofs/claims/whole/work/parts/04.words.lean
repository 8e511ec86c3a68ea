theorem kp0 : (Cond.selects "CarrierPaths$Roads" ⟨"CarrierPaths$Roads", "forgetTimes", "()V"⟩ ⟨"CarrierPaths$Roads", "forgetTimes", "()V"⟩ : Cond) ∈ TG := tg_p (i := 0) (by decide +kernel) rfl
theorem kp3 : (Cond.selects "CarrierPaths$Choice" ⟨"CarrierPaths$Choice", "findBest", "(I)V"⟩ ⟨"CarrierPaths$Choice", "findBest", "(I)V"⟩ : Cond) ∈ TG := tg_p (i := 3) (by decide +kernel) rfl
theorem kp4 : (Cond.selects "CarrierPaths$Choice" ⟨"CarrierPaths$Choice", "mostWorth", "(II)I"⟩ ⟨"CarrierPaths$Choice", "mostWorth", "(II)I"⟩ : Cond) ∈ TG := tg_p (i := 4) (by decide +kernel) rfl
theorem kp5 : (Cond.selects "CarrierPaths$Choice" ⟨"CarrierPaths$Choice", "bestFrom", "(II)I"⟩ ⟨"CarrierPaths$Choice", "bestFrom", "(II)I"⟩ : Cond) ∈ TG := tg_p (i := 5) (by decide +kernel) rfl
theorem kp6 : (Cond.selects "CarrierPaths$Choice" ⟨"CarrierPaths$Choice", "canTake", "(III)Z"⟩ ⟨"CarrierPaths$Choice", "canTake", "(III)Z"⟩ : Cond) ∈ TG := tg_p (i := 6) (by decide +kernel) rfl
theorem kp7 : (Cond.selects "CarrierPaths$Choice" ⟨"CarrierPaths$Choice", "worthOf", "(II)I"⟩ ⟨"CarrierPaths$Choice", "worthOf", "(II)I"⟩ : Cond) ∈ TG := tg_p (i := 7) (by decide +kernel) rfl
theorem kp8 : (Cond.selects "CarrierPaths$Choice" ⟨"CarrierPaths$Choice", "worthWith", "(III)I"⟩ ⟨"CarrierPaths$Choice", "worthWith", "(III)I"⟩ : Cond) ∈ TG := tg_p (i := 8) (by decide +kernel) rfl
theorem kp9 : (Cond.selects "CarrierPaths$Choice" ⟨"CarrierPaths$Choice", "leastCarrier", "(II)I"⟩ ⟨"CarrierPaths$Choice", "leastCarrier", "(II)I"⟩ : Cond) ∈ TG := tg_p (i := 9) (by decide +kernel) rfl
theorem kp11 : (Cond.selects "CarrierPaths$Roads" ⟨"CarrierPaths$Roads", "measureAnew", "()V"⟩ ⟨"CarrierPaths$Roads", "measureAnew", "()V"⟩ : Cond) ∈ TG := tg_p (i := 11) (by decide +kernel) rfl
theorem kp12 : (Cond.selects "CarrierPaths$Roads" ⟨"CarrierPaths$Roads", "shortenBy", "(I)V"⟩ ⟨"CarrierPaths$Roads", "shortenBy", "(I)V"⟩ : Cond) ∈ TG := tg_p (i := 12) (by decide +kernel) rfl
theorem kp22 : (Cond.selects "CarrierPathsModel" ⟨"CarrierPathsModel", "isPoint", "(I)Z"⟩ ⟨"CarrierPathsModel", "isPoint", "(I)Z"⟩ : Cond) ∈ TG := tg_p (i := 22) (by decide +kernel) rfl
theorem kp23 : (Cond.selects "CarrierPathsModel" ⟨"CarrierPathsModel", "fails", "(I)I"⟩ ⟨"CarrierPathsModel", "fails", "(I)I"⟩ : Cond) ∈ TG := tg_p (i := 23) (by decide +kernel) rfl
theorem kp24 : (Cond.selects "CarrierPathsModel" ⟨"CarrierPathsModel", "timesTo", "(I)V"⟩ ⟨"CarrierPathsModel", "timesTo", "(I)V"⟩ : Cond) ∈ TG := tg_p (i := 24) (by decide +kernel) rfl
theorem kp25 : (Cond.selects "CarrierPathsModel" ⟨"CarrierPathsModel", "pieceFrom", "(I)I"⟩ ⟨"CarrierPathsModel", "pieceFrom", "(I)I"⟩ : Cond) ∈ TG := tg_p (i := 25) (by decide +kernel) rfl
theorem kp26 : (Cond.selects "CarrierPathsModel" ⟨"CarrierPathsModel", "standing", "(I)I"⟩ ⟨"CarrierPathsModel", "standing", "(I)I"⟩ : Cond) ∈ TG := tg_p (i := 26) (by decide +kernel) rfl
theorem kp27 : (Cond.selects "CarrierPathsModel" ⟨"CarrierPathsModel", "reckon", "()V"⟩ ⟨"CarrierPathsModel", "reckon", "()V"⟩ : Cond) ∈ TG := tg_p (i := 27) (by decide +kernel) rfl
theorem kp28 : (Cond.selects "CarrierPathsModel" ⟨"CarrierPathsModel", "worth", "(II)I"⟩ ⟨"CarrierPathsModel", "worth", "(II)I"⟩ : Cond) ∈ TG := tg_p (i := 28) (by decide +kernel) rfl
theorem kp29 : (Cond.selects "CarrierPathsModel" ⟨"CarrierPathsModel", "timeTo", "(II)I"⟩ ⟨"CarrierPathsModel", "timeTo", "(II)I"⟩ : Cond) ∈ TG := tg_p (i := 29) (by decide +kernel) rfl
theorem kp30 : (Cond.selects "CarrierPathsModel" ⟨"CarrierPathsModel", "isCarrier", "(I)Z"⟩ ⟨"CarrierPathsModel", "isCarrier", "(I)Z"⟩ : Cond) ∈ TG := tg_p (i := 30) (by decide +kernel) rfl
theorem kp31 : (Cond.selects "CarrierPathsModel" ⟨"CarrierPathsModel", "goesOn", "(II)I"⟩ ⟨"CarrierPathsModel", "goesOn", "(II)I"⟩ : Cond) ∈ TG := tg_p (i := 31) (by decide +kernel) rfl
theorem kp32 : (Cond.selects "CarrierPathsModel" ⟨"CarrierPathsModel", "isTaken", "(I)Z"⟩ ⟨"CarrierPathsModel", "isTaken", "(I)Z"⟩ : Cond) ∈ TG := tg_p (i := 32) (by decide +kernel) rfl
theorem kp33 : (Cond.selects "CarrierPathsModel" ⟨"CarrierPathsModel", "isBarred", "(I)Z"⟩ ⟨"CarrierPathsModel", "isBarred", "(I)Z"⟩ : Cond) ∈ TG := tg_p (i := 33) (by decide +kernel) rfl
theorem kp34 : (Cond.selects "CarrierPathsModel" ⟨"CarrierPathsModel", "freeIn", "(I)I"⟩ ⟨"CarrierPathsModel", "freeIn", "(I)I"⟩ : Cond) ∈ TG := tg_p (i := 34) (by decide +kernel) rfl
theorem kp35 : (Cond.selects "CarrierPathsModel" ⟨"CarrierPathsModel", "toCharger", "(I)I"⟩ ⟨"CarrierPathsModel", "toCharger", "(I)I"⟩ : Cond) ∈ TG := tg_p (i := 35) (by decide +kernel) rfl
theorem kp36 : (Cond.selects "CarrierPathsModel" ⟨"CarrierPathsModel", "ofPoint", "(I)I"⟩ ⟨"CarrierPathsModel", "ofPoint", "(I)I"⟩ : Cond) ∈ TG := tg_p (i := 36) (by decide +kernel) rfl
theorem kw2 : (Cond.initialized "java/lang/Math" : Cond) ∈ TG := tg_1 (i := 2) (by decide +kernel) rfl
theorem kw3 : (Cond.initialized "CarrierPaths$Points" : Cond) ∈ TG := tg_1 (i := 3) (by decide +kernel) rfl
theorem kw4 : (Cond.initialized "CarrierPaths$Roads" : Cond) ∈ TG := tg_1 (i := 4) (by decide +kernel) rfl
theorem kw6 : (Cond.initialized "CarrierPaths$Fleet" : Cond) ∈ TG := tg_1 (i := 6) (by decide +kernel) rfl
theorem kw7 : (Cond.initialized "CarrierPaths$Jobs" : Cond) ∈ TG := tg_1 (i := 7) (by decide +kernel) rfl
theorem kw8 : (Cond.initialized "CarrierPaths$Choice" : Cond) ∈ TG := tg_1 (i := 8) (by decide +kernel) rfl
theorem kw9 : (Cond.initialized "CarrierPathsModel" : Cond) ∈ TG := tg_1 (i := 9) (by decide +kernel) rfl
theorem kw25 : (Cond.static ⟨"java/lang/Math", "min", "(II)I"⟩ : Cond) ∈ TG := tg_1 (i := 25) (by decide +kernel) rfl
theorem kw26 : (Cond.code ⟨"java/lang/Math", "min", "(II)I"⟩ prog_14_method_69_code 2 (some .int) : Cond) ∈ TG := tg_1 (i := 26) (by decide +kernel) rfl
theorem kw28 : (Cond.static ⟨"java/lang/Math", "max", "(II)I"⟩ : Cond) ∈ TG := tg_1 (i := 28) (by decide +kernel) rfl
theorem kw29 : (Cond.code ⟨"java/lang/Math", "max", "(II)I"⟩ prog_14_method_65_code 2 (some .int) : Cond) ∈ TG := tg_1 (i := 29) (by decide +kernel) rfl
theorem kw36 : (Cond.fieldLink "CarrierPaths$Points" 19 "CarrierPaths$Points" "size" "I" : Cond) ∈ TG := tg_1 (i := 36) (by decide +kernel) rfl
theorem kw37 : (Cond.fieldLink "CarrierPaths$Points" 9 "CarrierPaths$Points" "rooms" "[I" : Cond) ∈ TG := tg_1 (i := 37) (by decide +kernel) rfl
theorem kw38 : (Cond.fieldLink "CarrierPaths$Points" 15 "CarrierPaths$Points" "chargers" "[Z" : Cond) ∈ TG := tg_1 (i := 38) (by decide +kernel) rfl
theorem kw39 : (Cond.laysFinal "CarrierPaths$Points" "CarrierPaths$Points" "size" "I" : Cond) ∈ TG := tg_1 (i := 39) (by decide +kernel) rfl
theorem kw41 : (Cond.laysFinal "CarrierPaths$Points" "CarrierPaths$Points" "rooms" "[I" : Cond) ∈ TG := tg_1 (i := 41) (by decide +kernel) rfl
theorem kw43 : (Cond.laysFinal "CarrierPaths$Points" "CarrierPaths$Points" "chargers" "[Z" : Cond) ∈ TG := tg_1 (i := 43) (by decide +kernel) rfl
theorem kw54 : (Cond.methodLink "CarrierPaths$Roads" 35 ⟨"CarrierPaths$Roads", "forgetTimes", "()V"⟩ : Cond) ∈ TG := tg_1 (i := 54) (by decide +kernel) rfl
theorem kw56 : (Cond.instanceMethod ⟨"CarrierPaths$Roads", "forgetTimes", "()V"⟩ : Cond) ∈ TG := tg_1 (i := 56) (by decide +kernel) rfl
theorem kw57 : (Cond.code ⟨"CarrierPaths$Roads", "forgetTimes", "()V"⟩ prog_7_method_15_code 3 none : Cond) ∈ TG := tg_1 (i := 57) (by decide +kernel) rfl
theorem kw58 : (Cond.constant "CarrierPaths$Roads" 49 (1000000) : Cond) ∈ TG := tg_1 (i := 58) (by decide +kernel) rfl
theorem kw59 : (Cond.fieldLink "CarrierPaths$Roads" 28 "CarrierPaths$Roads" "points" "I" : Cond) ∈ TG := tg_1 (i := 59) (by decide +kernel) rfl
theorem kw60 : (Cond.fieldLink "CarrierPaths$Roads" 9 "CarrierPaths$Roads" "beginnings" "[I" : Cond) ∈ TG := tg_1 (i := 60) (by decide +kernel) rfl
theorem kw61 : (Cond.fieldLink "CarrierPaths$Roads" 15 "CarrierPaths$Roads" "ends" "[I" : Cond) ∈ TG := tg_1 (i := 61) (by decide +kernel) rfl
theorem kw62 : (Cond.fieldLink "CarrierPaths$Roads" 18 "CarrierPaths$Roads" "times" "[I" : Cond) ∈ TG := tg_1 (i := 62) (by decide +kernel) rfl
theorem kw63 : (Cond.fieldLink "CarrierPaths$Roads" 21 "CarrierPaths$Roads" "closed" "[Z" : Cond) ∈ TG := tg_1 (i := 63) (by decide +kernel) rfl
theorem kw64 : (Cond.fieldLink "CarrierPaths$Roads" 25 "CarrierPaths$Roads" "leastTimes" "[I" : Cond) ∈ TG := tg_1 (i := 64) (by decide +kernel) rfl
theorem kw65 : (Cond.fieldLink "CarrierPaths$Roads" 32 "CarrierPaths$Roads" "size" "I" : Cond) ∈ TG := tg_1 (i := 65) (by decide +kernel) rfl
theorem kw66 : (Cond.laysFinal "CarrierPaths$Roads" "CarrierPaths$Roads" "points" "I" : Cond) ∈ TG := tg_1 (i := 66) (by decide +kernel) rfl
theorem kw68 : (Cond.laysFinal "CarrierPaths$Roads" "CarrierPaths$Roads" "beginnings" "[I" : Cond) ∈ TG := tg_1 (i := 68) (by decide +kernel) rfl
theorem kw70 : (Cond.laysFinal "CarrierPaths$Roads" "CarrierPaths$Roads" "ends" "[I" : Cond) ∈ TG := tg_1 (i := 70) (by decide +kernel) rfl
theorem kw72 : (Cond.laysFinal "CarrierPaths$Roads" "CarrierPaths$Roads" "times" "[I" : Cond) ∈ TG := tg_1 (i := 72) (by decide +kernel) rfl
theorem kw74 : (Cond.laysFinal "CarrierPaths$Roads" "CarrierPaths$Roads" "closed" "[Z" : Cond) ∈ TG := tg_1 (i := 74) (by decide +kernel) rfl
theorem kw76 : (Cond.laysFinal "CarrierPaths$Roads" "CarrierPaths$Roads" "leastTimes" "[I" : Cond) ∈ TG := tg_1 (i := 76) (by decide +kernel) rfl
theorem kw78 : (Cond.lays "CarrierPaths$Roads" "CarrierPaths$Roads" "size" "I" : Cond) ∈ TG := tg_1 (i := 78) (by decide +kernel) rfl
theorem kw87 : (Cond.fieldLink "CarrierPaths$Rings" 9 "CarrierPaths$Rings" "sets" "[I" : Cond) ∈ TG := tg_1 (i := 87) (by decide +kernel) rfl
theorem kw88 : (Cond.fieldLink "CarrierPaths$Rings" 15 "CarrierPaths$Rings" "size" "I" : Cond) ∈ TG := tg_1 (i := 88) (by decide +kernel) rfl
theorem kw89 : (Cond.laysFinal "CarrierPaths$Rings" "CarrierPaths$Rings" "sets" "[I" : Cond) ∈ TG := tg_1 (i := 89) (by decide +kernel) rfl
theorem kw91 : (Cond.lays "CarrierPaths$Rings" "CarrierPaths$Rings" "size" "I" : Cond) ∈ TG := tg_1 (i := 91) (by decide +kernel) rfl
theorem kw100 : (Cond.fieldLink "CarrierPaths$Fleet" 9 "CarrierPaths$Fleet" "at" "[I" : Cond) ∈ TG := tg_1 (i := 100) (by decide +kernel) rfl
theorem kw101 : (Cond.fieldLink "CarrierPaths$Fleet" 15 "CarrierPaths$Fleet" "on" "[I" : Cond) ∈ TG := tg_1 (i := 101) (by decide +kernel) rfl
theorem kw102 : (Cond.fieldLink "CarrierPaths$Fleet" 18 "CarrierPaths$Fleet" "arrivals" "[I" : Cond) ∈ TG := tg_1 (i := 102) (by decide +kernel) rfl
theorem kw103 : (Cond.fieldLink "CarrierPaths$Fleet" 21 "CarrierPaths$Fleet" "holds" "[I" : Cond) ∈ TG := tg_1 (i := 103) (by decide +kernel) rfl
theorem kw104 : (Cond.fieldLink "CarrierPaths$Fleet" 24 "CarrierPaths$Fleet" "charges" "[I" : Cond) ∈ TG := tg_1 (i := 104) (by decide +kernel) rfl
theorem kw105 : (Cond.fieldLink "CarrierPaths$Fleet" 27 "CarrierPaths$Fleet" "endedJobs" "[I" : Cond) ∈ TG := tg_1 (i := 105) (by decide +kernel) rfl
theorem kw106 : (Cond.fieldLink "CarrierPaths$Fleet" 30 "CarrierPaths$Fleet" "emptyTimes" "[I" : Cond) ∈ TG := tg_1 (i := 106) (by decide +kernel) rfl
theorem kw107 : (Cond.fieldLink "CarrierPaths$Fleet" 33 "CarrierPaths$Fleet" "size" "I" : Cond) ∈ TG := tg_1 (i := 107) (by decide +kernel) rfl
theorem kw108 : (Cond.laysFinal "CarrierPaths$Fleet" "CarrierPaths$Fleet" "at" "[I" : Cond) ∈ TG := tg_1 (i := 108) (by decide +kernel) rfl
theorem kw110 : (Cond.laysFinal "CarrierPaths$Fleet" "CarrierPaths$Fleet" "on" "[I" : Cond) ∈ TG := tg_1 (i := 110) (by decide +kernel) rfl
theorem kw112 : (Cond.laysFinal "CarrierPaths$Fleet" "CarrierPaths$Fleet" "arrivals" "[I" : Cond) ∈ TG := tg_1 (i := 112) (by decide +kernel) rfl
theorem kw114 : (Cond.laysFinal "CarrierPaths$Fleet" "CarrierPaths$Fleet" "holds" "[I" : Cond) ∈ TG := tg_1 (i := 114) (by decide +kernel) rfl
theorem kw116 : (Cond.laysFinal "CarrierPaths$Fleet" "CarrierPaths$Fleet" "charges" "[I" : Cond) ∈ TG := tg_1 (i := 116) (by decide +kernel) rfl
theorem kw118 : (Cond.laysFinal "CarrierPaths$Fleet" "CarrierPaths$Fleet" "endedJobs" "[I" : Cond) ∈ TG := tg_1 (i := 118) (by decide +kernel) rfl
theorem kw120 : (Cond.laysFinal "CarrierPaths$Fleet" "CarrierPaths$Fleet" "emptyTimes" "[I" : Cond) ∈ TG := tg_1 (i := 120) (by decide +kernel) rfl
theorem kw122 : (Cond.lays "CarrierPaths$Fleet" "CarrierPaths$Fleet" "size" "I" : Cond) ∈ TG := tg_1 (i := 122) (by decide +kernel) rfl
theorem kw131 : (Cond.fieldLink "CarrierPaths$Jobs" 9 "CarrierPaths$Jobs" "froms" "[I" : Cond) ∈ TG := tg_1 (i := 131) (by decide +kernel) rfl
theorem kw132 : (Cond.fieldLink "CarrierPaths$Jobs" 15 "CarrierPaths$Jobs" "tos" "[I" : Cond) ∈ TG := tg_1 (i := 132) (by decide +kernel) rfl
theorem kw133 : (Cond.fieldLink "CarrierPaths$Jobs" 18 "CarrierPaths$Jobs" "states" "[I" : Cond) ∈ TG := tg_1 (i := 133) (by decide +kernel) rfl
theorem kw134 : (Cond.fieldLink "CarrierPaths$Jobs" 21 "CarrierPaths$Jobs" "holders" "[I" : Cond) ∈ TG := tg_1 (i := 134) (by decide +kernel) rfl
theorem kw135 : (Cond.fieldLink "CarrierPaths$Jobs" 24 "CarrierPaths$Jobs" "size" "I" : Cond) ∈ TG := tg_1 (i := 135) (by decide +kernel) rfl
theorem kw136 : (Cond.laysFinal "CarrierPaths$Jobs" "CarrierPaths$Jobs" "froms" "[I" : Cond) ∈ TG := tg_1 (i := 136) (by decide +kernel) rfl
theorem kw138 : (Cond.laysFinal "CarrierPaths$Jobs" "CarrierPaths$Jobs" "tos" "[I" : Cond) ∈ TG := tg_1 (i := 138) (by decide +kernel) rfl
theorem kw140 : (Cond.laysFinal "CarrierPaths$Jobs" "CarrierPaths$Jobs" "states" "[I" : Cond) ∈ TG := tg_1 (i := 140) (by decide +kernel) rfl
theorem kw142 : (Cond.laysFinal "CarrierPaths$Jobs" "CarrierPaths$Jobs" "holders" "[I" : Cond) ∈ TG := tg_1 (i := 142) (by decide +kernel) rfl
theorem kw144 : (Cond.lays "CarrierPaths$Jobs" "CarrierPaths$Jobs" "size" "I" : Cond) ∈ TG := tg_1 (i := 144) (by decide +kernel) rfl
theorem kw153 : (Cond.fieldLink "CarrierPaths$Choice" 9 "CarrierPaths$Choice" "worths" "[I" : Cond) ∈ TG := tg_1 (i := 153) (by decide +kernel) rfl
theorem kw154 : (Cond.fieldLink "CarrierPaths$Choice" 15 "CarrierPaths$Choice" "best" "[I" : Cond) ∈ TG := tg_1 (i := 154) (by decide +kernel) rfl
theorem kw155 : (Cond.fieldLink "CarrierPaths$Choice" 18 "CarrierPaths$Choice" "chosen" "[I" : Cond) ∈ TG := tg_1 (i := 155) (by decide +kernel) rfl
theorem kw156 : (Cond.fieldLink "CarrierPaths$Choice" 21 "CarrierPaths$Choice" "jobCount" "I" : Cond) ∈ TG := tg_1 (i := 156) (by decide +kernel) rfl
theorem kw157 : (Cond.fieldLink "CarrierPaths$Choice" 25 "CarrierPaths$Choice" "carrierCount" "I" : Cond) ∈ TG := tg_1 (i := 157) (by decide +kernel) rfl
theorem kw158 : (Cond.fieldLink "CarrierPaths$Choice" 28 "CarrierPaths$Choice" "able" "I" : Cond) ∈ TG := tg_1 (i := 158) (by decide +kernel) rfl
theorem kw159 : (Cond.laysFinal "CarrierPaths$Choice" "CarrierPaths$Choice" "worths" "[I" : Cond) ∈ TG := tg_1 (i := 159) (by decide +kernel) rfl
theorem kw161 : (Cond.laysFinal "CarrierPaths$Choice" "CarrierPaths$Choice" "best" "[I" : Cond) ∈ TG := tg_1 (i := 161) (by decide +kernel) rfl
theorem kw163 : (Cond.laysFinal "CarrierPaths$Choice" "CarrierPaths$Choice" "chosen" "[I" : Cond) ∈ TG := tg_1 (i := 163) (by decide +kernel) rfl
theorem kw165 : (Cond.lays "CarrierPaths$Choice" "CarrierPaths$Choice" "jobCount" "I" : Cond) ∈ TG := tg_1 (i := 165) (by decide +kernel) rfl
theorem kw167 : (Cond.lays "CarrierPaths$Choice" "CarrierPaths$Choice" "carrierCount" "I" : Cond) ∈ TG := tg_1 (i := 167) (by decide +kernel) rfl
theorem kw169 : (Cond.lays "CarrierPaths$Choice" "CarrierPaths$Choice" "able" "I" : Cond) ∈ TG := tg_1 (i := 169) (by decide +kernel) rfl
theorem kw179 : (Cond.laysFinal "CarrierPaths" "CarrierPaths" "points" "LCarrierPaths$Points;" : Cond) ∈ TG := tg_1 (i := 179) (by decide +kernel) rfl
theorem kw181 : (Cond.laysFinal "CarrierPaths" "CarrierPaths" "roads" "LCarrierPaths$Roads;" : Cond) ∈ TG := tg_1 (i := 181) (by decide +kernel) rfl
theorem kw183 : (Cond.laysFinal "CarrierPaths" "CarrierPaths" "rings" "LCarrierPaths$Rings;" : Cond) ∈ TG := tg_1 (i := 183) (by decide +kernel) rfl
theorem kw185 : (Cond.laysFinal "CarrierPaths" "CarrierPaths" "fleet" "LCarrierPaths$Fleet;" : Cond) ∈ TG := tg_1 (i := 185) (by decide +kernel) rfl
theorem kw187 : (Cond.laysFinal "CarrierPaths" "CarrierPaths" "jobs" "LCarrierPaths$Jobs;" : Cond) ∈ TG := tg_1 (i := 187) (by decide +kernel) rfl
theorem kw189 : (Cond.laysFinal "CarrierPaths" "CarrierPaths" "choice" "LCarrierPaths$Choice;" : Cond) ∈ TG := tg_1 (i := 189) (by decide +kernel) rfl
theorem kw191 : (Cond.lays "CarrierPaths" "CarrierPaths" "now" "I" : Cond) ∈ TG := tg_1 (i := 191) (by decide +kernel) rfl
theorem kw199 : (Cond.instanceMethod ⟨"CarrierPaths$Points", "has", "(I)Z"⟩ : Cond) ∈ TG := tg_1 (i := 199) (by decide +kernel) rfl
theorem kw200 : (Cond.selects "CarrierPaths$Points" ⟨"CarrierPaths$Points", "has", "(I)Z"⟩ ⟨"CarrierPaths$Points", "has", "(I)Z"⟩ : Cond) ∈ TG := tg_1 (i := 200) (by decide +kernel) rfl
theorem kw201 : (Cond.code ⟨"CarrierPaths$Points", "has", "(I)Z"⟩ prog_5_method_3_code 2 (some .boolean) : Cond) ∈ TG := tg_1 (i := 201) (by decide +kernel) rfl
theorem kw255 : (Cond.instanceMethod ⟨"CarrierPaths$Roads", "leastTime", "(II)I"⟩ : Cond) ∈ TG := tg_2 (i := 15) (by decide +kernel) rfl
theorem kw256 : (Cond.selects "CarrierPaths$Roads" ⟨"CarrierPaths$Roads", "leastTime", "(II)I"⟩ ⟨"CarrierPaths$Roads", "leastTime", "(II)I"⟩ : Cond) ∈ TG := tg_2 (i := 16) (by decide +kernel) rfl
theorem kw257 : (Cond.code ⟨"CarrierPaths$Roads", "leastTime", "(II)I"⟩ prog_7_method_11_code 3 (some .int) : Cond) ∈ TG := tg_2 (i := 17) (by decide +kernel) rfl
theorem kw266 : (Cond.methodLink "CarrierPaths$Fleet" 37 ⟨"CarrierPaths$Fleet", "isOnPiece", "(I)Z"⟩ : Cond) ∈ TG := tg_2 (i := 26) (by decide +kernel) rfl
theorem kw267 : (Cond.instanceMethod ⟨"CarrierPaths$Fleet", "isOnPiece", "(I)Z"⟩ : Cond) ∈ TG := tg_2 (i := 27) (by decide +kernel) rfl
theorem kw268 : (Cond.selects "CarrierPaths$Fleet" ⟨"CarrierPaths$Fleet", "isOnPiece", "(I)Z"⟩ ⟨"CarrierPaths$Fleet", "isOnPiece", "(I)Z"⟩ : Cond) ∈ TG := tg_2 (i := 28) (by decide +kernel) rfl
theorem kw269 : (Cond.code ⟨"CarrierPaths$Fleet", "isOnPiece", "(I)Z"⟩ prog_3_method_12_code 2 (some .boolean) : Cond) ∈ TG := tg_2 (i := 29) (by decide +kernel) rfl
theorem kw279 : (Cond.methodLink "CarrierPaths$Choice" 31 ⟨"CarrierPaths$Choice", "findBest", "(I)V"⟩ : Cond) ∈ TG := tg_2 (i := 39) (by decide +kernel) rfl
theorem kw281 : (Cond.instanceMethod ⟨"CarrierPaths$Choice", "findBest", "(I)V"⟩ : Cond) ∈ TG := tg_2 (i := 41) (by decide +kernel) rfl
theorem kw282 : (Cond.code ⟨"CarrierPaths$Choice", "findBest", "(I)V"⟩ prog_2_method_6_code 3 none : Cond) ∈ TG := tg_2 (i := 42) (by decide +kernel) rfl
theorem kw283 : (Cond.methodLink "CarrierPaths$Choice" 39 ⟨"CarrierPaths$Choice", "mostWorth", "(II)I"⟩ : Cond) ∈ TG := tg_2 (i := 43) (by decide +kernel) rfl
theorem kw285 : (Cond.instanceMethod ⟨"CarrierPaths$Choice", "mostWorth", "(II)I"⟩ : Cond) ∈ TG := tg_2 (i := 45) (by decide +kernel) rfl
theorem kw286 : (Cond.code ⟨"CarrierPaths$Choice", "mostWorth", "(II)I"⟩ prog_2_method_7_code 5 (some .int) : Cond) ∈ TG := tg_2 (i := 46) (by decide +kernel) rfl
theorem kw287 : (Cond.methodLink "CarrierPaths$Choice" 42 ⟨"CarrierPaths$Choice", "bestFrom", "(II)I"⟩ : Cond) ∈ TG := tg_2 (i := 47) (by decide +kernel) rfl
theorem kw289 : (Cond.instanceMethod ⟨"CarrierPaths$Choice", "bestFrom", "(II)I"⟩ : Cond) ∈ TG := tg_2 (i := 49) (by decide +kernel) rfl
theorem kw290 : (Cond.code ⟨"CarrierPaths$Choice", "bestFrom", "(II)I"⟩ prog_2_method_12_code 3 (some .int) : Cond) ∈ TG := tg_2 (i := 50) (by decide +kernel) rfl
theorem kw291 : (Cond.methodLink "CarrierPaths$Choice" 45 ⟨"CarrierPaths$Choice", "canTake", "(III)Z"⟩ : Cond) ∈ TG := tg_2 (i := 51) (by decide +kernel) rfl
theorem kw293 : (Cond.instanceMethod ⟨"CarrierPaths$Choice", "canTake", "(III)Z"⟩ : Cond) ∈ TG := tg_2 (i := 53) (by decide +kernel) rfl
theorem kw294 : (Cond.code ⟨"CarrierPaths$Choice", "canTake", "(III)Z"⟩ prog_2_method_9_code 4 (some .boolean) : Cond) ∈ TG := tg_2 (i := 54) (by decide +kernel) rfl
theorem kw295 : (Cond.methodLink "CarrierPaths$Choice" 58 ⟨"CarrierPaths$Choice", "worthOf", "(II)I"⟩ : Cond) ∈ TG := tg_2 (i := 55) (by decide +kernel) rfl
theorem kw297 : (Cond.instanceMethod ⟨"CarrierPaths$Choice", "worthOf", "(II)I"⟩ : Cond) ∈ TG := tg_2 (i := 57) (by decide +kernel) rfl
theorem kw298 : (Cond.code ⟨"CarrierPaths$Choice", "worthOf", "(II)I"⟩ prog_2_method_11_code 3 (some .int) : Cond) ∈ TG := tg_2 (i := 58) (by decide +kernel) rfl
theorem kw299 : (Cond.methodLink "CarrierPaths$Choice" 49 ⟨"CarrierPaths$Choice", "worthWith", "(III)I"⟩ : Cond) ∈ TG := tg_2 (i := 59) (by decide +kernel) rfl
theorem kw301 : (Cond.instanceMethod ⟨"CarrierPaths$Choice", "worthWith", "(III)I"⟩ : Cond) ∈ TG := tg_2 (i := 61) (by decide +kernel) rfl
theorem kw302 : (Cond.code ⟨"CarrierPaths$Choice", "worthWith", "(III)I"⟩ prog_2_method_10_code 4 (some .int) : Cond) ∈ TG := tg_2 (i := 62) (by decide +kernel) rfl
theorem kw303 : (Cond.methodLink "CarrierPaths$Choice" 53 ⟨"java/lang/Math", "max", "(II)I"⟩ : Cond) ∈ TG := tg_2 (i := 63) (by decide +kernel) rfl
theorem kw304 : (Cond.methodLink "CarrierPaths$Choice" 35 ⟨"CarrierPaths$Choice", "leastCarrier", "(II)I"⟩ : Cond) ∈ TG := tg_2 (i := 64) (by decide +kernel) rfl
theorem kw306 : (Cond.instanceMethod ⟨"CarrierPaths$Choice", "leastCarrier", "(II)I"⟩ : Cond) ∈ TG := tg_2 (i := 66) (by decide +kernel) rfl
theorem kw307 : (Cond.code ⟨"CarrierPaths$Choice", "leastCarrier", "(II)I"⟩ prog_2_method_8_code 4 (some .int) : Cond) ∈ TG := tg_2 (i := 67) (by decide +kernel) rfl
theorem kw340 : (Cond.methodLink "CarrierPaths$Roads" 42 ⟨"CarrierPaths$Roads", "measureAnew", "()V"⟩ : Cond) ∈ TG := tg_2 (i := 100) (by decide +kernel) rfl
theorem kw342 : (Cond.instanceMethod ⟨"CarrierPaths$Roads", "measureAnew", "()V"⟩ : Cond) ∈ TG := tg_2 (i := 102) (by decide +kernel) rfl
theorem kw343 : (Cond.code ⟨"CarrierPaths$Roads", "measureAnew", "()V"⟩ prog_7_method_14_code 2 none : Cond) ∈ TG := tg_2 (i := 103) (by decide +kernel) rfl
theorem kw344 : (Cond.methodLink "CarrierPaths$Roads" 38 ⟨"CarrierPaths$Roads", "shortenBy", "(I)V"⟩ : Cond) ∈ TG := tg_2 (i := 104) (by decide +kernel) rfl
theorem kw346 : (Cond.instanceMethod ⟨"CarrierPaths$Roads", "shortenBy", "(I)V"⟩ : Cond) ∈ TG := tg_2 (i := 106) (by decide +kernel) rfl
theorem kw347 : (Cond.code ⟨"CarrierPaths$Roads", "shortenBy", "(I)V"⟩ prog_7_method_16_code 5 none : Cond) ∈ TG := tg_2 (i := 107) (by decide +kernel) rfl
theorem kw348 : (Cond.methodLink "CarrierPaths$Roads" 45 ⟨"CarrierPaths$Roads", "leastTime", "(II)I"⟩ : Cond) ∈ TG := tg_2 (i := 108) (by decide +kernel) rfl
theorem kw349 : (Cond.methodLink "CarrierPaths$Roads" 53 ⟨"java/lang/Math", "min", "(II)I"⟩ : Cond) ∈ TG := tg_2 (i := 109) (by decide +kernel) rfl
theorem kw422 : (Cond.methodLink "CarrierPaths$Points" 23 ⟨"CarrierPaths$Points", "has", "(I)Z"⟩ : Cond) ∈ TG := tg_2 (i := 182) (by decide +kernel) rfl
theorem kw596 : (Cond.methodLink "CarrierPaths$Jobs" 28 ⟨"CarrierPaths$Jobs", "isLoaded", "(I)Z"⟩ : Cond) ∈ TG := tg_3 (i := 116) (by decide +kernel) rfl
theorem kw597 : (Cond.instanceMethod ⟨"CarrierPaths$Jobs", "isLoaded", "(I)Z"⟩ : Cond) ∈ TG := tg_3 (i := 117) (by decide +kernel) rfl
theorem kw598 : (Cond.selects "CarrierPaths$Jobs" ⟨"CarrierPaths$Jobs", "isLoaded", "(I)Z"⟩ ⟨"CarrierPaths$Jobs", "isLoaded", "(I)Z"⟩ : Cond) ∈ TG := tg_3 (i := 118) (by decide +kernel) rfl
theorem kw599 : (Cond.code ⟨"CarrierPaths$Jobs", "isLoaded", "(I)Z"⟩ prog_4_method_10_code 2 (some .boolean) : Cond) ∈ TG := tg_3 (i := 119) (by decide +kernel) rfl
theorem kw605 : (Cond.instanceMethod ⟨"CarrierPaths$Roads", "firstPiece", "(II)I"⟩ : Cond) ∈ TG := tg_3 (i := 125) (by decide +kernel) rfl
theorem kw606 : (Cond.selects "CarrierPaths$Roads" ⟨"CarrierPaths$Roads", "firstPiece", "(II)I"⟩ ⟨"CarrierPaths$Roads", "firstPiece", "(II)I"⟩ : Cond) ∈ TG := tg_3 (i := 126) (by decide +kernel) rfl
theorem kw607 : (Cond.code ⟨"CarrierPaths$Roads", "firstPiece", "(II)I"⟩ prog_7_method_12_code 5 (some .int) : Cond) ∈ TG := tg_3 (i := 127) (by decide +kernel) rfl
theorem kw700 : (Cond.methodLink "CarrierPaths$Roads" 50 ⟨"CarrierPaths$Roads", "firstPiece", "(II)I"⟩ : Cond) ∈ TG := tg_3 (i := 220) (by decide +kernel) rfl
theorem kw755 : (Cond.fieldLink "CarrierPathsModel" 75 "CarrierPathsModel" "thrown" "I" : Cond) ∈ TG := tg_4 (i := 35) (by decide +kernel) rfl
theorem kw756 : (Cond.fieldLink "CarrierPathsModel" 71 "CarrierPathsModel" "points" "I" : Cond) ∈ TG := tg_4 (i := 36) (by decide +kernel) rfl
theorem kw757 : (Cond.fieldLink "CarrierPathsModel" 7 "CarrierPathsModel" "places" "[I" : Cond) ∈ TG := tg_4 (i := 37) (by decide +kernel) rfl
theorem kw758 : (Cond.fieldLink "CarrierPathsModel" 13 "CarrierPathsModel" "charger" "[Z" : Cond) ∈ TG := tg_4 (i := 38) (by decide +kernel) rfl
theorem kw759 : (Cond.fieldLink "CarrierPathsModel" 82 "CarrierPathsModel" "pieces" "I" : Cond) ∈ TG := tg_4 (i := 39) (by decide +kernel) rfl
theorem kw760 : (Cond.fieldLink "CarrierPathsModel" 17 "CarrierPathsModel" "first" "[I" : Cond) ∈ TG := tg_4 (i := 40) (by decide +kernel) rfl
theorem kw761 : (Cond.fieldLink "CarrierPathsModel" 20 "CarrierPathsModel" "second" "[I" : Cond) ∈ TG := tg_4 (i := 41) (by decide +kernel) rfl
theorem kw762 : (Cond.fieldLink "CarrierPathsModel" 23 "CarrierPathsModel" "time" "[I" : Cond) ∈ TG := tg_4 (i := 42) (by decide +kernel) rfl
theorem kw763 : (Cond.fieldLink "CarrierPathsModel" 26 "CarrierPathsModel" "closed" "[Z" : Cond) ∈ TG := tg_4 (i := 43) (by decide +kernel) rfl
theorem kw764 : (Cond.fieldLink "CarrierPathsModel" 111 "CarrierPathsModel" "rings" "I" : Cond) ∈ TG := tg_4 (i := 44) (by decide +kernel) rfl
theorem kw765 : (Cond.fieldLink "CarrierPathsModel" 29 "CarrierPathsModel" "ring" "[I" : Cond) ∈ TG := tg_4 (i := 45) (by decide +kernel) rfl
theorem kw766 : (Cond.fieldLink "CarrierPathsModel" 78 "CarrierPathsModel" "carriers" "I" : Cond) ∈ TG := tg_4 (i := 46) (by decide +kernel) rfl
theorem kw767 : (Cond.fieldLink "CarrierPathsModel" 32 "CarrierPathsModel" "at" "[I" : Cond) ∈ TG := tg_4 (i := 47) (by decide +kernel) rfl
theorem kw768 : (Cond.fieldLink "CarrierPathsModel" 35 "CarrierPathsModel" "on" "[I" : Cond) ∈ TG := tg_4 (i := 48) (by decide +kernel) rfl
theorem kw769 : (Cond.fieldLink "CarrierPathsModel" 38 "CarrierPathsModel" "until" "[I" : Cond) ∈ TG := tg_4 (i := 49) (by decide +kernel) rfl
theorem kw770 : (Cond.fieldLink "CarrierPathsModel" 41 "CarrierPathsModel" "jobOf" "[I" : Cond) ∈ TG := tg_4 (i := 50) (by decide +kernel) rfl
theorem kw771 : (Cond.fieldLink "CarrierPathsModel" 44 "CarrierPathsModel" "charge" "[I" : Cond) ∈ TG := tg_4 (i := 51) (by decide +kernel) rfl
theorem kw772 : (Cond.fieldLink "CarrierPathsModel" 47 "CarrierPathsModel" "done" "[I" : Cond) ∈ TG := tg_4 (i := 52) (by decide +kernel) rfl
theorem kw773 : (Cond.fieldLink "CarrierPathsModel" 50 "CarrierPathsModel" "empty" "[I" : Cond) ∈ TG := tg_4 (i := 53) (by decide +kernel) rfl
theorem kw774 : (Cond.fieldLink "CarrierPathsModel" 114 "CarrierPathsModel" "jobs" "I" : Cond) ∈ TG := tg_4 (i := 54) (by decide +kernel) rfl
theorem kw775 : (Cond.fieldLink "CarrierPathsModel" 53 "CarrierPathsModel" "from" "[I" : Cond) ∈ TG := tg_4 (i := 55) (by decide +kernel) rfl
theorem kw776 : (Cond.fieldLink "CarrierPathsModel" 56 "CarrierPathsModel" "to" "[I" : Cond) ∈ TG := tg_4 (i := 56) (by decide +kernel) rfl
theorem kw777 : (Cond.fieldLink "CarrierPathsModel" 59 "CarrierPathsModel" "state" "[I" : Cond) ∈ TG := tg_4 (i := 57) (by decide +kernel) rfl
theorem kw778 : (Cond.fieldLink "CarrierPathsModel" 62 "CarrierPathsModel" "carrierOf" "[I" : Cond) ∈ TG := tg_4 (i := 58) (by decide +kernel) rfl
theorem kw779 : (Cond.fieldLink "CarrierPathsModel" 136 "CarrierPathsModel" "now" "I" : Cond) ∈ TG := tg_4 (i := 59) (by decide +kernel) rfl
theorem kw780 : (Cond.fieldLink "CarrierPathsModel" 65 "CarrierPathsModel" "far" "[I" : Cond) ∈ TG := tg_4 (i := 60) (by decide +kernel) rfl
theorem kw781 : (Cond.fieldLink "CarrierPathsModel" 68 "CarrierPathsModel" "best" "[I" : Cond) ∈ TG := tg_4 (i := 61) (by decide +kernel) rfl
theorem kw782 : (Cond.lays "CarrierPathsModel" "CarrierPathsModel" "thrown" "I" : Cond) ∈ TG := tg_4 (i := 62) (by decide +kernel) rfl
theorem kw784 : (Cond.laysFinal "CarrierPathsModel" "CarrierPathsModel" "points" "I" : Cond) ∈ TG := tg_4 (i := 64) (by decide +kernel) rfl
theorem kw786 : (Cond.laysFinal "CarrierPathsModel" "CarrierPathsModel" "places" "[I" : Cond) ∈ TG := tg_4 (i := 66) (by decide +kernel) rfl
theorem kw788 : (Cond.laysFinal "CarrierPathsModel" "CarrierPathsModel" "charger" "[Z" : Cond) ∈ TG := tg_4 (i := 68) (by decide +kernel) rfl
theorem kw790 : (Cond.lays "CarrierPathsModel" "CarrierPathsModel" "pieces" "I" : Cond) ∈ TG := tg_4 (i := 70) (by decide +kernel) rfl
theorem kw792 : (Cond.laysFinal "CarrierPathsModel" "CarrierPathsModel" "first" "[I" : Cond) ∈ TG := tg_4 (i := 72) (by decide +kernel) rfl
theorem kw794 : (Cond.laysFinal "CarrierPathsModel" "CarrierPathsModel" "second" "[I" : Cond) ∈ TG := tg_4 (i := 74) (by decide +kernel) rfl
theorem kw796 : (Cond.laysFinal "CarrierPathsModel" "CarrierPathsModel" "time" "[I" : Cond) ∈ TG := tg_4 (i := 76) (by decide +kernel) rfl
theorem kw798 : (Cond.laysFinal "CarrierPathsModel" "CarrierPathsModel" "closed" "[Z" : Cond) ∈ TG := tg_4 (i := 78) (by decide +kernel) rfl
theorem kw800 : (Cond.lays "CarrierPathsModel" "CarrierPathsModel" "rings" "I" : Cond) ∈ TG := tg_4 (i := 80) (by decide +kernel) rfl
theorem kw802 : (Cond.laysFinal "CarrierPathsModel" "CarrierPathsModel" "ring" "[I" : Cond) ∈ TG := tg_4 (i := 82) (by decide +kernel) rfl
theorem kw804 : (Cond.lays "CarrierPathsModel" "CarrierPathsModel" "carriers" "I" : Cond) ∈ TG := tg_4 (i := 84) (by decide +kernel) rfl
theorem kw806 : (Cond.laysFinal "CarrierPathsModel" "CarrierPathsModel" "at" "[I" : Cond) ∈ TG := tg_4 (i := 86) (by decide +kernel) rfl
theorem kw808 : (Cond.laysFinal "CarrierPathsModel" "CarrierPathsModel" "on" "[I" : Cond) ∈ TG := tg_4 (i := 88) (by decide +kernel) rfl
theorem kw810 : (Cond.laysFinal "CarrierPathsModel" "CarrierPathsModel" "until" "[I" : Cond) ∈ TG := tg_4 (i := 90) (by decide +kernel) rfl
theorem kw812 : (Cond.laysFinal "CarrierPathsModel" "CarrierPathsModel" "jobOf" "[I" : Cond) ∈ TG := tg_4 (i := 92) (by decide +kernel) rfl
theorem kw814 : (Cond.laysFinal "CarrierPathsModel" "CarrierPathsModel" "charge" "[I" : Cond) ∈ TG := tg_4 (i := 94) (by decide +kernel) rfl
theorem kw816 : (Cond.laysFinal "CarrierPathsModel" "CarrierPathsModel" "done" "[I" : Cond) ∈ TG := tg_4 (i := 96) (by decide +kernel) rfl
theorem kw818 : (Cond.laysFinal "CarrierPathsModel" "CarrierPathsModel" "empty" "[I" : Cond) ∈ TG := tg_4 (i := 98) (by decide +kernel) rfl
theorem kw820 : (Cond.lays "CarrierPathsModel" "CarrierPathsModel" "jobs" "I" : Cond) ∈ TG := tg_4 (i := 100) (by decide +kernel) rfl
theorem kw822 : (Cond.laysFinal "CarrierPathsModel" "CarrierPathsModel" "from" "[I" : Cond) ∈ TG := tg_4 (i := 102) (by decide +kernel) rfl
theorem kw824 : (Cond.laysFinal "CarrierPathsModel" "CarrierPathsModel" "to" "[I" : Cond) ∈ TG := tg_4 (i := 104) (by decide +kernel) rfl
theorem kw826 : (Cond.laysFinal "CarrierPathsModel" "CarrierPathsModel" "state" "[I" : Cond) ∈ TG := tg_4 (i := 106) (by decide +kernel) rfl
theorem kw828 : (Cond.laysFinal "CarrierPathsModel" "CarrierPathsModel" "carrierOf" "[I" : Cond) ∈ TG := tg_4 (i := 108) (by decide +kernel) rfl
theorem kw830 : (Cond.lays "CarrierPathsModel" "CarrierPathsModel" "now" "I" : Cond) ∈ TG := tg_4 (i := 110) (by decide +kernel) rfl
theorem kw832 : (Cond.laysFinal "CarrierPathsModel" "CarrierPathsModel" "far" "[I" : Cond) ∈ TG := tg_4 (i := 112) (by decide +kernel) rfl
theorem kw834 : (Cond.laysFinal "CarrierPathsModel" "CarrierPathsModel" "best" "[I" : Cond) ∈ TG := tg_4 (i := 114) (by decide +kernel) rfl
theorem kw845 : (Cond.methodLink "CarrierPathsModel" 89 ⟨"CarrierPathsModel", "isPoint", "(I)Z"⟩ : Cond) ∈ TG := tg_4 (i := 125) (by decide +kernel) rfl
theorem kw847 : (Cond.instanceMethod ⟨"CarrierPathsModel", "isPoint", "(I)Z"⟩ : Cond) ∈ TG := tg_4 (i := 127) (by decide +kernel) rfl
theorem kw848 : (Cond.code ⟨"CarrierPathsModel", "isPoint", "(I)Z"⟩ prog_9_method_5_code 2 (some .boolean) : Cond) ∈ TG := tg_4 (i := 128) (by decide +kernel) rfl
theorem kw849 : (Cond.methodLink "CarrierPathsModel" 93 ⟨"CarrierPathsModel", "in", "(III)Z"⟩ : Cond) ∈ TG := tg_4 (i := 129) (by decide +kernel) rfl
theorem kw850 : (Cond.static ⟨"CarrierPathsModel", "in", "(III)Z"⟩ : Cond) ∈ TG := tg_4 (i := 130) (by decide +kernel) rfl
theorem kw851 : (Cond.code ⟨"CarrierPathsModel", "in", "(III)Z"⟩ prog_9_method_4_code 3 (some .boolean) : Cond) ∈ TG := tg_4 (i := 131) (by decide +kernel) rfl
theorem kw852 : (Cond.methodLink "CarrierPathsModel" 97 ⟨"CarrierPathsModel", "fails", "(I)I"⟩ : Cond) ∈ TG := tg_4 (i := 132) (by decide +kernel) rfl
theorem kw854 : (Cond.instanceMethod ⟨"CarrierPathsModel", "fails", "(I)I"⟩ : Cond) ∈ TG := tg_4 (i := 134) (by decide +kernel) rfl
theorem kw855 : (Cond.code ⟨"CarrierPathsModel", "fails", "(I)I"⟩ prog_9_method_3_code 2 (some .int) : Cond) ∈ TG := tg_4 (i := 135) (by decide +kernel) rfl
theorem kw856 : (Cond.methodLink "CarrierPathsModel" 85 ⟨"CarrierPathsModel", "timesTo", "(I)V"⟩ : Cond) ∈ TG := tg_4 (i := 136) (by decide +kernel) rfl
theorem kw858 : (Cond.instanceMethod ⟨"CarrierPathsModel", "timesTo", "(I)V"⟩ : Cond) ∈ TG := tg_4 (i := 138) (by decide +kernel) rfl
theorem kw859 : (Cond.code ⟨"CarrierPathsModel", "timesTo", "(I)V"⟩ prog_9_method_7_code 4 none : Cond) ∈ TG := tg_4 (i := 139) (by decide +kernel) rfl
theorem kw860 : (Cond.constant "CarrierPathsModel" 81 (1000000000) : Cond) ∈ TG := tg_4 (i := 140) (by decide +kernel) rfl
theorem kw861 : (Cond.methodLink "CarrierPathsModel" 101 ⟨"CarrierPathsModel", "pieceFrom", "(I)I"⟩ : Cond) ∈ TG := tg_4 (i := 141) (by decide +kernel) rfl
theorem kw863 : (Cond.instanceMethod ⟨"CarrierPathsModel", "pieceFrom", "(I)I"⟩ : Cond) ∈ TG := tg_4 (i := 143) (by decide +kernel) rfl
theorem kw864 : (Cond.code ⟨"CarrierPathsModel", "pieceFrom", "(I)I"⟩ prog_9_method_8_code 5 (some .int) : Cond) ∈ TG := tg_4 (i := 144) (by decide +kernel) rfl
theorem kw873 : (Cond.methodLink "CarrierPathsModel" 108 ⟨"CarrierPathsModel", "standing", "(I)I"⟩ : Cond) ∈ TG := tg_4 (i := 153) (by decide +kernel) rfl
theorem kw875 : (Cond.instanceMethod ⟨"CarrierPathsModel", "standing", "(I)I"⟩ : Cond) ∈ TG := tg_4 (i := 155) (by decide +kernel) rfl
theorem kw876 : (Cond.code ⟨"CarrierPathsModel", "standing", "(I)I"⟩ prog_9_method_12_code 4 (some .int) : Cond) ∈ TG := tg_4 (i := 156) (by decide +kernel) rfl
theorem kw897 : (Cond.methodLink "CarrierPathsModel" 121 ⟨"CarrierPathsModel", "reckon", "()V"⟩ : Cond) ∈ TG := tg_4 (i := 177) (by decide +kernel) rfl
theorem kw899 : (Cond.instanceMethod ⟨"CarrierPathsModel", "reckon", "()V"⟩ : Cond) ∈ TG := tg_4 (i := 179) (by decide +kernel) rfl
theorem kw900 : (Cond.code ⟨"CarrierPathsModel", "reckon", "()V"⟩ prog_9_method_21_code 6 none : Cond) ∈ TG := tg_4 (i := 180) (by decide +kernel) rfl
theorem kw901 : (Cond.methodLink "CarrierPathsModel" 118 ⟨"CarrierPathsModel", "worth", "(II)I"⟩ : Cond) ∈ TG := tg_4 (i := 181) (by decide +kernel) rfl
theorem kw903 : (Cond.instanceMethod ⟨"CarrierPathsModel", "worth", "(II)I"⟩ : Cond) ∈ TG := tg_4 (i := 183) (by decide +kernel) rfl
theorem kw904 : (Cond.code ⟨"CarrierPathsModel", "worth", "(II)I"⟩ prog_9_method_20_code 4 (some .int) : Cond) ∈ TG := tg_4 (i := 184) (by decide +kernel) rfl
theorem kw905 : (Cond.methodLink "CarrierPathsModel" 104 ⟨"CarrierPathsModel", "timeTo", "(II)I"⟩ : Cond) ∈ TG := tg_4 (i := 185) (by decide +kernel) rfl
theorem kw907 : (Cond.instanceMethod ⟨"CarrierPathsModel", "timeTo", "(II)I"⟩ : Cond) ∈ TG := tg_4 (i := 187) (by decide +kernel) rfl
theorem kw908 : (Cond.code ⟨"CarrierPathsModel", "timeTo", "(II)I"⟩ prog_9_method_9_code 3 (some .int) : Cond) ∈ TG := tg_4 (i := 188) (by decide +kernel) rfl
theorem kw909 : (Cond.constant "CarrierPathsModel" 117 (100000) : Cond) ∈ TG := tg_4 (i := 189) (by decide +kernel) rfl
theorem kw914 : (Cond.methodLink "CarrierPathsModel" 139 ⟨"CarrierPathsModel", "isCarrier", "(I)Z"⟩ : Cond) ∈ TG := tg_4 (i := 194) (by decide +kernel) rfl
theorem kw916 : (Cond.instanceMethod ⟨"CarrierPathsModel", "isCarrier", "(I)Z"⟩ : Cond) ∈ TG := tg_4 (i := 196) (by decide +kernel) rfl
theorem kw917 : (Cond.code ⟨"CarrierPathsModel", "isCarrier", "(I)Z"⟩ prog_9_method_6_code 2 (some .boolean) : Cond) ∈ TG := tg_4 (i := 197) (by decide +kernel) rfl
theorem kw918 : (Cond.methodLink "CarrierPathsModel" 142 ⟨"CarrierPathsModel", "goesOn", "(II)I"⟩ : Cond) ∈ TG := tg_4 (i := 198) (by decide +kernel) rfl
theorem kw920 : (Cond.instanceMethod ⟨"CarrierPathsModel", "goesOn", "(II)I"⟩ : Cond) ∈ TG := tg_4 (i := 200) (by decide +kernel) rfl
theorem kw921 : (Cond.code ⟨"CarrierPathsModel", "goesOn", "(II)I"⟩ prog_9_method_25_code 5 (some .int) : Cond) ∈ TG := tg_4 (i := 201) (by decide +kernel) rfl
theorem kw922 : (Cond.methodLink "CarrierPathsModel" 127 ⟨"CarrierPathsModel", "isTaken", "(I)Z"⟩ : Cond) ∈ TG := tg_4 (i := 202) (by decide +kernel) rfl
theorem kw924 : (Cond.instanceMethod ⟨"CarrierPathsModel", "isTaken", "(I)Z"⟩ : Cond) ∈ TG := tg_4 (i := 204) (by decide +kernel) rfl
theorem kw925 : (Cond.code ⟨"CarrierPathsModel", "isTaken", "(I)Z"⟩ prog_9_method_24_code 4 (some .boolean) : Cond) ∈ TG := tg_4 (i := 205) (by decide +kernel) rfl
theorem kw926 : (Cond.methodLink "CarrierPathsModel" 130 ⟨"CarrierPathsModel", "isBarred", "(I)Z"⟩ : Cond) ∈ TG := tg_4 (i := 206) (by decide +kernel) rfl
theorem kw928 : (Cond.instanceMethod ⟨"CarrierPathsModel", "isBarred", "(I)Z"⟩ : Cond) ∈ TG := tg_4 (i := 208) (by decide +kernel) rfl
theorem kw929 : (Cond.code ⟨"CarrierPathsModel", "isBarred", "(I)Z"⟩ prog_9_method_23_code 4 (some .boolean) : Cond) ∈ TG := tg_4 (i := 209) (by decide +kernel) rfl
theorem kw930 : (Cond.methodLink "CarrierPathsModel" 124 ⟨"CarrierPathsModel", "freeIn", "(I)I"⟩ : Cond) ∈ TG := tg_4 (i := 210) (by decide +kernel) rfl
theorem kw932 : (Cond.instanceMethod ⟨"CarrierPathsModel", "freeIn", "(I)I"⟩ : Cond) ∈ TG := tg_4 (i := 212) (by decide +kernel) rfl
theorem kw933 : (Cond.code ⟨"CarrierPathsModel", "freeIn", "(I)I"⟩ prog_9_method_13_code 4 (some .int) : Cond) ∈ TG := tg_4 (i := 213) (by decide +kernel) rfl
theorem kw934 : (Cond.methodLink "CarrierPathsModel" 133 ⟨"CarrierPathsModel", "toCharger", "(I)I"⟩ : Cond) ∈ TG := tg_4 (i := 214) (by decide +kernel) rfl
theorem kw936 : (Cond.instanceMethod ⟨"CarrierPathsModel", "toCharger", "(I)I"⟩ : Cond) ∈ TG := tg_4 (i := 216) (by decide +kernel) rfl
theorem kw937 : (Cond.code ⟨"CarrierPathsModel", "toCharger", "(I)I"⟩ prog_9_method_11_code 5 (some .int) : Cond) ∈ TG := tg_4 (i := 217) (by decide +kernel) rfl
theorem kw942 : (Cond.constant "CarrierPathsModel" 145 (1000000) : Cond) ∈ TG := tg_4 (i := 222) (by decide +kernel) rfl
theorem kw963 : (Cond.methodLink "CarrierPathsModel" 146 ⟨"CarrierPathsModel", "ofPoint", "(I)I"⟩ : Cond) ∈ TG := tg_5 (i := 3) (by decide +kernel) rfl
theorem kw965 : (Cond.instanceMethod ⟨"CarrierPathsModel", "ofPoint", "(I)I"⟩ : Cond) ∈ TG := tg_5 (i := 5) (by decide +kernel) rfl
theorem kw966 : (Cond.code ⟨"CarrierPathsModel", "ofPoint", "(I)I"⟩ prog_9_method_32_code 3 (some .int) : Cond) ∈ TG := tg_5 (i := 6) (by decide +kernel) rfl
theorem in_Points : ∀ w ∈ u_ws "CarrierPaths$Points" F_Points 3, w ∈ TG := List.forall_mem_cons.mpr ⟨kw39, List.forall_mem_cons.mpr ⟨kw41, List.forall_mem_cons.mpr ⟨kw43, fun _ h => absurd h List.not_mem_nil⟩⟩⟩
theorem in_Roads : ∀ w ∈ u_ws "CarrierPaths$Roads" F_Roads 7, w ∈ TG := List.forall_mem_cons.mpr ⟨kw66, List.forall_mem_cons.mpr ⟨kw68, List.forall_mem_cons.mpr ⟨kw70, List.forall_mem_cons.mpr ⟨kw72, List.forall_mem_cons.mpr ⟨kw74, List.forall_mem_cons.mpr ⟨kw76, List.forall_mem_cons.mpr ⟨kw78, fun _ h => absurd h List.not_mem_nil⟩⟩⟩⟩⟩⟩⟩
theorem in_Rings : ∀ w ∈ u_ws "CarrierPaths$Rings" F_Rings 2, w ∈ TG := List.forall_mem_cons.mpr ⟨kw89, List.forall_mem_cons.mpr ⟨kw91, fun _ h => absurd h List.not_mem_nil⟩⟩
theorem in_Fleet : ∀ w ∈ u_ws "CarrierPaths$Fleet" F_Fleet 8, w ∈ TG := List.forall_mem_cons.mpr ⟨kw108, List.forall_mem_cons.mpr ⟨kw110, List.forall_mem_cons.mpr ⟨kw112, List.forall_mem_cons.mpr ⟨kw114, List.forall_mem_cons.mpr ⟨kw116, List.forall_mem_cons.mpr ⟨kw118, List.forall_mem_cons.mpr ⟨kw120, List.forall_mem_cons.mpr ⟨kw122, fun _ h => absurd h List.not_mem_nil⟩⟩⟩⟩⟩⟩⟩⟩
theorem in_Jobs : ∀ w ∈ u_ws "CarrierPaths$Jobs" F_Jobs 5, w ∈ TG := List.forall_mem_cons.mpr ⟨kw136, List.forall_mem_cons.mpr ⟨kw138, List.forall_mem_cons.mpr ⟨kw140, List.forall_mem_cons.mpr ⟨kw142, List.forall_mem_cons.mpr ⟨kw144, fun _ h => absurd h List.not_mem_nil⟩⟩⟩⟩⟩
theorem in_Choice : ∀ w ∈ u_ws "CarrierPaths$Choice" F_Choice 6, w ∈ TG := List.forall_mem_cons.mpr ⟨kw159, List.forall_mem_cons.mpr ⟨kw161, List.forall_mem_cons.mpr ⟨kw163, List.forall_mem_cons.mpr ⟨kw165, List.forall_mem_cons.mpr ⟨kw167, List.forall_mem_cons.mpr ⟨kw169, fun _ h => absurd h List.not_mem_nil⟩⟩⟩⟩⟩⟩
theorem in_Model : ∀ w ∈ u_ws "CarrierPathsModel" F_Model 27, w ∈ TG := List.forall_mem_cons.mpr ⟨kw782, List.forall_mem_cons.mpr ⟨kw784, List.forall_mem_cons.mpr ⟨kw786, List.forall_mem_cons.mpr ⟨kw788, List.forall_mem_cons.mpr ⟨kw790, List.forall_mem_cons.mpr ⟨kw792, List.forall_mem_cons.mpr ⟨kw794, List.forall_mem_cons.mpr ⟨kw796, List.forall_mem_cons.mpr ⟨kw798, List.forall_mem_cons.mpr ⟨kw800, List.forall_mem_cons.mpr ⟨kw802, List.forall_mem_cons.mpr ⟨kw804, List.forall_mem_cons.mpr ⟨kw806, List.forall_mem_cons.mpr ⟨kw808, List.forall_mem_cons.mpr ⟨kw810, List.forall_mem_cons.mpr ⟨kw812, List.forall_mem_cons.mpr ⟨kw814, List.forall_mem_cons.mpr ⟨kw816, List.forall_mem_cons.mpr ⟨kw818, List.forall_mem_cons.mpr ⟨kw820, List.forall_mem_cons.mpr ⟨kw822, List.forall_mem_cons.mpr ⟨kw824, List.forall_mem_cons.mpr ⟨kw826, List.forall_mem_cons.mpr ⟨kw828, List.forall_mem_cons.mpr ⟨kw830, List.forall_mem_cons.mpr ⟨kw832, List.forall_mem_cons.mpr ⟨kw834, fun _ h => absurd h List.not_mem_nil⟩⟩⟩⟩⟩⟩⟩⟩⟩⟩⟩⟩⟩⟩⟩⟩⟩⟩⟩⟩⟩⟩⟩⟩⟩⟩⟩
theorem in_Face : ∀ w ∈ u_ws "CarrierPaths" F_Face 7, w ∈ TG := List.forall_mem_cons.mpr ⟨kw179, List.forall_mem_cons.mpr ⟨kw181, List.forall_mem_cons.mpr ⟨kw183, List.forall_mem_cons.mpr ⟨kw185, List.forall_mem_cons.mpr ⟨kw187, List.forall_mem_cons.mpr ⟨kw189, List.forall_mem_cons.mpr ⟨kw191, fun _ h => absurd h List.not_mem_nil⟩⟩⟩⟩⟩⟩⟩
