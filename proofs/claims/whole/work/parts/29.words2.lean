theorem kp1 : (Cond.selects "CarrierPaths" ⟨"CarrierPaths", "offerJobs", "()V"⟩ ⟨"CarrierPaths", "offerJobs", "()V"⟩ : Cond) ∈ TG := tg_p (i := 1) (by decide +kernel) rfl
theorem kp2 : (Cond.selects "CarrierPaths" ⟨"CarrierPaths", "emptyTravel", "(II)I"⟩ ⟨"CarrierPaths", "emptyTravel", "(II)I"⟩ : Cond) ∈ TG := tg_p (i := 2) (by decide +kernel) rfl
theorem kp10 : (Cond.selects "CarrierPaths" ⟨"CarrierPaths", "giveOut", "()I"⟩ ⟨"CarrierPaths", "giveOut", "()I"⟩ : Cond) ∈ TG := tg_p (i := 10) (by decide +kernel) rfl
theorem kp13 : (Cond.selects "CarrierPaths" ⟨"CarrierPaths", "countInAll", "(I)I"⟩ ⟨"CarrierPaths", "countInAll", "(I)I"⟩ : Cond) ∈ TG := tg_p (i := 13) (by decide +kernel) rfl
theorem kp14 : (Cond.selects "CarrierPaths" ⟨"CarrierPaths", "freePlaces", "(I)I"⟩ ⟨"CarrierPaths", "freePlaces", "(I)I"⟩ : Cond) ∈ TG := tg_p (i := 14) (by decide +kernel) rfl
theorem kp16 : (Cond.selects "CarrierPaths" ⟨"CarrierPaths", "isFull", "(I)Z"⟩ ⟨"CarrierPaths", "isFull", "(I)Z"⟩ : Cond) ∈ TG := tg_p (i := 16) (by decide +kernel) rfl
theorem kp18 : (Cond.selects "CarrierPaths" ⟨"CarrierPaths", "fillsRing", "(II)Z"⟩ ⟨"CarrierPaths", "fillsRing", "(II)Z"⟩ : Cond) ∈ TG := tg_p (i := 18) (by decide +kernel) rfl
theorem kp19 : (Cond.selects "CarrierPaths" ⟨"CarrierPaths", "timeToCharger", "(I)I"⟩ ⟨"CarrierPaths", "timeToCharger", "(I)I"⟩ : Cond) ∈ TG := tg_p (i := 19) (by decide +kernel) rfl
theorem kw1 : (Cond.initialized "CarrierPaths" : Cond) ∈ TG := tg_1 (i := 1) (by decide +kernel) rfl
theorem kw5 : (Cond.initialized "CarrierPaths$Rings" : Cond) ∈ TG := tg_1 (i := 5) (by decide +kernel) rfl
theorem kw24 : (Cond.methodLink "CarrierPaths" 9 ⟨"java/lang/Math", "min", "(II)I"⟩ : Cond) ∈ TG := tg_1 (i := 24) (by decide +kernel) rfl
theorem kw172 : (Cond.fieldLink "CarrierPaths" 23 "CarrierPaths" "points" "LCarrierPaths$Points;" : Cond) ∈ TG := tg_1 (i := 172) (by decide +kernel) rfl
theorem kw173 : (Cond.fieldLink "CarrierPaths" 30 "CarrierPaths" "roads" "LCarrierPaths$Roads;" : Cond) ∈ TG := tg_1 (i := 173) (by decide +kernel) rfl
theorem kw174 : (Cond.fieldLink "CarrierPaths" 37 "CarrierPaths" "rings" "LCarrierPaths$Rings;" : Cond) ∈ TG := tg_1 (i := 174) (by decide +kernel) rfl
theorem kw175 : (Cond.fieldLink "CarrierPaths" 44 "CarrierPaths" "fleet" "LCarrierPaths$Fleet;" : Cond) ∈ TG := tg_1 (i := 175) (by decide +kernel) rfl
theorem kw176 : (Cond.fieldLink "CarrierPaths" 51 "CarrierPaths" "jobs" "LCarrierPaths$Jobs;" : Cond) ∈ TG := tg_1 (i := 176) (by decide +kernel) rfl
theorem kw177 : (Cond.fieldLink "CarrierPaths" 58 "CarrierPaths" "choice" "LCarrierPaths$Choice;" : Cond) ∈ TG := tg_1 (i := 177) (by decide +kernel) rfl
theorem kw178 : (Cond.fieldLink "CarrierPaths" 62 "CarrierPaths" "now" "I" : Cond) ∈ TG := tg_1 (i := 178) (by decide +kernel) rfl
theorem kw198 : (Cond.methodLink "CarrierPaths" 92 ⟨"CarrierPaths$Points", "has", "(I)Z"⟩ : Cond) ∈ TG := tg_1 (i := 198) (by decide +kernel) rfl
theorem kw202 : (Cond.methodLink "CarrierPaths" 96 ⟨"CarrierPaths$Fleet", "boundFor", "(I)I"⟩ : Cond) ∈ TG := tg_1 (i := 202) (by decide +kernel) rfl
theorem kw203 : (Cond.instanceMethod ⟨"CarrierPaths$Fleet", "boundFor", "(I)I"⟩ : Cond) ∈ TG := tg_1 (i := 203) (by decide +kernel) rfl
theorem kw204 : (Cond.selects "CarrierPaths$Fleet" ⟨"CarrierPaths$Fleet", "boundFor", "(I)I"⟩ ⟨"CarrierPaths$Fleet", "boundFor", "(I)I"⟩ : Cond) ∈ TG := tg_1 (i := 204) (by decide +kernel) rfl
theorem kw205 : (Cond.code ⟨"CarrierPaths$Fleet", "boundFor", "(I)I"⟩ prog_3_method_15_code 4 (some .int) : Cond) ∈ TG := tg_1 (i := 205) (by decide +kernel) rfl
theorem kw206 : (Cond.methodLink "CarrierPaths" 100 ⟨"CarrierPaths$Points", "setPlaces", "(II)V"⟩ : Cond) ∈ TG := tg_1 (i := 206) (by decide +kernel) rfl
theorem kw207 : (Cond.instanceMethod ⟨"CarrierPaths$Points", "setPlaces", "(II)V"⟩ : Cond) ∈ TG := tg_1 (i := 207) (by decide +kernel) rfl
theorem kw208 : (Cond.selects "CarrierPaths$Points" ⟨"CarrierPaths$Points", "setPlaces", "(II)V"⟩ ⟨"CarrierPaths$Points", "setPlaces", "(II)V"⟩ : Cond) ∈ TG := tg_1 (i := 208) (by decide +kernel) rfl
theorem kw209 : (Cond.code ⟨"CarrierPaths$Points", "setPlaces", "(II)V"⟩ prog_5_method_7_code 3 none : Cond) ∈ TG := tg_1 (i := 209) (by decide +kernel) rfl
theorem kw214 : (Cond.methodLink "CarrierPaths" 104 ⟨"CarrierPaths$Points", "hasCharger", "(I)Z"⟩ : Cond) ∈ TG := tg_1 (i := 214) (by decide +kernel) rfl
theorem kw215 : (Cond.instanceMethod ⟨"CarrierPaths$Points", "hasCharger", "(I)Z"⟩ : Cond) ∈ TG := tg_1 (i := 215) (by decide +kernel) rfl
theorem kw216 : (Cond.selects "CarrierPaths$Points" ⟨"CarrierPaths$Points", "hasCharger", "(I)Z"⟩ ⟨"CarrierPaths$Points", "hasCharger", "(I)Z"⟩ : Cond) ∈ TG := tg_1 (i := 216) (by decide +kernel) rfl
theorem kw217 : (Cond.code ⟨"CarrierPaths$Points", "hasCharger", "(I)Z"⟩ prog_5_method_8_code 2 (some .boolean) : Cond) ∈ TG := tg_1 (i := 217) (by decide +kernel) rfl
theorem kw218 : (Cond.methodLink "CarrierPaths" 107 ⟨"CarrierPaths$Points", "setCharger", "(IZ)V"⟩ : Cond) ∈ TG := tg_1 (i := 218) (by decide +kernel) rfl
theorem kw219 : (Cond.instanceMethod ⟨"CarrierPaths$Points", "setCharger", "(IZ)V"⟩ : Cond) ∈ TG := tg_1 (i := 219) (by decide +kernel) rfl
theorem kw220 : (Cond.selects "CarrierPaths$Points" ⟨"CarrierPaths$Points", "setCharger", "(IZ)V"⟩ ⟨"CarrierPaths$Points", "setCharger", "(IZ)V"⟩ : Cond) ∈ TG := tg_1 (i := 220) (by decide +kernel) rfl
theorem kw221 : (Cond.code ⟨"CarrierPaths$Points", "setCharger", "(IZ)V"⟩ prog_5_method_9_code 3 none : Cond) ∈ TG := tg_1 (i := 221) (by decide +kernel) rfl
theorem kw226 : (Cond.methodLink "CarrierPaths" 137 ⟨"CarrierPaths", "offerJobs", "()V"⟩ : Cond) ∈ TG := tg_1 (i := 226) (by decide +kernel) rfl
theorem kw228 : (Cond.instanceMethod ⟨"CarrierPaths", "offerJobs", "()V"⟩ : Cond) ∈ TG := tg_1 (i := 228) (by decide +kernel) rfl
theorem kw229 : (Cond.code ⟨"CarrierPaths", "offerJobs", "()V"⟩ prog_1_method_19_code 4 none : Cond) ∈ TG := tg_1 (i := 229) (by decide +kernel) rfl
theorem kw230 : (Cond.methodLink "CarrierPaths" 133 ⟨"CarrierPaths$Jobs", "size", "()I"⟩ : Cond) ∈ TG := tg_1 (i := 230) (by decide +kernel) rfl
theorem kw231 : (Cond.instanceMethod ⟨"CarrierPaths$Jobs", "size", "()I"⟩ : Cond) ∈ TG := tg_1 (i := 231) (by decide +kernel) rfl
theorem kw232 : (Cond.selects "CarrierPaths$Jobs" ⟨"CarrierPaths$Jobs", "size", "()I"⟩ ⟨"CarrierPaths$Jobs", "size", "()I"⟩ : Cond) ∈ TG := tg_1 (i := 232) (by decide +kernel) rfl
theorem kw233 : (Cond.code ⟨"CarrierPaths$Jobs", "size", "()I"⟩ prog_4_method_2_code 1 (some .int) : Cond) ∈ TG := tg_1 (i := 233) (by decide +kernel) rfl
theorem kw234 : (Cond.methodLink "CarrierPaths" 125 ⟨"CarrierPaths$Fleet", "size", "()I"⟩ : Cond) ∈ TG := tg_1 (i := 234) (by decide +kernel) rfl
theorem kw235 : (Cond.instanceMethod ⟨"CarrierPaths$Fleet", "size", "()I"⟩ : Cond) ∈ TG := tg_1 (i := 235) (by decide +kernel) rfl
theorem kw236 : (Cond.selects "CarrierPaths$Fleet" ⟨"CarrierPaths$Fleet", "size", "()I"⟩ ⟨"CarrierPaths$Fleet", "size", "()I"⟩ : Cond) ∈ TG := tg_1 (i := 236) (by decide +kernel) rfl
theorem kw237 : (Cond.code ⟨"CarrierPaths$Fleet", "size", "()I"⟩ prog_3_method_2_code 1 (some .int) : Cond) ∈ TG := tg_1 (i := 237) (by decide +kernel) rfl
theorem kw238 : (Cond.methodLink "CarrierPaths" 268 ⟨"CarrierPaths$Choice", "begin", "(II)V"⟩ : Cond) ∈ TG := tg_1 (i := 238) (by decide +kernel) rfl
theorem kw239 : (Cond.instanceMethod ⟨"CarrierPaths$Choice", "begin", "(II)V"⟩ : Cond) ∈ TG := tg_1 (i := 239) (by decide +kernel) rfl
theorem kw240 : (Cond.selects "CarrierPaths$Choice" ⟨"CarrierPaths$Choice", "begin", "(II)V"⟩ ⟨"CarrierPaths$Choice", "begin", "(II)V"⟩ : Cond) ∈ TG := tg_2 (i := 0) (by decide +kernel) rfl
theorem kw241 : (Cond.code ⟨"CarrierPaths$Choice", "begin", "(II)V"⟩ prog_2_method_2_code 4 none : Cond) ∈ TG := tg_2 (i := 1) (by decide +kernel) rfl
theorem kw242 : (Cond.methodLink "CarrierPaths" 271 ⟨"CarrierPaths", "emptyTravel", "(II)I"⟩ : Cond) ∈ TG := tg_2 (i := 2) (by decide +kernel) rfl
theorem kw244 : (Cond.instanceMethod ⟨"CarrierPaths", "emptyTravel", "(II)I"⟩ : Cond) ∈ TG := tg_2 (i := 4) (by decide +kernel) rfl
theorem kw245 : (Cond.code ⟨"CarrierPaths", "emptyTravel", "(II)I"⟩ prog_1_method_21_code 3 (some .int) : Cond) ∈ TG := tg_2 (i := 5) (by decide +kernel) rfl
theorem kw246 : (Cond.methodLink "CarrierPaths" 158 ⟨"CarrierPaths$Fleet", "pointOf", "(I)I"⟩ : Cond) ∈ TG := tg_2 (i := 6) (by decide +kernel) rfl
theorem kw247 : (Cond.instanceMethod ⟨"CarrierPaths$Fleet", "pointOf", "(I)I"⟩ : Cond) ∈ TG := tg_2 (i := 7) (by decide +kernel) rfl
theorem kw248 : (Cond.selects "CarrierPaths$Fleet" ⟨"CarrierPaths$Fleet", "pointOf", "(I)I"⟩ ⟨"CarrierPaths$Fleet", "pointOf", "(I)I"⟩ : Cond) ∈ TG := tg_2 (i := 8) (by decide +kernel) rfl
theorem kw249 : (Cond.code ⟨"CarrierPaths$Fleet", "pointOf", "(I)I"⟩ prog_3_method_5_code 2 (some .int) : Cond) ∈ TG := tg_2 (i := 9) (by decide +kernel) rfl
theorem kw250 : (Cond.methodLink "CarrierPaths" 226 ⟨"CarrierPaths$Jobs", "fromOf", "(I)I"⟩ : Cond) ∈ TG := tg_2 (i := 10) (by decide +kernel) rfl
theorem kw251 : (Cond.instanceMethod ⟨"CarrierPaths$Jobs", "fromOf", "(I)I"⟩ : Cond) ∈ TG := tg_2 (i := 11) (by decide +kernel) rfl
theorem kw252 : (Cond.selects "CarrierPaths$Jobs" ⟨"CarrierPaths$Jobs", "fromOf", "(I)I"⟩ ⟨"CarrierPaths$Jobs", "fromOf", "(I)I"⟩ : Cond) ∈ TG := tg_2 (i := 12) (by decide +kernel) rfl
theorem kw253 : (Cond.code ⟨"CarrierPaths$Jobs", "fromOf", "(I)I"⟩ prog_4_method_5_code 2 (some .int) : Cond) ∈ TG := tg_2 (i := 13) (by decide +kernel) rfl
theorem kw254 : (Cond.methodLink "CarrierPaths" 197 ⟨"CarrierPaths$Roads", "leastTime", "(II)I"⟩ : Cond) ∈ TG := tg_2 (i := 14) (by decide +kernel) rfl
theorem kw258 : (Cond.methodLink "CarrierPaths" 274 ⟨"CarrierPaths$Jobs", "isWaiting", "(I)Z"⟩ : Cond) ∈ TG := tg_2 (i := 18) (by decide +kernel) rfl
theorem kw259 : (Cond.instanceMethod ⟨"CarrierPaths$Jobs", "isWaiting", "(I)Z"⟩ : Cond) ∈ TG := tg_2 (i := 19) (by decide +kernel) rfl
theorem kw260 : (Cond.selects "CarrierPaths$Jobs" ⟨"CarrierPaths$Jobs", "isWaiting", "(I)Z"⟩ ⟨"CarrierPaths$Jobs", "isWaiting", "(I)Z"⟩ : Cond) ∈ TG := tg_2 (i := 20) (by decide +kernel) rfl
theorem kw261 : (Cond.code ⟨"CarrierPaths$Jobs", "isWaiting", "(I)Z"⟩ prog_4_method_9_code 2 (some .boolean) : Cond) ∈ TG := tg_2 (i := 21) (by decide +kernel) rfl
theorem kw262 : (Cond.methodLink "CarrierPaths" 277 ⟨"CarrierPaths$Fleet", "isIdle", "(I)Z"⟩ : Cond) ∈ TG := tg_2 (i := 22) (by decide +kernel) rfl
theorem kw263 : (Cond.instanceMethod ⟨"CarrierPaths$Fleet", "isIdle", "(I)Z"⟩ : Cond) ∈ TG := tg_2 (i := 23) (by decide +kernel) rfl
theorem kw264 : (Cond.selects "CarrierPaths$Fleet" ⟨"CarrierPaths$Fleet", "isIdle", "(I)Z"⟩ ⟨"CarrierPaths$Fleet", "isIdle", "(I)Z"⟩ : Cond) ∈ TG := tg_2 (i := 24) (by decide +kernel) rfl
theorem kw265 : (Cond.code ⟨"CarrierPaths$Fleet", "isIdle", "(I)Z"⟩ prog_3_method_13_code 2 (some .boolean) : Cond) ∈ TG := tg_2 (i := 25) (by decide +kernel) rfl
theorem kw270 : (Cond.constant "CarrierPaths" 176 (1000000) : Cond) ∈ TG := tg_2 (i := 30) (by decide +kernel) rfl
theorem kw271 : (Cond.methodLink "CarrierPaths" 280 ⟨"CarrierPaths$Choice", "offer", "(III)V"⟩ : Cond) ∈ TG := tg_2 (i := 31) (by decide +kernel) rfl
theorem kw272 : (Cond.instanceMethod ⟨"CarrierPaths$Choice", "offer", "(III)V"⟩ : Cond) ∈ TG := tg_2 (i := 32) (by decide +kernel) rfl
theorem kw273 : (Cond.selects "CarrierPaths$Choice" ⟨"CarrierPaths$Choice", "offer", "(III)V"⟩ ⟨"CarrierPaths$Choice", "offer", "(III)V"⟩ : Cond) ∈ TG := tg_2 (i := 33) (by decide +kernel) rfl
theorem kw274 : (Cond.code ⟨"CarrierPaths$Choice", "offer", "(III)V"⟩ prog_2_method_3_code 4 none : Cond) ∈ TG := tg_2 (i := 34) (by decide +kernel) rfl
theorem kw275 : (Cond.methodLink "CarrierPaths" 140 ⟨"CarrierPaths$Choice", "settle", "()V"⟩ : Cond) ∈ TG := tg_2 (i := 35) (by decide +kernel) rfl
theorem kw276 : (Cond.instanceMethod ⟨"CarrierPaths$Choice", "settle", "()V"⟩ : Cond) ∈ TG := tg_2 (i := 36) (by decide +kernel) rfl
theorem kw277 : (Cond.selects "CarrierPaths$Choice" ⟨"CarrierPaths$Choice", "settle", "()V"⟩ ⟨"CarrierPaths$Choice", "settle", "()V"⟩ : Cond) ∈ TG := tg_2 (i := 37) (by decide +kernel) rfl
theorem kw278 : (Cond.code ⟨"CarrierPaths$Choice", "settle", "()V"⟩ prog_2_method_4_code 4 none : Cond) ∈ TG := tg_2 (i := 38) (by decide +kernel) rfl
theorem kw308 : (Cond.methodLink "CarrierPaths" 143 ⟨"CarrierPaths", "giveOut", "()I"⟩ : Cond) ∈ TG := tg_2 (i := 68) (by decide +kernel) rfl
theorem kw310 : (Cond.instanceMethod ⟨"CarrierPaths", "giveOut", "()I"⟩ : Cond) ∈ TG := tg_2 (i := 70) (by decide +kernel) rfl
theorem kw311 : (Cond.code ⟨"CarrierPaths", "giveOut", "()I"⟩ prog_1_method_20_code 5 (some .int) : Cond) ∈ TG := tg_2 (i := 71) (by decide +kernel) rfl
theorem kw312 : (Cond.methodLink "CarrierPaths" 284 ⟨"CarrierPaths$Choice", "carrierFor", "(I)I"⟩ : Cond) ∈ TG := tg_2 (i := 72) (by decide +kernel) rfl
theorem kw313 : (Cond.instanceMethod ⟨"CarrierPaths$Choice", "carrierFor", "(I)I"⟩ : Cond) ∈ TG := tg_2 (i := 73) (by decide +kernel) rfl
theorem kw314 : (Cond.selects "CarrierPaths$Choice" ⟨"CarrierPaths$Choice", "carrierFor", "(I)I"⟩ ⟨"CarrierPaths$Choice", "carrierFor", "(I)I"⟩ : Cond) ∈ TG := tg_2 (i := 74) (by decide +kernel) rfl
theorem kw315 : (Cond.code ⟨"CarrierPaths$Choice", "carrierFor", "(I)I"⟩ prog_2_method_5_code 2 (some .int) : Cond) ∈ TG := tg_2 (i := 75) (by decide +kernel) rfl
theorem kw316 : (Cond.methodLink "CarrierPaths" 287 ⟨"CarrierPaths$Jobs", "give", "(II)V"⟩ : Cond) ∈ TG := tg_2 (i := 76) (by decide +kernel) rfl
theorem kw317 : (Cond.instanceMethod ⟨"CarrierPaths$Jobs", "give", "(II)V"⟩ : Cond) ∈ TG := tg_2 (i := 77) (by decide +kernel) rfl
theorem kw318 : (Cond.selects "CarrierPaths$Jobs" ⟨"CarrierPaths$Jobs", "give", "(II)V"⟩ ⟨"CarrierPaths$Jobs", "give", "(II)V"⟩ : Cond) ∈ TG := tg_2 (i := 78) (by decide +kernel) rfl
theorem kw319 : (Cond.code ⟨"CarrierPaths$Jobs", "give", "(II)V"⟩ prog_4_method_14_code 3 none : Cond) ∈ TG := tg_2 (i := 79) (by decide +kernel) rfl
theorem kw320 : (Cond.methodLink "CarrierPaths" 290 ⟨"CarrierPaths$Fleet", "takeJob", "(II)V"⟩ : Cond) ∈ TG := tg_2 (i := 80) (by decide +kernel) rfl
theorem kw321 : (Cond.instanceMethod ⟨"CarrierPaths$Fleet", "takeJob", "(II)V"⟩ : Cond) ∈ TG := tg_2 (i := 81) (by decide +kernel) rfl
theorem kw322 : (Cond.selects "CarrierPaths$Fleet" ⟨"CarrierPaths$Fleet", "takeJob", "(II)V"⟩ ⟨"CarrierPaths$Fleet", "takeJob", "(II)V"⟩ : Cond) ∈ TG := tg_2 (i := 82) (by decide +kernel) rfl
theorem kw323 : (Cond.code ⟨"CarrierPaths$Fleet", "takeJob", "(II)V"⟩ prog_3_method_17_code 3 none : Cond) ∈ TG := tg_2 (i := 83) (by decide +kernel) rfl
theorem kw328 : (Cond.methodLink "CarrierPaths" 182 ⟨"CarrierPaths$Roads", "has", "(I)Z"⟩ : Cond) ∈ TG := tg_2 (i := 88) (by decide +kernel) rfl
theorem kw329 : (Cond.instanceMethod ⟨"CarrierPaths$Roads", "has", "(I)Z"⟩ : Cond) ∈ TG := tg_2 (i := 89) (by decide +kernel) rfl
theorem kw330 : (Cond.selects "CarrierPaths$Roads" ⟨"CarrierPaths$Roads", "has", "(I)Z"⟩ ⟨"CarrierPaths$Roads", "has", "(I)Z"⟩ : Cond) ∈ TG := tg_2 (i := 90) (by decide +kernel) rfl
theorem kw331 : (Cond.code ⟨"CarrierPaths$Roads", "has", "(I)Z"⟩ prog_7_method_3_code 2 (some .boolean) : Cond) ∈ TG := tg_2 (i := 91) (by decide +kernel) rfl
theorem kw332 : (Cond.methodLink "CarrierPaths" 183 ⟨"CarrierPaths$Roads", "isClosed", "(I)Z"⟩ : Cond) ∈ TG := tg_2 (i := 92) (by decide +kernel) rfl
theorem kw333 : (Cond.instanceMethod ⟨"CarrierPaths$Roads", "isClosed", "(I)Z"⟩ : Cond) ∈ TG := tg_2 (i := 93) (by decide +kernel) rfl
theorem kw334 : (Cond.selects "CarrierPaths$Roads" ⟨"CarrierPaths$Roads", "isClosed", "(I)Z"⟩ ⟨"CarrierPaths$Roads", "isClosed", "(I)Z"⟩ : Cond) ∈ TG := tg_2 (i := 94) (by decide +kernel) rfl
theorem kw335 : (Cond.code ⟨"CarrierPaths$Roads", "isClosed", "(I)Z"⟩ prog_7_method_8_code 2 (some .boolean) : Cond) ∈ TG := tg_2 (i := 95) (by decide +kernel) rfl
theorem kw336 : (Cond.methodLink "CarrierPaths" 186 ⟨"CarrierPaths$Roads", "setClosed", "(IZ)V"⟩ : Cond) ∈ TG := tg_2 (i := 96) (by decide +kernel) rfl
theorem kw337 : (Cond.instanceMethod ⟨"CarrierPaths$Roads", "setClosed", "(IZ)V"⟩ : Cond) ∈ TG := tg_2 (i := 97) (by decide +kernel) rfl
theorem kw338 : (Cond.selects "CarrierPaths$Roads" ⟨"CarrierPaths$Roads", "setClosed", "(IZ)V"⟩ ⟨"CarrierPaths$Roads", "setClosed", "(IZ)V"⟩ : Cond) ∈ TG := tg_2 (i := 98) (by decide +kernel) rfl
theorem kw339 : (Cond.code ⟨"CarrierPaths$Roads", "setClosed", "(IZ)V"⟩ prog_7_method_9_code 3 none : Cond) ∈ TG := tg_2 (i := 99) (by decide +kernel) rfl
theorem kw354 : (Cond.methodLink "CarrierPaths" 238 ⟨"java/lang/Math", "floorMod", "(II)I"⟩ : Cond) ∈ TG := tg_2 (i := 114) (by decide +kernel) rfl
theorem kw355 : (Cond.static ⟨"java/lang/Math", "floorMod", "(II)I"⟩ : Cond) ∈ TG := tg_2 (i := 115) (by decide +kernel) rfl
theorem kw356 : (Cond.code ⟨"java/lang/Math", "floorMod", "(II)I"⟩ prog_14_method_50_code 3 (some .int) : Cond) ∈ TG := tg_2 (i := 116) (by decide +kernel) rfl
theorem kw357 : (Cond.methodLink "CarrierPaths" 241 ⟨"java/lang/Math", "floorDiv", "(II)I"⟩ : Cond) ∈ TG := tg_2 (i := 117) (by decide +kernel) rfl
theorem kw358 : (Cond.static ⟨"java/lang/Math", "floorDiv", "(II)I"⟩ : Cond) ∈ TG := tg_2 (i := 118) (by decide +kernel) rfl
theorem kw359 : (Cond.code ⟨"java/lang/Math", "floorDiv", "(II)I"⟩ prog_14_method_47_code 3 (some .int) : Cond) ∈ TG := tg_2 (i := 119) (by decide +kernel) rfl
theorem kw360 : (Cond.methodLink "CarrierPaths" 244 ⟨"CarrierPaths", "countInAll", "(I)I"⟩ : Cond) ∈ TG := tg_2 (i := 120) (by decide +kernel) rfl
theorem kw362 : (Cond.instanceMethod ⟨"CarrierPaths", "countInAll", "(I)I"⟩ : Cond) ∈ TG := tg_2 (i := 122) (by decide +kernel) rfl
theorem kw363 : (Cond.code ⟨"CarrierPaths", "countInAll", "(I)I"⟩ prog_1_method_17_code 2 (some .int) : Cond) ∈ TG := tg_2 (i := 123) (by decide +kernel) rfl
theorem kw364 : (Cond.methodLink "CarrierPaths" 261 ⟨"CarrierPaths$Points", "size", "()I"⟩ : Cond) ∈ TG := tg_2 (i := 124) (by decide +kernel) rfl
theorem kw365 : (Cond.instanceMethod ⟨"CarrierPaths$Points", "size", "()I"⟩ : Cond) ∈ TG := tg_2 (i := 125) (by decide +kernel) rfl
theorem kw366 : (Cond.selects "CarrierPaths$Points" ⟨"CarrierPaths$Points", "size", "()I"⟩ ⟨"CarrierPaths$Points", "size", "()I"⟩ : Cond) ∈ TG := tg_2 (i := 126) (by decide +kernel) rfl
theorem kw367 : (Cond.code ⟨"CarrierPaths$Points", "size", "()I"⟩ prog_5_method_2_code 1 (some .int) : Cond) ∈ TG := tg_2 (i := 127) (by decide +kernel) rfl
theorem kw368 : (Cond.methodLink "CarrierPaths" 79 ⟨"CarrierPaths$Roads", "size", "()I"⟩ : Cond) ∈ TG := tg_2 (i := 128) (by decide +kernel) rfl
theorem kw369 : (Cond.instanceMethod ⟨"CarrierPaths$Roads", "size", "()I"⟩ : Cond) ∈ TG := tg_2 (i := 129) (by decide +kernel) rfl
theorem kw370 : (Cond.selects "CarrierPaths$Roads" ⟨"CarrierPaths$Roads", "size", "()I"⟩ ⟨"CarrierPaths$Roads", "size", "()I"⟩ : Cond) ∈ TG := tg_2 (i := 130) (by decide +kernel) rfl
theorem kw371 : (Cond.code ⟨"CarrierPaths$Roads", "size", "()I"⟩ prog_7_method_2_code 1 (some .int) : Cond) ∈ TG := tg_2 (i := 131) (by decide +kernel) rfl
theorem kw372 : (Cond.methodLink "CarrierPaths" 262 ⟨"CarrierPaths$Jobs", "ended", "()I"⟩ : Cond) ∈ TG := tg_2 (i := 132) (by decide +kernel) rfl
theorem kw373 : (Cond.instanceMethod ⟨"CarrierPaths$Jobs", "ended", "()I"⟩ : Cond) ∈ TG := tg_2 (i := 133) (by decide +kernel) rfl
theorem kw374 : (Cond.selects "CarrierPaths$Jobs" ⟨"CarrierPaths$Jobs", "ended", "()I"⟩ ⟨"CarrierPaths$Jobs", "ended", "()I"⟩ : Cond) ∈ TG := tg_2 (i := 134) (by decide +kernel) rfl
theorem kw375 : (Cond.code ⟨"CarrierPaths$Jobs", "ended", "()I"⟩ prog_4_method_12_code 3 (some .int) : Cond) ∈ TG := tg_2 (i := 135) (by decide +kernel) rfl
theorem kw376 : (Cond.methodLink "CarrierPaths" 265 ⟨"CarrierPaths$Fleet", "onPieces", "()I"⟩ : Cond) ∈ TG := tg_2 (i := 136) (by decide +kernel) rfl
theorem kw377 : (Cond.instanceMethod ⟨"CarrierPaths$Fleet", "onPieces", "()I"⟩ : Cond) ∈ TG := tg_2 (i := 137) (by decide +kernel) rfl
theorem kw378 : (Cond.selects "CarrierPaths$Fleet" ⟨"CarrierPaths$Fleet", "onPieces", "()I"⟩ ⟨"CarrierPaths$Fleet", "onPieces", "()I"⟩ : Cond) ∈ TG := tg_2 (i := 138) (by decide +kernel) rfl
theorem kw379 : (Cond.code ⟨"CarrierPaths$Fleet", "onPieces", "()I"⟩ prog_3_method_16_code 3 (some .int) : Cond) ∈ TG := tg_2 (i := 139) (by decide +kernel) rfl
theorem kw380 : (Cond.methodLink "CarrierPaths" 116 ⟨"CarrierPaths$Rings", "size", "()I"⟩ : Cond) ∈ TG := tg_2 (i := 140) (by decide +kernel) rfl
theorem kw381 : (Cond.instanceMethod ⟨"CarrierPaths$Rings", "size", "()I"⟩ : Cond) ∈ TG := tg_2 (i := 141) (by decide +kernel) rfl
theorem kw382 : (Cond.selects "CarrierPaths$Rings" ⟨"CarrierPaths$Rings", "size", "()I"⟩ ⟨"CarrierPaths$Rings", "size", "()I"⟩ : Cond) ∈ TG := tg_2 (i := 142) (by decide +kernel) rfl
theorem kw383 : (Cond.code ⟨"CarrierPaths$Rings", "size", "()I"⟩ prog_6_method_2_code 1 (some .int) : Cond) ∈ TG := tg_2 (i := 143) (by decide +kernel) rfl
theorem kw384 : (Cond.methodLink "CarrierPaths" 247 ⟨"CarrierPaths$Rings", "has", "(I)Z"⟩ : Cond) ∈ TG := tg_2 (i := 144) (by decide +kernel) rfl
theorem kw385 : (Cond.instanceMethod ⟨"CarrierPaths$Rings", "has", "(I)Z"⟩ : Cond) ∈ TG := tg_2 (i := 145) (by decide +kernel) rfl
theorem kw386 : (Cond.selects "CarrierPaths$Rings" ⟨"CarrierPaths$Rings", "has", "(I)Z"⟩ ⟨"CarrierPaths$Rings", "has", "(I)Z"⟩ : Cond) ∈ TG := tg_2 (i := 146) (by decide +kernel) rfl
theorem kw387 : (Cond.code ⟨"CarrierPaths$Rings", "has", "(I)Z"⟩ prog_6_method_3_code 2 (some .boolean) : Cond) ∈ TG := tg_2 (i := 147) (by decide +kernel) rfl
theorem kw388 : (Cond.methodLink "CarrierPaths" 248 ⟨"CarrierPaths$Rings", "bitsOf", "(I)I"⟩ : Cond) ∈ TG := tg_2 (i := 148) (by decide +kernel) rfl
theorem kw389 : (Cond.instanceMethod ⟨"CarrierPaths$Rings", "bitsOf", "(I)I"⟩ : Cond) ∈ TG := tg_2 (i := 149) (by decide +kernel) rfl
theorem kw390 : (Cond.selects "CarrierPaths$Rings" ⟨"CarrierPaths$Rings", "bitsOf", "(I)I"⟩ ⟨"CarrierPaths$Rings", "bitsOf", "(I)I"⟩ : Cond) ∈ TG := tg_2 (i := 150) (by decide +kernel) rfl
theorem kw391 : (Cond.code ⟨"CarrierPaths$Rings", "bitsOf", "(I)I"⟩ prog_6_method_5_code 2 (some .int) : Cond) ∈ TG := tg_2 (i := 151) (by decide +kernel) rfl
theorem kw392 : (Cond.methodLink "CarrierPaths" 251 ⟨"CarrierPaths", "freePlaces", "(I)I"⟩ : Cond) ∈ TG := tg_2 (i := 152) (by decide +kernel) rfl
theorem kw394 : (Cond.instanceMethod ⟨"CarrierPaths", "freePlaces", "(I)I"⟩ : Cond) ∈ TG := tg_2 (i := 154) (by decide +kernel) rfl
theorem kw395 : (Cond.code ⟨"CarrierPaths", "freePlaces", "(I)I"⟩ prog_1_method_26_code 4 (some .int) : Cond) ∈ TG := tg_2 (i := 155) (by decide +kernel) rfl
theorem kw396 : (Cond.methodLink "CarrierPaths" 324 ⟨"CarrierPaths", "isIn", "(II)Z"⟩ : Cond) ∈ TG := tg_2 (i := 156) (by decide +kernel) rfl
theorem kw397 : (Cond.static ⟨"CarrierPaths", "isIn", "(II)Z"⟩ : Cond) ∈ TG := tg_2 (i := 157) (by decide +kernel) rfl
theorem kw398 : (Cond.code ⟨"CarrierPaths", "isIn", "(II)Z"⟩ prog_1_method_27_code 2 (some .boolean) : Cond) ∈ TG := tg_2 (i := 158) (by decide +kernel) rfl
theorem kw399 : (Cond.methodLink "CarrierPaths" 254 ⟨"CarrierPaths$Points", "placesOf", "(I)I"⟩ : Cond) ∈ TG := tg_2 (i := 159) (by decide +kernel) rfl
theorem kw400 : (Cond.instanceMethod ⟨"CarrierPaths$Points", "placesOf", "(I)I"⟩ : Cond) ∈ TG := tg_2 (i := 160) (by decide +kernel) rfl
theorem kw401 : (Cond.selects "CarrierPaths$Points" ⟨"CarrierPaths$Points", "placesOf", "(I)I"⟩ ⟨"CarrierPaths$Points", "placesOf", "(I)I"⟩ : Cond) ∈ TG := tg_2 (i := 161) (by decide +kernel) rfl
theorem kw402 : (Cond.code ⟨"CarrierPaths$Points", "placesOf", "(I)I"⟩ prog_5_method_6_code 2 (some .int) : Cond) ∈ TG := tg_2 (i := 162) (by decide +kernel) rfl
theorem kw403 : (Cond.methodLink "CarrierPaths" 257 ⟨"CarrierPaths", "asNumber", "(Z)I"⟩ : Cond) ∈ TG := tg_2 (i := 163) (by decide +kernel) rfl
theorem kw404 : (Cond.static ⟨"CarrierPaths", "asNumber", "(Z)I"⟩ : Cond) ∈ TG := tg_2 (i := 164) (by decide +kernel) rfl
theorem kw405 : (Cond.code ⟨"CarrierPaths", "asNumber", "(Z)I"⟩ prog_1_method_18_code 1 (some .int) : Cond) ∈ TG := tg_2 (i := 165) (by decide +kernel) rfl
theorem kw539 : (Cond.methodLink "CarrierPaths" 128 ⟨"CarrierPaths", "isFull", "(I)Z"⟩ : Cond) ∈ TG := tg_3 (i := 59) (by decide +kernel) rfl
theorem kw541 : (Cond.instanceMethod ⟨"CarrierPaths", "isFull", "(I)Z"⟩ : Cond) ∈ TG := tg_3 (i := 61) (by decide +kernel) rfl
theorem kw542 : (Cond.code ⟨"CarrierPaths", "isFull", "(I)Z"⟩ prog_1_method_25_code 2 (some .boolean) : Cond) ∈ TG := tg_3 (i := 62) (by decide +kernel) rfl
theorem kw592 : (Cond.methodLink "CarrierPaths" 161 ⟨"CarrierPaths$Jobs", "goalOf", "(I)I"⟩ : Cond) ∈ TG := tg_3 (i := 112) (by decide +kernel) rfl
theorem kw593 : (Cond.instanceMethod ⟨"CarrierPaths$Jobs", "goalOf", "(I)I"⟩ : Cond) ∈ TG := tg_3 (i := 113) (by decide +kernel) rfl
theorem kw594 : (Cond.selects "CarrierPaths$Jobs" ⟨"CarrierPaths$Jobs", "goalOf", "(I)I"⟩ ⟨"CarrierPaths$Jobs", "goalOf", "(I)I"⟩ : Cond) ∈ TG := tg_3 (i := 114) (by decide +kernel) rfl
theorem kw595 : (Cond.code ⟨"CarrierPaths$Jobs", "goalOf", "(I)I"⟩ prog_4_method_11_code 2 (some .int) : Cond) ∈ TG := tg_3 (i := 115) (by decide +kernel) rfl
theorem kw604 : (Cond.methodLink "CarrierPaths" 200 ⟨"CarrierPaths$Roads", "firstPiece", "(II)I"⟩ : Cond) ∈ TG := tg_3 (i := 124) (by decide +kernel) rfl
theorem kw608 : (Cond.methodLink "CarrierPaths" 299 ⟨"CarrierPaths$Roads", "endOf", "(I)I"⟩ : Cond) ∈ TG := tg_3 (i := 128) (by decide +kernel) rfl
theorem kw609 : (Cond.instanceMethod ⟨"CarrierPaths$Roads", "endOf", "(I)I"⟩ : Cond) ∈ TG := tg_3 (i := 129) (by decide +kernel) rfl
theorem kw610 : (Cond.selects "CarrierPaths$Roads" ⟨"CarrierPaths$Roads", "endOf", "(I)I"⟩ ⟨"CarrierPaths$Roads", "endOf", "(I)I"⟩ : Cond) ∈ TG := tg_3 (i := 130) (by decide +kernel) rfl
theorem kw611 : (Cond.code ⟨"CarrierPaths$Roads", "endOf", "(I)I"⟩ prog_7_method_6_code 2 (some .int) : Cond) ∈ TG := tg_3 (i := 131) (by decide +kernel) rfl
theorem kw612 : (Cond.methodLink "CarrierPaths" 302 ⟨"CarrierPaths$Fleet", "isTaken", "(I)Z"⟩ : Cond) ∈ TG := tg_3 (i := 132) (by decide +kernel) rfl
theorem kw613 : (Cond.instanceMethod ⟨"CarrierPaths$Fleet", "isTaken", "(I)Z"⟩ : Cond) ∈ TG := tg_3 (i := 133) (by decide +kernel) rfl
theorem kw614 : (Cond.selects "CarrierPaths$Fleet" ⟨"CarrierPaths$Fleet", "isTaken", "(I)Z"⟩ ⟨"CarrierPaths$Fleet", "isTaken", "(I)Z"⟩ : Cond) ∈ TG := tg_3 (i := 134) (by decide +kernel) rfl
theorem kw615 : (Cond.code ⟨"CarrierPaths$Fleet", "isTaken", "(I)Z"⟩ prog_3_method_14_code 3 (some .boolean) : Cond) ∈ TG := tg_3 (i := 135) (by decide +kernel) rfl
theorem kw616 : (Cond.methodLink "CarrierPaths" 305 ⟨"CarrierPaths$Roads", "beginningOf", "(I)I"⟩ : Cond) ∈ TG := tg_3 (i := 136) (by decide +kernel) rfl
theorem kw617 : (Cond.instanceMethod ⟨"CarrierPaths$Roads", "beginningOf", "(I)I"⟩ : Cond) ∈ TG := tg_3 (i := 137) (by decide +kernel) rfl
theorem kw618 : (Cond.selects "CarrierPaths$Roads" ⟨"CarrierPaths$Roads", "beginningOf", "(I)I"⟩ ⟨"CarrierPaths$Roads", "beginningOf", "(I)I"⟩ : Cond) ∈ TG := tg_3 (i := 138) (by decide +kernel) rfl
theorem kw619 : (Cond.code ⟨"CarrierPaths$Roads", "beginningOf", "(I)I"⟩ prog_7_method_5_code 2 (some .int) : Cond) ∈ TG := tg_3 (i := 139) (by decide +kernel) rfl
theorem kw620 : (Cond.methodLink "CarrierPaths" 308 ⟨"CarrierPaths", "fillsRing", "(II)Z"⟩ : Cond) ∈ TG := tg_3 (i := 140) (by decide +kernel) rfl
theorem kw622 : (Cond.instanceMethod ⟨"CarrierPaths", "fillsRing", "(II)Z"⟩ : Cond) ∈ TG := tg_3 (i := 142) (by decide +kernel) rfl
theorem kw623 : (Cond.code ⟨"CarrierPaths", "fillsRing", "(II)Z"⟩ prog_1_method_28_code 5 (some .boolean) : Cond) ∈ TG := tg_3 (i := 143) (by decide +kernel) rfl
theorem kw624 : (Cond.methodLink "CarrierPaths" 311 ⟨"CarrierPaths$Roads", "timeOf", "(I)I"⟩ : Cond) ∈ TG := tg_3 (i := 144) (by decide +kernel) rfl
theorem kw625 : (Cond.instanceMethod ⟨"CarrierPaths$Roads", "timeOf", "(I)I"⟩ : Cond) ∈ TG := tg_3 (i := 145) (by decide +kernel) rfl
theorem kw626 : (Cond.selects "CarrierPaths$Roads" ⟨"CarrierPaths$Roads", "timeOf", "(I)I"⟩ ⟨"CarrierPaths$Roads", "timeOf", "(I)I"⟩ : Cond) ∈ TG := tg_3 (i := 146) (by decide +kernel) rfl
theorem kw627 : (Cond.code ⟨"CarrierPaths$Roads", "timeOf", "(I)I"⟩ prog_7_method_7_code 2 (some .int) : Cond) ∈ TG := tg_3 (i := 147) (by decide +kernel) rfl
theorem kw628 : (Cond.methodLink "CarrierPaths" 214 ⟨"CarrierPaths$Fleet", "chargeOf", "(I)I"⟩ : Cond) ∈ TG := tg_3 (i := 148) (by decide +kernel) rfl
theorem kw629 : (Cond.instanceMethod ⟨"CarrierPaths$Fleet", "chargeOf", "(I)I"⟩ : Cond) ∈ TG := tg_3 (i := 149) (by decide +kernel) rfl
theorem kw630 : (Cond.selects "CarrierPaths$Fleet" ⟨"CarrierPaths$Fleet", "chargeOf", "(I)I"⟩ ⟨"CarrierPaths$Fleet", "chargeOf", "(I)I"⟩ : Cond) ∈ TG := tg_3 (i := 150) (by decide +kernel) rfl
theorem kw631 : (Cond.code ⟨"CarrierPaths$Fleet", "chargeOf", "(I)I"⟩ prog_3_method_9_code 2 (some .int) : Cond) ∈ TG := tg_3 (i := 151) (by decide +kernel) rfl
theorem kw632 : (Cond.methodLink "CarrierPaths" 314 ⟨"CarrierPaths", "timeToCharger", "(I)I"⟩ : Cond) ∈ TG := tg_3 (i := 152) (by decide +kernel) rfl
theorem kw634 : (Cond.instanceMethod ⟨"CarrierPaths", "timeToCharger", "(I)I"⟩ : Cond) ∈ TG := tg_3 (i := 154) (by decide +kernel) rfl
theorem kw635 : (Cond.code ⟨"CarrierPaths", "timeToCharger", "(I)I"⟩ prog_1_method_29_code 4 (some .int) : Cond) ∈ TG := tg_3 (i := 155) (by decide +kernel) rfl
theorem kw636 : (Cond.methodLink "CarrierPaths" 317 ⟨"CarrierPaths$Fleet", "enter", "(IIIII)V"⟩ : Cond) ∈ TG := tg_3 (i := 156) (by decide +kernel) rfl
theorem kw637 : (Cond.instanceMethod ⟨"CarrierPaths$Fleet", "enter", "(IIIII)V"⟩ : Cond) ∈ TG := tg_3 (i := 157) (by decide +kernel) rfl
theorem kw638 : (Cond.selects "CarrierPaths$Fleet" ⟨"CarrierPaths$Fleet", "enter", "(IIIII)V"⟩ ⟨"CarrierPaths$Fleet", "enter", "(IIIII)V"⟩ : Cond) ∈ TG := tg_3 (i := 158) (by decide +kernel) rfl
theorem kw639 : (Cond.code ⟨"CarrierPaths$Fleet", "enter", "(IIIII)V"⟩ prog_3_method_20_code 6 none : Cond) ∈ TG := tg_3 (i := 159) (by decide +kernel) rfl
theorem kw640 : (Cond.methodLink "CarrierPaths" 167 ⟨"CarrierPaths$Jobs", "isLoaded", "(I)Z"⟩ : Cond) ∈ TG := tg_3 (i := 160) (by decide +kernel) rfl
theorem kw641 : (Cond.methodLink "CarrierPaths" 321 ⟨"CarrierPaths$Fleet", "addEmptyTime", "(II)V"⟩ : Cond) ∈ TG := tg_3 (i := 161) (by decide +kernel) rfl
theorem kw642 : (Cond.instanceMethod ⟨"CarrierPaths$Fleet", "addEmptyTime", "(II)V"⟩ : Cond) ∈ TG := tg_3 (i := 162) (by decide +kernel) rfl
theorem kw643 : (Cond.selects "CarrierPaths$Fleet" ⟨"CarrierPaths$Fleet", "addEmptyTime", "(II)V"⟩ ⟨"CarrierPaths$Fleet", "addEmptyTime", "(II)V"⟩ : Cond) ∈ TG := tg_3 (i := 163) (by decide +kernel) rfl
theorem kw644 : (Cond.code ⟨"CarrierPaths$Fleet", "addEmptyTime", "(II)V"⟩ prog_3_method_21_code 3 none : Cond) ∈ TG := tg_3 (i := 164) (by decide +kernel) rfl
theorem kw649 : (Cond.methodLink "CarrierPaths" 293 ⟨"CarrierPaths$Jobs", "setState", "(II)V"⟩ : Cond) ∈ TG := tg_3 (i := 169) (by decide +kernel) rfl
theorem kw650 : (Cond.instanceMethod ⟨"CarrierPaths$Jobs", "setState", "(II)V"⟩ : Cond) ∈ TG := tg_3 (i := 170) (by decide +kernel) rfl
theorem kw651 : (Cond.selects "CarrierPaths$Jobs" ⟨"CarrierPaths$Jobs", "setState", "(II)V"⟩ ⟨"CarrierPaths$Jobs", "setState", "(II)V"⟩ : Cond) ∈ TG := tg_3 (i := 171) (by decide +kernel) rfl
theorem kw652 : (Cond.code ⟨"CarrierPaths$Jobs", "setState", "(II)V"⟩ prog_4_method_13_code 3 none : Cond) ∈ TG := tg_3 (i := 172) (by decide +kernel) rfl
theorem kw653 : (Cond.methodLink "CarrierPaths" 296 ⟨"CarrierPaths$Fleet", "endJob", "(I)V"⟩ : Cond) ∈ TG := tg_3 (i := 173) (by decide +kernel) rfl
theorem kw654 : (Cond.instanceMethod ⟨"CarrierPaths$Fleet", "endJob", "(I)V"⟩ : Cond) ∈ TG := tg_3 (i := 174) (by decide +kernel) rfl
theorem kw655 : (Cond.selects "CarrierPaths$Fleet" ⟨"CarrierPaths$Fleet", "endJob", "(I)V"⟩ ⟨"CarrierPaths$Fleet", "endJob", "(I)V"⟩ : Cond) ∈ TG := tg_3 (i := 175) (by decide +kernel) rfl
theorem kw656 : (Cond.code ⟨"CarrierPaths$Fleet", "endJob", "(I)V"⟩ prog_3_method_18_code 2 none : Cond) ∈ TG := tg_3 (i := 176) (by decide +kernel) rfl
