theorem kw0 : (Cond.initialized "CarrierPathsLaw" : Cond) ∈ TG := tg_1 (i := 0) (by decide +kernel) rfl
theorem kw194 : (Cond.methodLink "CarrierPathsLaw" 69 ⟨"CarrierPaths", "places", "(II)Z"⟩ : Cond) ∈ TG := tg_1 (i := 194) (by decide +kernel) rfl
theorem kw195 : (Cond.instanceMethod ⟨"CarrierPaths", "places", "(II)Z"⟩ : Cond) ∈ TG := tg_1 (i := 195) (by decide +kernel) rfl
theorem kw196 : (Cond.selects "CarrierPaths" ⟨"CarrierPaths", "places", "(II)Z"⟩ ⟨"CarrierPaths", "places", "(II)Z"⟩ : Cond) ∈ TG := tg_1 (i := 196) (by decide +kernel) rfl
theorem kw197 : (Cond.code ⟨"CarrierPaths", "places", "(II)Z"⟩ prog_1_method_3_code 3 (some .boolean) : Cond) ∈ TG := tg_1 (i := 197) (by decide +kernel) rfl
theorem kw210 : (Cond.methodLink "CarrierPathsLaw" 74 ⟨"CarrierPaths", "charger", "(IZ)Z"⟩ : Cond) ∈ TG := tg_1 (i := 210) (by decide +kernel) rfl
theorem kw211 : (Cond.instanceMethod ⟨"CarrierPaths", "charger", "(IZ)Z"⟩ : Cond) ∈ TG := tg_1 (i := 211) (by decide +kernel) rfl
theorem kw212 : (Cond.selects "CarrierPaths" ⟨"CarrierPaths", "charger", "(IZ)Z"⟩ ⟨"CarrierPaths", "charger", "(IZ)Z"⟩ : Cond) ∈ TG := tg_1 (i := 212) (by decide +kernel) rfl
theorem kw213 : (Cond.code ⟨"CarrierPaths", "charger", "(IZ)Z"⟩ prog_1_method_4_code 3 (some .boolean) : Cond) ∈ TG := tg_1 (i := 213) (by decide +kernel) rfl
theorem kw222 : (Cond.methodLink "CarrierPathsLaw" 90 ⟨"CarrierPaths", "assign", "()I"⟩ : Cond) ∈ TG := tg_1 (i := 222) (by decide +kernel) rfl
theorem kw223 : (Cond.instanceMethod ⟨"CarrierPaths", "assign", "()I"⟩ : Cond) ∈ TG := tg_1 (i := 223) (by decide +kernel) rfl
theorem kw224 : (Cond.selects "CarrierPaths" ⟨"CarrierPaths", "assign", "()I"⟩ ⟨"CarrierPaths", "assign", "()I"⟩ : Cond) ∈ TG := tg_1 (i := 224) (by decide +kernel) rfl
theorem kw225 : (Cond.code ⟨"CarrierPaths", "assign", "()I"⟩ prog_1_method_8_code 1 (some .int) : Cond) ∈ TG := tg_1 (i := 225) (by decide +kernel) rfl
theorem kw324 : (Cond.methodLink "CarrierPathsLaw" 100 ⟨"CarrierPaths", "close", "(IZ)Z"⟩ : Cond) ∈ TG := tg_2 (i := 84) (by decide +kernel) rfl
theorem kw325 : (Cond.instanceMethod ⟨"CarrierPaths", "close", "(IZ)Z"⟩ : Cond) ∈ TG := tg_2 (i := 85) (by decide +kernel) rfl
theorem kw326 : (Cond.selects "CarrierPaths" ⟨"CarrierPaths", "close", "(IZ)Z"⟩ ⟨"CarrierPaths", "close", "(IZ)Z"⟩ : Cond) ∈ TG := tg_2 (i := 86) (by decide +kernel) rfl
theorem kw327 : (Cond.code ⟨"CarrierPaths", "close", "(IZ)Z"⟩ prog_1_method_11_code 3 (some .boolean) : Cond) ∈ TG := tg_2 (i := 87) (by decide +kernel) rfl
theorem kw350 : (Cond.methodLink "CarrierPathsLaw" 116 ⟨"CarrierPaths", "count", "(I)I"⟩ : Cond) ∈ TG := tg_2 (i := 110) (by decide +kernel) rfl
theorem kw351 : (Cond.instanceMethod ⟨"CarrierPaths", "count", "(I)I"⟩ : Cond) ∈ TG := tg_2 (i := 111) (by decide +kernel) rfl
theorem kw352 : (Cond.selects "CarrierPaths" ⟨"CarrierPaths", "count", "(I)I"⟩ ⟨"CarrierPaths", "count", "(I)I"⟩ : Cond) ∈ TG := tg_2 (i := 112) (by decide +kernel) rfl
theorem kw353 : (Cond.code ⟨"CarrierPaths", "count", "(I)I"⟩ prog_1_method_16_code 3 (some .int) : Cond) ∈ TG := tg_2 (i := 113) (by decide +kernel) rfl
theorem kw409 : (Cond.methodLink "CarrierPathsLaw" 61 ⟨"CarrierPathsLaw", "piece", "(LCarrierPaths;III[J)I"⟩ : Cond) ∈ TG := tg_2 (i := 169) (by decide +kernel) rfl
theorem kw410 : (Cond.static ⟨"CarrierPathsLaw", "piece", "(LCarrierPaths;III[J)I"⟩ : Cond) ∈ TG := tg_2 (i := 170) (by decide +kernel) rfl
theorem kw411 : (Cond.codeWith ⟨"CarrierPathsLaw", "piece", "(LCarrierPaths;III[J)I"⟩ method_3_code 6 (some .int) [(0, 12, 15, 13), (0, 12, 19, 15)] : Cond) ∈ TG := tg_2 (i := 171) (by decide +kernel) rfl
theorem kw512 : (Cond.methodLink "CarrierPathsLaw" 79 ⟨"CarrierPathsLaw", "ring", "(LCarrierPaths;I[J)I"⟩ : Cond) ∈ TG := tg_3 (i := 32) (by decide +kernel) rfl
theorem kw513 : (Cond.static ⟨"CarrierPathsLaw", "ring", "(LCarrierPaths;I[J)I"⟩ : Cond) ∈ TG := tg_3 (i := 33) (by decide +kernel) rfl
theorem kw514 : (Cond.codeWith ⟨"CarrierPathsLaw", "ring", "(LCarrierPaths;I[J)I"⟩ method_4_code 4 (some .int) [(0, 9, 12, 13), (0, 9, 15, 15)] : Cond) ∈ TG := tg_3 (i := 34) (by decide +kernel) rfl
theorem kw529 : (Cond.methodLink "CarrierPathsLaw" 83 ⟨"CarrierPathsLaw", "carrier", "(LCarrierPaths;II[J)I"⟩ : Cond) ∈ TG := tg_3 (i := 49) (by decide +kernel) rfl
theorem kw530 : (Cond.static ⟨"CarrierPathsLaw", "carrier", "(LCarrierPaths;II[J)I"⟩ : Cond) ∈ TG := tg_3 (i := 50) (by decide +kernel) rfl
theorem kw531 : (Cond.codeWith ⟨"CarrierPathsLaw", "carrier", "(LCarrierPaths;II[J)I"⟩ method_5_code 5 (some .int) [(0, 10, 13, 13), (0, 10, 17, 15)] : Cond) ∈ TG := tg_3 (i := 51) (by decide +kernel) rfl
theorem kw547 : (Cond.methodLink "CarrierPathsLaw" 87 ⟨"CarrierPathsLaw", "job", "(LCarrierPaths;II[J)I"⟩ : Cond) ∈ TG := tg_3 (i := 67) (by decide +kernel) rfl
theorem kw548 : (Cond.static ⟨"CarrierPathsLaw", "job", "(LCarrierPaths;II[J)I"⟩ : Cond) ∈ TG := tg_3 (i := 68) (by decide +kernel) rfl
theorem kw549 : (Cond.codeWith ⟨"CarrierPathsLaw", "job", "(LCarrierPaths;II[J)I"⟩ method_6_code 5 (some .int) [(0, 10, 13, 13), (0, 10, 17, 15)] : Cond) ∈ TG := tg_3 (i := 69) (by decide +kernel) rfl
theorem kw559 : (Cond.methodLink "CarrierPathsLaw" 94 ⟨"CarrierPathsLaw", "step", "(LCarrierPaths;I[J)I"⟩ : Cond) ∈ TG := tg_3 (i := 79) (by decide +kernel) rfl
theorem kw560 : (Cond.static ⟨"CarrierPathsLaw", "step", "(LCarrierPaths;I[J)I"⟩ : Cond) ∈ TG := tg_3 (i := 80) (by decide +kernel) rfl
theorem kw561 : (Cond.codeWith ⟨"CarrierPathsLaw", "step", "(LCarrierPaths;I[J)I"⟩ method_7_code 4 (some .int) [(0, 9, 12, 31)] : Cond) ∈ TG := tg_3 (i := 81) (by decide +kernel) rfl
theorem kw661 : (Cond.methodLink "CarrierPathsLaw" 97 ⟨"CarrierPathsLaw", "tick", "(LCarrierPaths;I[J)I"⟩ : Cond) ∈ TG := tg_3 (i := 181) (by decide +kernel) rfl
theorem kw662 : (Cond.static ⟨"CarrierPathsLaw", "tick", "(LCarrierPaths;I[J)I"⟩ : Cond) ∈ TG := tg_3 (i := 182) (by decide +kernel) rfl
theorem kw663 : (Cond.codeWith ⟨"CarrierPathsLaw", "tick", "(LCarrierPaths;I[J)I"⟩ method_8_code 4 (some .int) [(0, 9, 12, 13)] : Cond) ∈ TG := tg_3 (i := 183) (by decide +kernel) rfl
theorem kw673 : (Cond.methodLink "CarrierPathsLaw" 104 ⟨"CarrierPathsLaw", "charge", "(LCarrierPaths;I[J)I"⟩ : Cond) ∈ TG := tg_3 (i := 193) (by decide +kernel) rfl
theorem kw674 : (Cond.static ⟨"CarrierPathsLaw", "charge", "(LCarrierPaths;I[J)I"⟩ : Cond) ∈ TG := tg_3 (i := 194) (by decide +kernel) rfl
theorem kw675 : (Cond.codeWith ⟨"CarrierPathsLaw", "charge", "(LCarrierPaths;I[J)I"⟩ method_9_code 4 (some .int) [(0, 16, 19, 31)] : Cond) ∈ TG := tg_3 (i := 195) (by decide +kernel) rfl
theorem kw684 : (Cond.methodLink "CarrierPathsLaw" 107 ⟨"CarrierPathsLaw", "way", "(LCarrierPaths;III[J)I"⟩ : Cond) ∈ TG := tg_3 (i := 204) (by decide +kernel) rfl
theorem kw685 : (Cond.static ⟨"CarrierPathsLaw", "way", "(LCarrierPaths;III[J)I"⟩ : Cond) ∈ TG := tg_3 (i := 205) (by decide +kernel) rfl
theorem kw686 : (Cond.codeWith ⟨"CarrierPathsLaw", "way", "(LCarrierPaths;III[J)I"⟩ method_10_code 6 (some .int) [(0, 12, 15, 13)] : Cond) ∈ TG := tg_3 (i := 206) (by decide +kernel) rfl
theorem kw702 : (Cond.methodLink "CarrierPathsLaw" 110 ⟨"CarrierPathsLaw", "look", "(LCarrierPaths;II[J)I"⟩ : Cond) ∈ TG := tg_3 (i := 222) (by decide +kernel) rfl
theorem kw703 : (Cond.static ⟨"CarrierPathsLaw", "look", "(LCarrierPaths;II[J)I"⟩ : Cond) ∈ TG := tg_3 (i := 223) (by decide +kernel) rfl
theorem kw704 : (Cond.codeWith ⟨"CarrierPathsLaw", "look", "(LCarrierPaths;II[J)I"⟩ method_11_code 5 (some .int) [(0, 10, 13, 31)] : Cond) ∈ TG := tg_3 (i := 224) (by decide +kernel) rfl
theorem kw725 : (Cond.methodLink "CarrierPathsLaw" 113 ⟨"CarrierPathsLaw", "of", "(LCarrierPaths;II[J)I"⟩ : Cond) ∈ TG := tg_4 (i := 5) (by decide +kernel) rfl
theorem kw726 : (Cond.static ⟨"CarrierPathsLaw", "of", "(LCarrierPaths;II[J)I"⟩ : Cond) ∈ TG := tg_4 (i := 6) (by decide +kernel) rfl
theorem kw727 : (Cond.codeWith ⟨"CarrierPathsLaw", "of", "(LCarrierPaths;II[J)I"⟩ method_12_code 5 (some .int) [(0, 10, 13, 31)] : Cond) ∈ TG := tg_4 (i := 7) (by decide +kernel) rfl
theorem kw837 : (Cond.methodLink "CarrierPathsLaw" 65 ⟨"CarrierPathsModel", "thrown", "()I"⟩ : Cond) ∈ TG := tg_4 (i := 117) (by decide +kernel) rfl
theorem kw838 : (Cond.instanceMethod ⟨"CarrierPathsModel", "thrown", "()I"⟩ : Cond) ∈ TG := tg_4 (i := 118) (by decide +kernel) rfl
theorem kw839 : (Cond.selects "CarrierPathsModel" ⟨"CarrierPathsModel", "thrown", "()I"⟩ ⟨"CarrierPathsModel", "thrown", "()I"⟩ : Cond) ∈ TG := tg_4 (i := 119) (by decide +kernel) rfl
theorem kw840 : (Cond.code ⟨"CarrierPathsModel", "thrown", "()I"⟩ prog_9_method_2_code 1 (some .int) : Cond) ∈ TG := tg_4 (i := 120) (by decide +kernel) rfl
theorem kw841 : (Cond.methodLink "CarrierPathsLaw" 109 ⟨"CarrierPathsModel", "way", "(III)I"⟩ : Cond) ∈ TG := tg_4 (i := 121) (by decide +kernel) rfl
theorem kw842 : (Cond.instanceMethod ⟨"CarrierPathsModel", "way", "(III)I"⟩ : Cond) ∈ TG := tg_4 (i := 122) (by decide +kernel) rfl
theorem kw843 : (Cond.selects "CarrierPathsModel" ⟨"CarrierPathsModel", "way", "(III)I"⟩ ⟨"CarrierPathsModel", "way", "(III)I"⟩ : Cond) ∈ TG := tg_4 (i := 123) (by decide +kernel) rfl
theorem kw844 : (Cond.code ⟨"CarrierPathsModel", "way", "(III)I"⟩ prog_9_method_10_code 6 (some .int) : Cond) ∈ TG := tg_4 (i := 124) (by decide +kernel) rfl
theorem kw865 : (Cond.methodLink "CarrierPathsLaw" 64 ⟨"CarrierPathsModel", "piece", "(III)I"⟩ : Cond) ∈ TG := tg_4 (i := 145) (by decide +kernel) rfl
theorem kw866 : (Cond.instanceMethod ⟨"CarrierPathsModel", "piece", "(III)I"⟩ : Cond) ∈ TG := tg_4 (i := 146) (by decide +kernel) rfl
theorem kw867 : (Cond.selects "CarrierPathsModel" ⟨"CarrierPathsModel", "piece", "(III)I"⟩ ⟨"CarrierPathsModel", "piece", "(III)I"⟩ : Cond) ∈ TG := tg_4 (i := 147) (by decide +kernel) rfl
theorem kw868 : (Cond.code ⟨"CarrierPathsModel", "piece", "(III)I"⟩ prog_9_method_14_code 4 (some .int) : Cond) ∈ TG := tg_4 (i := 148) (by decide +kernel) rfl
theorem kw869 : (Cond.methodLink "CarrierPathsLaw" 73 ⟨"CarrierPathsModel", "places", "(II)Z"⟩ : Cond) ∈ TG := tg_4 (i := 149) (by decide +kernel) rfl
theorem kw870 : (Cond.instanceMethod ⟨"CarrierPathsModel", "places", "(II)Z"⟩ : Cond) ∈ TG := tg_4 (i := 150) (by decide +kernel) rfl
theorem kw871 : (Cond.selects "CarrierPathsModel" ⟨"CarrierPathsModel", "places", "(II)Z"⟩ ⟨"CarrierPathsModel", "places", "(II)Z"⟩ : Cond) ∈ TG := tg_4 (i := 151) (by decide +kernel) rfl
theorem kw872 : (Cond.code ⟨"CarrierPathsModel", "places", "(II)Z"⟩ prog_9_method_15_code 3 (some .boolean) : Cond) ∈ TG := tg_4 (i := 152) (by decide +kernel) rfl
theorem kw877 : (Cond.methodLink "CarrierPathsLaw" 78 ⟨"CarrierPathsModel", "charger", "(IZ)Z"⟩ : Cond) ∈ TG := tg_4 (i := 157) (by decide +kernel) rfl
theorem kw878 : (Cond.instanceMethod ⟨"CarrierPathsModel", "charger", "(IZ)Z"⟩ : Cond) ∈ TG := tg_4 (i := 158) (by decide +kernel) rfl
theorem kw879 : (Cond.selects "CarrierPathsModel" ⟨"CarrierPathsModel", "charger", "(IZ)Z"⟩ ⟨"CarrierPathsModel", "charger", "(IZ)Z"⟩ : Cond) ∈ TG := tg_4 (i := 159) (by decide +kernel) rfl
theorem kw880 : (Cond.code ⟨"CarrierPathsModel", "charger", "(IZ)Z"⟩ prog_9_method_16_code 3 (some .boolean) : Cond) ∈ TG := tg_4 (i := 160) (by decide +kernel) rfl
theorem kw881 : (Cond.methodLink "CarrierPathsLaw" 82 ⟨"CarrierPathsModel", "ring", "(I)I"⟩ : Cond) ∈ TG := tg_4 (i := 161) (by decide +kernel) rfl
theorem kw882 : (Cond.instanceMethod ⟨"CarrierPathsModel", "ring", "(I)I"⟩ : Cond) ∈ TG := tg_4 (i := 162) (by decide +kernel) rfl
theorem kw883 : (Cond.selects "CarrierPathsModel" ⟨"CarrierPathsModel", "ring", "(I)I"⟩ ⟨"CarrierPathsModel", "ring", "(I)I"⟩ : Cond) ∈ TG := tg_4 (i := 163) (by decide +kernel) rfl
theorem kw884 : (Cond.code ⟨"CarrierPathsModel", "ring", "(I)I"⟩ prog_9_method_17_code 2 (some .int) : Cond) ∈ TG := tg_4 (i := 164) (by decide +kernel) rfl
theorem kw885 : (Cond.methodLink "CarrierPathsLaw" 86 ⟨"CarrierPathsModel", "carrier", "(II)I"⟩ : Cond) ∈ TG := tg_4 (i := 165) (by decide +kernel) rfl
theorem kw886 : (Cond.instanceMethod ⟨"CarrierPathsModel", "carrier", "(II)I"⟩ : Cond) ∈ TG := tg_4 (i := 166) (by decide +kernel) rfl
theorem kw887 : (Cond.selects "CarrierPathsModel" ⟨"CarrierPathsModel", "carrier", "(II)I"⟩ ⟨"CarrierPathsModel", "carrier", "(II)I"⟩ : Cond) ∈ TG := tg_4 (i := 167) (by decide +kernel) rfl
theorem kw888 : (Cond.code ⟨"CarrierPathsModel", "carrier", "(II)I"⟩ prog_9_method_18_code 3 (some .int) : Cond) ∈ TG := tg_4 (i := 168) (by decide +kernel) rfl
theorem kw889 : (Cond.methodLink "CarrierPathsLaw" 89 ⟨"CarrierPathsModel", "job", "(II)I"⟩ : Cond) ∈ TG := tg_4 (i := 169) (by decide +kernel) rfl
theorem kw890 : (Cond.instanceMethod ⟨"CarrierPathsModel", "job", "(II)I"⟩ : Cond) ∈ TG := tg_4 (i := 170) (by decide +kernel) rfl
theorem kw891 : (Cond.selects "CarrierPathsModel" ⟨"CarrierPathsModel", "job", "(II)I"⟩ ⟨"CarrierPathsModel", "job", "(II)I"⟩ : Cond) ∈ TG := tg_4 (i := 171) (by decide +kernel) rfl
theorem kw892 : (Cond.code ⟨"CarrierPathsModel", "job", "(II)I"⟩ prog_9_method_19_code 3 (some .int) : Cond) ∈ TG := tg_4 (i := 172) (by decide +kernel) rfl
theorem kw893 : (Cond.methodLink "CarrierPathsLaw" 93 ⟨"CarrierPathsModel", "assign", "()I"⟩ : Cond) ∈ TG := tg_4 (i := 173) (by decide +kernel) rfl
theorem kw894 : (Cond.instanceMethod ⟨"CarrierPathsModel", "assign", "()I"⟩ : Cond) ∈ TG := tg_4 (i := 174) (by decide +kernel) rfl
theorem kw895 : (Cond.selects "CarrierPathsModel" ⟨"CarrierPathsModel", "assign", "()I"⟩ ⟨"CarrierPathsModel", "assign", "()I"⟩ : Cond) ∈ TG := tg_4 (i := 175) (by decide +kernel) rfl
theorem kw896 : (Cond.code ⟨"CarrierPathsModel", "assign", "()I"⟩ prog_9_method_22_code 8 (some .int) : Cond) ∈ TG := tg_4 (i := 176) (by decide +kernel) rfl
theorem kw910 : (Cond.methodLink "CarrierPathsLaw" 96 ⟨"CarrierPathsModel", "step", "(I)I"⟩ : Cond) ∈ TG := tg_4 (i := 190) (by decide +kernel) rfl
theorem kw911 : (Cond.instanceMethod ⟨"CarrierPathsModel", "step", "(I)I"⟩ : Cond) ∈ TG := tg_4 (i := 191) (by decide +kernel) rfl
theorem kw912 : (Cond.selects "CarrierPathsModel" ⟨"CarrierPathsModel", "step", "(I)I"⟩ ⟨"CarrierPathsModel", "step", "(I)I"⟩ : Cond) ∈ TG := tg_4 (i := 192) (by decide +kernel) rfl
theorem kw913 : (Cond.code ⟨"CarrierPathsModel", "step", "(I)I"⟩ prog_9_method_26_code 3 (some .int) : Cond) ∈ TG := tg_4 (i := 193) (by decide +kernel) rfl
theorem kw938 : (Cond.methodLink "CarrierPathsLaw" 99 ⟨"CarrierPathsModel", "tick", "(I)I"⟩ : Cond) ∈ TG := tg_4 (i := 218) (by decide +kernel) rfl
theorem kw939 : (Cond.instanceMethod ⟨"CarrierPathsModel", "tick", "(I)I"⟩ : Cond) ∈ TG := tg_4 (i := 219) (by decide +kernel) rfl
theorem kw940 : (Cond.selects "CarrierPathsModel" ⟨"CarrierPathsModel", "tick", "(I)I"⟩ ⟨"CarrierPathsModel", "tick", "(I)I"⟩ : Cond) ∈ TG := tg_4 (i := 220) (by decide +kernel) rfl
theorem kw941 : (Cond.code ⟨"CarrierPathsModel", "tick", "(I)I"⟩ prog_9_method_27_code 4 (some .int) : Cond) ∈ TG := tg_4 (i := 221) (by decide +kernel) rfl
theorem kw943 : (Cond.methodLink "CarrierPathsLaw" 103 ⟨"CarrierPathsModel", "close", "(IZ)Z"⟩ : Cond) ∈ TG := tg_4 (i := 223) (by decide +kernel) rfl
theorem kw944 : (Cond.instanceMethod ⟨"CarrierPathsModel", "close", "(IZ)Z"⟩ : Cond) ∈ TG := tg_4 (i := 224) (by decide +kernel) rfl
theorem kw945 : (Cond.selects "CarrierPathsModel" ⟨"CarrierPathsModel", "close", "(IZ)Z"⟩ ⟨"CarrierPathsModel", "close", "(IZ)Z"⟩ : Cond) ∈ TG := tg_4 (i := 225) (by decide +kernel) rfl
theorem kw946 : (Cond.code ⟨"CarrierPathsModel", "close", "(IZ)Z"⟩ prog_9_method_28_code 3 (some .boolean) : Cond) ∈ TG := tg_4 (i := 226) (by decide +kernel) rfl
theorem kw947 : (Cond.methodLink "CarrierPathsLaw" 106 ⟨"CarrierPathsModel", "charge", "(I)Z"⟩ : Cond) ∈ TG := tg_4 (i := 227) (by decide +kernel) rfl
theorem kw948 : (Cond.instanceMethod ⟨"CarrierPathsModel", "charge", "(I)Z"⟩ : Cond) ∈ TG := tg_4 (i := 228) (by decide +kernel) rfl
theorem kw949 : (Cond.selects "CarrierPathsModel" ⟨"CarrierPathsModel", "charge", "(I)Z"⟩ ⟨"CarrierPathsModel", "charge", "(I)Z"⟩ : Cond) ∈ TG := tg_4 (i := 229) (by decide +kernel) rfl
theorem kw950 : (Cond.code ⟨"CarrierPathsModel", "charge", "(I)Z"⟩ prog_9_method_29_code 2 (some .boolean) : Cond) ∈ TG := tg_4 (i := 230) (by decide +kernel) rfl
theorem kw951 : (Cond.methodLink "CarrierPathsLaw" 112 ⟨"CarrierPathsModel", "look", "(II)I"⟩ : Cond) ∈ TG := tg_4 (i := 231) (by decide +kernel) rfl
theorem kw952 : (Cond.instanceMethod ⟨"CarrierPathsModel", "look", "(II)I"⟩ : Cond) ∈ TG := tg_4 (i := 232) (by decide +kernel) rfl
theorem kw953 : (Cond.selects "CarrierPathsModel" ⟨"CarrierPathsModel", "look", "(II)I"⟩ ⟨"CarrierPathsModel", "look", "(II)I"⟩ : Cond) ∈ TG := tg_4 (i := 233) (by decide +kernel) rfl
theorem kw954 : (Cond.code ⟨"CarrierPathsModel", "look", "(II)I"⟩ prog_9_method_30_code 3 (some .int) : Cond) ∈ TG := tg_4 (i := 234) (by decide +kernel) rfl
theorem kw955 : (Cond.methodLink "CarrierPathsLaw" 115 ⟨"CarrierPathsModel", "of", "(II)I"⟩ : Cond) ∈ TG := tg_4 (i := 235) (by decide +kernel) rfl
theorem kw956 : (Cond.instanceMethod ⟨"CarrierPathsModel", "of", "(II)I"⟩ : Cond) ∈ TG := tg_4 (i := 236) (by decide +kernel) rfl
theorem kw957 : (Cond.selects "CarrierPathsModel" ⟨"CarrierPathsModel", "of", "(II)I"⟩ ⟨"CarrierPathsModel", "of", "(II)I"⟩ : Cond) ∈ TG := tg_4 (i := 237) (by decide +kernel) rfl
theorem kw958 : (Cond.code ⟨"CarrierPathsModel", "of", "(II)I"⟩ prog_9_method_31_code 3 (some .int) : Cond) ∈ TG := tg_4 (i := 238) (by decide +kernel) rfl
theorem kw959 : (Cond.methodLink "CarrierPathsLaw" 119 ⟨"CarrierPathsModel", "count", "(I)I"⟩ : Cond) ∈ TG := tg_4 (i := 239) (by decide +kernel) rfl
theorem kw960 : (Cond.instanceMethod ⟨"CarrierPathsModel", "count", "(I)I"⟩ : Cond) ∈ TG := tg_5 (i := 0) (by decide +kernel) rfl
theorem kw961 : (Cond.selects "CarrierPathsModel" ⟨"CarrierPathsModel", "count", "(I)I"⟩ ⟨"CarrierPathsModel", "count", "(I)I"⟩ : Cond) ∈ TG := tg_5 (i := 1) (by decide +kernel) rfl
theorem kw962 : (Cond.code ⟨"CarrierPathsModel", "count", "(I)I"⟩ prog_9_method_33_code 5 (some .int) : Cond) ∈ TG := tg_5 (i := 2) (by decide +kernel) rfl
theorem d_Law_law_0 : decode code 0 = .ok (.new 8, 3) := by decide +kernel
theorem d_Law_law_3 : decode code 3 = .ok (.dup, 1) := by decide +kernel
theorem d_Law_law_4 : decode code 4 = .ok (.aload_n 0, 1) := by decide +kernel
theorem d_Law_law_5 : decode code 5 = .ok (.iconst 0, 1) := by decide +kernel
theorem d_Law_law_6 : decode code 6 = .ok (.invokestatic 49, 3) := by decide +kernel
theorem d_Law_law_9 : decode code 9 = .ok (.invokespecial 55, 3) := by decide +kernel
theorem d_Law_law_12 : decode code 12 = .ok (.astore_n 1, 1) := by decide +kernel
theorem d_Law_law_13 : decode code 13 = .ok (.new 58, 3) := by decide +kernel
theorem d_Law_law_16 : decode code 16 = .ok (.dup, 1) := by decide +kernel
theorem d_Law_law_17 : decode code 17 = .ok (.aload_n 0, 1) := by decide +kernel
theorem d_Law_law_18 : decode code 18 = .ok (.iconst 0, 1) := by decide +kernel
theorem d_Law_law_19 : decode code 19 = .ok (.invokestatic 49, 3) := by decide +kernel
theorem d_Law_law_22 : decode code 22 = .ok (.invokespecial 60, 3) := by decide +kernel
theorem d_Law_law_25 : decode code 25 = .ok (.astore_n 2, 1) := by decide +kernel
theorem d_Law_law_26 : decode code 26 = .ok (.iconst 1, 1) := by decide +kernel
theorem d_Law_law_27 : decode code 27 = .ok (.newarray .long, 2) := by decide +kernel
theorem d_Law_law_29 : decode code 29 = .ok (.astore_n 3, 1) := by decide +kernel
theorem d_Law_law_30 : decode code 30 = .ok (.iconst 1, 1) := by decide +kernel
theorem d_Law_law_31 : decode code 31 = .ok (.istore 4, 2) := by decide +kernel
theorem d_Law_law_33 : decode code 33 = .ok (.iload 4, 2) := by decide +kernel
theorem d_Law_law_35 : decode code 35 = .ok (.aload_n 0, 1) := by decide +kernel
theorem d_Law_law_36 : decode code 36 = .ok (.arraylength, 1) := by decide +kernel
theorem d_Law_law_37 : decode code 37 = .ok (.iconst 4, 1) := by decide +kernel
theorem d_Law_law_38 : decode code 38 = .ok (.isub, 1) := by decide +kernel
theorem d_Law_law_39 : decode code 39 = .ok (.if_icmp .gt 935, 3) := by decide +kernel
theorem d_Law_law_42 : decode code 42 = .ok (.aload_n 0, 1) := by decide +kernel
theorem d_Law_law_43 : decode code 43 = .ok (.iload 4, 2) := by decide +kernel
theorem d_Law_law_45 : decode code 45 = .ok (.iaload, 1) := by decide +kernel
theorem d_Law_law_46 : decode code 46 = .ok (.bipush 15, 2) := by decide +kernel
theorem d_Law_law_48 : decode code 48 = .ok (.iand, 1) := by decide +kernel
theorem d_Law_law_49 : decode code 49 = .ok (.tableswitch 919 0 14 #[75, 155, 192, 245, 301, 369, 437, 450, 506, 562, 615, 678, 758, 826, 894], 75) := by decide +kernel
theorem d_Law_law_124 : decode code 124 = .ok (.aload_n 1, 1) := by decide +kernel
theorem d_Law_law_125 : decode code 125 = .ok (.aload_n 0, 1) := by decide +kernel
theorem d_Law_law_126 : decode code 126 = .ok (.iload 4, 2) := by decide +kernel
theorem d_Law_law_128 : decode code 128 = .ok (.iconst 1, 1) := by decide +kernel
theorem d_Law_law_129 : decode code 129 = .ok (.iadd, 1) := by decide +kernel
theorem d_Law_law_130 : decode code 130 = .ok (.iaload, 1) := by decide +kernel
theorem d_Law_law_131 : decode code 131 = .ok (.aload_n 0, 1) := by decide +kernel
theorem d_Law_law_132 : decode code 132 = .ok (.iload 4, 2) := by decide +kernel
theorem d_Law_law_134 : decode code 134 = .ok (.iconst 2, 1) := by decide +kernel
theorem d_Law_law_135 : decode code 135 = .ok (.iadd, 1) := by decide +kernel
theorem d_Law_law_136 : decode code 136 = .ok (.iaload, 1) := by decide +kernel
theorem d_Law_law_137 : decode code 137 = .ok (.aload_n 0, 1) := by decide +kernel
theorem d_Law_law_138 : decode code 138 = .ok (.iload 4, 2) := by decide +kernel
theorem d_Law_law_140 : decode code 140 = .ok (.iconst 3, 1) := by decide +kernel
theorem d_Law_law_141 : decode code 141 = .ok (.iadd, 1) := by decide +kernel
theorem d_Law_law_142 : decode code 142 = .ok (.iaload, 1) := by decide +kernel
theorem d_Law_law_143 : decode code 143 = .ok (.aload_n 3, 1) := by decide +kernel
theorem d_Law_law_144 : decode code 144 = .ok (.invokestatic 61, 3) := by decide +kernel
theorem d_Law_law_147 : decode code 147 = .ok (.istore 5, 2) := by decide +kernel
theorem d_Law_law_149 : decode code 149 = .ok (.aload_n 2, 1) := by decide +kernel
theorem d_Law_law_150 : decode code 150 = .ok (.aload_n 0, 1) := by decide +kernel
theorem d_Law_law_151 : decode code 151 = .ok (.iload 4, 2) := by decide +kernel
theorem d_Law_law_153 : decode code 153 = .ok (.iconst 1, 1) := by decide +kernel
theorem d_Law_law_154 : decode code 154 = .ok (.iadd, 1) := by decide +kernel
theorem d_Law_law_155 : decode code 155 = .ok (.iaload, 1) := by decide +kernel
theorem d_Law_law_156 : decode code 156 = .ok (.aload_n 0, 1) := by decide +kernel
theorem d_Law_law_157 : decode code 157 = .ok (.iload 4, 2) := by decide +kernel
theorem d_Law_law_159 : decode code 159 = .ok (.iconst 2, 1) := by decide +kernel
theorem d_Law_law_160 : decode code 160 = .ok (.iadd, 1) := by decide +kernel
theorem d_Law_law_161 : decode code 161 = .ok (.iaload, 1) := by decide +kernel
theorem d_Law_law_162 : decode code 162 = .ok (.aload_n 0, 1) := by decide +kernel
theorem d_Law_law_163 : decode code 163 = .ok (.iload 4, 2) := by decide +kernel
theorem d_Law_law_165 : decode code 165 = .ok (.iconst 3, 1) := by decide +kernel
theorem d_Law_law_166 : decode code 166 = .ok (.iadd, 1) := by decide +kernel
theorem d_Law_law_167 : decode code 167 = .ok (.iaload, 1) := by decide +kernel
theorem d_Law_law_168 : decode code 168 = .ok (.invokevirtual 64, 3) := by decide +kernel
theorem d_Law_law_171 : decode code 171 = .ok (.istore 6, 2) := by decide +kernel
theorem d_Law_law_173 : decode code 173 = .ok (.aload_n 2, 1) := by decide +kernel
theorem d_Law_law_174 : decode code 174 = .ok (.invokevirtual 65, 3) := by decide +kernel
theorem d_Law_law_177 : decode code 177 = .ok (.iload 5, 2) := by decide +kernel
theorem d_Law_law_179 : decode code 179 = .ok (.if_icmp .eq 5, 3) := by decide +kernel
theorem d_Law_law_182 : decode code 182 = .ok (.iconst 0, 1) := by decide +kernel
theorem d_Law_law_183 : decode code 183 = .ok (.ireturn, 1) := by decide +kernel
theorem d_Law_law_184 : decode code 184 = .ok (.iload 5, 2) := by decide +kernel
theorem d_Law_law_186 : decode code 186 = .ok (.ifCond .ne 15, 3) := by decide +kernel
theorem d_Law_law_189 : decode code 189 = .ok (.aload_n 3, 1) := by decide +kernel
theorem d_Law_law_190 : decode code 190 = .ok (.iconst 0, 1) := by decide +kernel
theorem d_Law_law_191 : decode code 191 = .ok (.laload, 1) := by decide +kernel
theorem d_Law_law_192 : decode code 192 = .ok (.iload 6, 2) := by decide +kernel
theorem d_Law_law_194 : decode code 194 = .ok (.i2l, 1) := by decide +kernel
theorem d_Law_law_195 : decode code 195 = .ok (.lcmp, 1) := by decide +kernel
theorem d_Law_law_196 : decode code 196 = .ok (.ifCond .eq 5, 3) := by decide +kernel
theorem d_Law_law_199 : decode code 199 = .ok (.iconst 0, 1) := by decide +kernel
theorem d_Law_law_200 : decode code 200 = .ok (.ireturn, 1) := by decide +kernel
theorem d_Law_law_201 : decode code 201 = .ok (.goto 767, 3) := by decide +kernel
theorem d_Law_law_204 : decode code 204 = .ok (.aload_n 1, 1) := by decide +kernel
theorem d_Law_law_205 : decode code 205 = .ok (.aload_n 0, 1) := by decide +kernel
theorem d_Law_law_206 : decode code 206 = .ok (.iload 4, 2) := by decide +kernel
theorem d_Law_law_208 : decode code 208 = .ok (.iconst 1, 1) := by decide +kernel
theorem d_Law_law_209 : decode code 209 = .ok (.iadd, 1) := by decide +kernel
theorem d_Law_law_210 : decode code 210 = .ok (.iaload, 1) := by decide +kernel
theorem d_Law_law_211 : decode code 211 = .ok (.aload_n 0, 1) := by decide +kernel
theorem d_Law_law_212 : decode code 212 = .ok (.iload 4, 2) := by decide +kernel
theorem d_Law_law_214 : decode code 214 = .ok (.iconst 2, 1) := by decide +kernel
theorem d_Law_law_215 : decode code 215 = .ok (.iadd, 1) := by decide +kernel
theorem d_Law_law_216 : decode code 216 = .ok (.iaload, 1) := by decide +kernel
theorem d_Law_law_217 : decode code 217 = .ok (.invokevirtual 69, 3) := by decide +kernel
theorem d_Law_law_220 : decode code 220 = .ok (.aload_n 2, 1) := by decide +kernel
theorem d_Law_law_221 : decode code 221 = .ok (.aload_n 0, 1) := by decide +kernel
theorem d_Law_law_222 : decode code 222 = .ok (.iload 4, 2) := by decide +kernel
theorem d_Law_law_224 : decode code 224 = .ok (.iconst 1, 1) := by decide +kernel
theorem d_Law_law_225 : decode code 225 = .ok (.iadd, 1) := by decide +kernel
theorem d_Law_law_226 : decode code 226 = .ok (.iaload, 1) := by decide +kernel
theorem d_Law_law_227 : decode code 227 = .ok (.aload_n 0, 1) := by decide +kernel
theorem d_Law_law_228 : decode code 228 = .ok (.iload 4, 2) := by decide +kernel
theorem d_Law_law_230 : decode code 230 = .ok (.iconst 2, 1) := by decide +kernel
theorem d_Law_law_231 : decode code 231 = .ok (.iadd, 1) := by decide +kernel
theorem d_Law_law_232 : decode code 232 = .ok (.iaload, 1) := by decide +kernel
theorem d_Law_law_233 : decode code 233 = .ok (.invokevirtual 73, 3) := by decide +kernel
theorem d_Law_law_236 : decode code 236 = .ok (.if_icmp .eq 732, 3) := by decide +kernel
theorem d_Law_law_239 : decode code 239 = .ok (.iconst 0, 1) := by decide +kernel
theorem d_Law_law_240 : decode code 240 = .ok (.ireturn, 1) := by decide +kernel
theorem d_Law_law_241 : decode code 241 = .ok (.aload_n 1, 1) := by decide +kernel
theorem d_Law_law_242 : decode code 242 = .ok (.aload_n 0, 1) := by decide +kernel
theorem d_Law_law_243 : decode code 243 = .ok (.iload 4, 2) := by decide +kernel
theorem d_Law_law_245 : decode code 245 = .ok (.iconst 1, 1) := by decide +kernel
theorem d_Law_law_246 : decode code 246 = .ok (.iadd, 1) := by decide +kernel
theorem d_Law_law_247 : decode code 247 = .ok (.iaload, 1) := by decide +kernel
theorem d_Law_law_248 : decode code 248 = .ok (.aload_n 0, 1) := by decide +kernel
theorem d_Law_law_249 : decode code 249 = .ok (.iload 4, 2) := by decide +kernel
theorem d_Law_law_251 : decode code 251 = .ok (.iconst 2, 1) := by decide +kernel
theorem d_Law_law_252 : decode code 252 = .ok (.iadd, 1) := by decide +kernel
theorem d_Law_law_253 : decode code 253 = .ok (.iaload, 1) := by decide +kernel
theorem d_Law_law_254 : decode code 254 = .ok (.ifCond .eq 7, 3) := by decide +kernel
theorem d_Law_law_257 : decode code 257 = .ok (.iconst 1, 1) := by decide +kernel
theorem d_Law_law_258 : decode code 258 = .ok (.goto 4, 3) := by decide +kernel
theorem d_Law_law_261 : decode code 261 = .ok (.iconst 0, 1) := by decide +kernel
theorem d_Law_law_262 : decode code 262 = .ok (.invokevirtual 74, 3) := by decide +kernel
theorem d_Law_law_265 : decode code 265 = .ok (.aload_n 2, 1) := by decide +kernel
theorem d_Law_law_266 : decode code 266 = .ok (.aload_n 0, 1) := by decide +kernel
theorem d_Law_law_267 : decode code 267 = .ok (.iload 4, 2) := by decide +kernel
theorem d_Law_law_269 : decode code 269 = .ok (.iconst 1, 1) := by decide +kernel
theorem d_Law_law_270 : decode code 270 = .ok (.iadd, 1) := by decide +kernel
theorem d_Law_law_271 : decode code 271 = .ok (.iaload, 1) := by decide +kernel
theorem d_Law_law_272 : decode code 272 = .ok (.aload_n 0, 1) := by decide +kernel
theorem d_Law_law_273 : decode code 273 = .ok (.iload 4, 2) := by decide +kernel
theorem d_Law_law_275 : decode code 275 = .ok (.iconst 2, 1) := by decide +kernel
theorem d_Law_law_276 : decode code 276 = .ok (.iadd, 1) := by decide +kernel
theorem d_Law_law_277 : decode code 277 = .ok (.iaload, 1) := by decide +kernel
theorem d_Law_law_278 : decode code 278 = .ok (.ifCond .eq 7, 3) := by decide +kernel
theorem d_Law_law_281 : decode code 281 = .ok (.iconst 1, 1) := by decide +kernel
theorem d_Law_law_282 : decode code 282 = .ok (.goto 4, 3) := by decide +kernel
theorem d_Law_law_285 : decode code 285 = .ok (.iconst 0, 1) := by decide +kernel
theorem d_Law_law_286 : decode code 286 = .ok (.invokevirtual 78, 3) := by decide +kernel
theorem d_Law_law_289 : decode code 289 = .ok (.if_icmp .eq 679, 3) := by decide +kernel
theorem d_Law_law_292 : decode code 292 = .ok (.iconst 0, 1) := by decide +kernel
theorem d_Law_law_293 : decode code 293 = .ok (.ireturn, 1) := by decide +kernel
theorem d_Law_law_294 : decode code 294 = .ok (.aload_n 1, 1) := by decide +kernel
theorem d_Law_law_295 : decode code 295 = .ok (.aload_n 0, 1) := by decide +kernel
theorem d_Law_law_296 : decode code 296 = .ok (.iload 4, 2) := by decide +kernel
theorem d_Law_law_298 : decode code 298 = .ok (.iconst 1, 1) := by decide +kernel
theorem d_Law_law_299 : decode code 299 = .ok (.iadd, 1) := by decide +kernel
theorem d_Law_law_300 : decode code 300 = .ok (.iaload, 1) := by decide +kernel
theorem d_Law_law_301 : decode code 301 = .ok (.aload_n 3, 1) := by decide +kernel
theorem d_Law_law_302 : decode code 302 = .ok (.invokestatic 79, 3) := by decide +kernel
theorem d_Law_law_305 : decode code 305 = .ok (.istore 5, 2) := by decide +kernel
theorem d_Law_law_307 : decode code 307 = .ok (.aload_n 2, 1) := by decide +kernel
theorem d_Law_law_308 : decode code 308 = .ok (.aload_n 0, 1) := by decide +kernel
theorem d_Law_law_309 : decode code 309 = .ok (.iload 4, 2) := by decide +kernel
theorem d_Law_law_311 : decode code 311 = .ok (.iconst 1, 1) := by decide +kernel
theorem d_Law_law_312 : decode code 312 = .ok (.iadd, 1) := by decide +kernel
theorem d_Law_law_313 : decode code 313 = .ok (.iaload, 1) := by decide +kernel
theorem d_Law_law_314 : decode code 314 = .ok (.invokevirtual 82, 3) := by decide +kernel
theorem d_Law_law_317 : decode code 317 = .ok (.istore 6, 2) := by decide +kernel
theorem d_Law_law_319 : decode code 319 = .ok (.aload_n 2, 1) := by decide +kernel
theorem d_Law_law_320 : decode code 320 = .ok (.invokevirtual 65, 3) := by decide +kernel
theorem d_Law_law_323 : decode code 323 = .ok (.iload 5, 2) := by decide +kernel
theorem d_Law_law_325 : decode code 325 = .ok (.if_icmp .eq 5, 3) := by decide +kernel
theorem d_Law_law_328 : decode code 328 = .ok (.iconst 0, 1) := by decide +kernel
theorem d_Law_law_329 : decode code 329 = .ok (.ireturn, 1) := by decide +kernel
theorem d_Law_law_330 : decode code 330 = .ok (.iload 5, 2) := by decide +kernel
theorem d_Law_law_332 : decode code 332 = .ok (.ifCond .ne 15, 3) := by decide +kernel
theorem d_Law_law_335 : decode code 335 = .ok (.aload_n 3, 1) := by decide +kernel
theorem d_Law_law_336 : decode code 336 = .ok (.iconst 0, 1) := by decide +kernel
theorem d_Law_law_337 : decode code 337 = .ok (.laload, 1) := by decide +kernel
theorem d_Law_law_338 : decode code 338 = .ok (.iload 6, 2) := by decide +kernel
theorem d_Law_law_340 : decode code 340 = .ok (.i2l, 1) := by decide +kernel
theorem d_Law_law_341 : decode code 341 = .ok (.lcmp, 1) := by decide +kernel
theorem d_Law_law_342 : decode code 342 = .ok (.ifCond .eq 5, 3) := by decide +kernel
theorem d_Law_law_345 : decode code 345 = .ok (.iconst 0, 1) := by decide +kernel
theorem d_Law_law_346 : decode code 346 = .ok (.ireturn, 1) := by decide +kernel
theorem d_Law_law_347 : decode code 347 = .ok (.goto 621, 3) := by decide +kernel
theorem d_Law_law_350 : decode code 350 = .ok (.aload_n 1, 1) := by decide +kernel
theorem d_Law_law_351 : decode code 351 = .ok (.aload_n 0, 1) := by decide +kernel
theorem d_Law_law_352 : decode code 352 = .ok (.iload 4, 2) := by decide +kernel
theorem d_Law_law_354 : decode code 354 = .ok (.iconst 1, 1) := by decide +kernel
theorem d_Law_law_355 : decode code 355 = .ok (.iadd, 1) := by decide +kernel
theorem d_Law_law_356 : decode code 356 = .ok (.iaload, 1) := by decide +kernel
theorem d_Law_law_357 : decode code 357 = .ok (.aload_n 0, 1) := by decide +kernel
theorem d_Law_law_358 : decode code 358 = .ok (.iload 4, 2) := by decide +kernel
theorem d_Law_law_360 : decode code 360 = .ok (.iconst 2, 1) := by decide +kernel
theorem d_Law_law_361 : decode code 361 = .ok (.iadd, 1) := by decide +kernel
theorem d_Law_law_362 : decode code 362 = .ok (.iaload, 1) := by decide +kernel
theorem d_Law_law_363 : decode code 363 = .ok (.aload_n 3, 1) := by decide +kernel
theorem d_Law_law_364 : decode code 364 = .ok (.invokestatic 83, 3) := by decide +kernel
theorem d_Law_law_367 : decode code 367 = .ok (.istore 5, 2) := by decide +kernel
theorem d_Law_law_369 : decode code 369 = .ok (.aload_n 2, 1) := by decide +kernel
theorem d_Law_law_370 : decode code 370 = .ok (.aload_n 0, 1) := by decide +kernel
theorem d_Law_law_371 : decode code 371 = .ok (.iload 4, 2) := by decide +kernel
theorem d_Law_law_373 : decode code 373 = .ok (.iconst 1, 1) := by decide +kernel
theorem d_Law_law_374 : decode code 374 = .ok (.iadd, 1) := by decide +kernel
theorem d_Law_law_375 : decode code 375 = .ok (.iaload, 1) := by decide +kernel
theorem d_Law_law_376 : decode code 376 = .ok (.aload_n 0, 1) := by decide +kernel
theorem d_Law_law_377 : decode code 377 = .ok (.iload 4, 2) := by decide +kernel
theorem d_Law_law_379 : decode code 379 = .ok (.iconst 2, 1) := by decide +kernel
theorem d_Law_law_380 : decode code 380 = .ok (.iadd, 1) := by decide +kernel
theorem d_Law_law_381 : decode code 381 = .ok (.iaload, 1) := by decide +kernel
theorem d_Law_law_382 : decode code 382 = .ok (.invokevirtual 86, 3) := by decide +kernel
theorem d_Law_law_385 : decode code 385 = .ok (.istore 6, 2) := by decide +kernel
theorem d_Law_law_387 : decode code 387 = .ok (.aload_n 2, 1) := by decide +kernel
theorem d_Law_law_388 : decode code 388 = .ok (.invokevirtual 65, 3) := by decide +kernel
theorem d_Law_law_391 : decode code 391 = .ok (.iload 5, 2) := by decide +kernel
theorem d_Law_law_393 : decode code 393 = .ok (.if_icmp .eq 5, 3) := by decide +kernel
theorem d_Law_law_396 : decode code 396 = .ok (.iconst 0, 1) := by decide +kernel
theorem d_Law_law_397 : decode code 397 = .ok (.ireturn, 1) := by decide +kernel
theorem d_Law_law_398 : decode code 398 = .ok (.iload 5, 2) := by decide +kernel
theorem d_Law_law_400 : decode code 400 = .ok (.ifCond .ne 15, 3) := by decide +kernel
theorem d_Law_law_403 : decode code 403 = .ok (.aload_n 3, 1) := by decide +kernel
theorem d_Law_law_404 : decode code 404 = .ok (.iconst 0, 1) := by decide +kernel
theorem d_Law_law_405 : decode code 405 = .ok (.laload, 1) := by decide +kernel
theorem d_Law_law_406 : decode code 406 = .ok (.iload 6, 2) := by decide +kernel
theorem d_Law_law_408 : decode code 408 = .ok (.i2l, 1) := by decide +kernel
theorem d_Law_law_409 : decode code 409 = .ok (.lcmp, 1) := by decide +kernel
theorem d_Law_law_410 : decode code 410 = .ok (.ifCond .eq 5, 3) := by decide +kernel
theorem d_Law_law_413 : decode code 413 = .ok (.iconst 0, 1) := by decide +kernel
theorem d_Law_law_414 : decode code 414 = .ok (.ireturn, 1) := by decide +kernel
theorem d_Law_law_415 : decode code 415 = .ok (.goto 553, 3) := by decide +kernel
theorem d_Law_law_418 : decode code 418 = .ok (.aload_n 1, 1) := by decide +kernel
theorem d_Law_law_419 : decode code 419 = .ok (.aload_n 0, 1) := by decide +kernel
theorem d_Law_law_420 : decode code 420 = .ok (.iload 4, 2) := by decide +kernel
theorem d_Law_law_422 : decode code 422 = .ok (.iconst 1, 1) := by decide +kernel
theorem d_Law_law_423 : decode code 423 = .ok (.iadd, 1) := by decide +kernel
theorem d_Law_law_424 : decode code 424 = .ok (.iaload, 1) := by decide +kernel
theorem d_Law_law_425 : decode code 425 = .ok (.aload_n 0, 1) := by decide +kernel
theorem d_Law_law_426 : decode code 426 = .ok (.iload 4, 2) := by decide +kernel
theorem d_Law_law_428 : decode code 428 = .ok (.iconst 2, 1) := by decide +kernel
theorem d_Law_law_429 : decode code 429 = .ok (.iadd, 1) := by decide +kernel
theorem d_Law_law_430 : decode code 430 = .ok (.iaload, 1) := by decide +kernel
theorem d_Law_law_431 : decode code 431 = .ok (.aload_n 3, 1) := by decide +kernel
theorem d_Law_law_432 : decode code 432 = .ok (.invokestatic 87, 3) := by decide +kernel
theorem d_Law_law_435 : decode code 435 = .ok (.istore 5, 2) := by decide +kernel
theorem d_Law_law_437 : decode code 437 = .ok (.aload_n 2, 1) := by decide +kernel
theorem d_Law_law_438 : decode code 438 = .ok (.aload_n 0, 1) := by decide +kernel
theorem d_Law_law_439 : decode code 439 = .ok (.iload 4, 2) := by decide +kernel
theorem d_Law_law_441 : decode code 441 = .ok (.iconst 1, 1) := by decide +kernel
theorem d_Law_law_442 : decode code 442 = .ok (.iadd, 1) := by decide +kernel
theorem d_Law_law_443 : decode code 443 = .ok (.iaload, 1) := by decide +kernel
theorem d_Law_law_444 : decode code 444 = .ok (.aload_n 0, 1) := by decide +kernel
theorem d_Law_law_445 : decode code 445 = .ok (.iload 4, 2) := by decide +kernel
theorem d_Law_law_447 : decode code 447 = .ok (.iconst 2, 1) := by decide +kernel
theorem d_Law_law_448 : decode code 448 = .ok (.iadd, 1) := by decide +kernel
theorem d_Law_law_449 : decode code 449 = .ok (.iaload, 1) := by decide +kernel
theorem d_Law_law_450 : decode code 450 = .ok (.invokevirtual 89, 3) := by decide +kernel
theorem d_Law_law_453 : decode code 453 = .ok (.istore 6, 2) := by decide +kernel
theorem d_Law_law_455 : decode code 455 = .ok (.aload_n 2, 1) := by decide +kernel
theorem d_Law_law_456 : decode code 456 = .ok (.invokevirtual 65, 3) := by decide +kernel
theorem d_Law_law_459 : decode code 459 = .ok (.iload 5, 2) := by decide +kernel
theorem d_Law_law_461 : decode code 461 = .ok (.if_icmp .eq 5, 3) := by decide +kernel
theorem d_Law_law_464 : decode code 464 = .ok (.iconst 0, 1) := by decide +kernel
theorem d_Law_law_465 : decode code 465 = .ok (.ireturn, 1) := by decide +kernel
theorem d_Law_law_466 : decode code 466 = .ok (.iload 5, 2) := by decide +kernel
theorem d_Law_law_468 : decode code 468 = .ok (.ifCond .ne 15, 3) := by decide +kernel
theorem d_Law_law_471 : decode code 471 = .ok (.aload_n 3, 1) := by decide +kernel
theorem d_Law_law_472 : decode code 472 = .ok (.iconst 0, 1) := by decide +kernel
theorem d_Law_law_473 : decode code 473 = .ok (.laload, 1) := by decide +kernel
theorem d_Law_law_474 : decode code 474 = .ok (.iload 6, 2) := by decide +kernel
theorem d_Law_law_476 : decode code 476 = .ok (.i2l, 1) := by decide +kernel
theorem d_Law_law_477 : decode code 477 = .ok (.lcmp, 1) := by decide +kernel
theorem d_Law_law_478 : decode code 478 = .ok (.ifCond .eq 5, 3) := by decide +kernel
theorem d_Law_law_481 : decode code 481 = .ok (.iconst 0, 1) := by decide +kernel
theorem d_Law_law_482 : decode code 482 = .ok (.ireturn, 1) := by decide +kernel
theorem d_Law_law_483 : decode code 483 = .ok (.goto 485, 3) := by decide +kernel
theorem d_Law_law_486 : decode code 486 = .ok (.aload_n 1, 1) := by decide +kernel
theorem d_Law_law_487 : decode code 487 = .ok (.invokevirtual 90, 3) := by decide +kernel
theorem d_Law_law_490 : decode code 490 = .ok (.aload_n 2, 1) := by decide +kernel
theorem d_Law_law_491 : decode code 491 = .ok (.invokevirtual 93, 3) := by decide +kernel
theorem d_Law_law_494 : decode code 494 = .ok (.if_icmp .eq 474, 3) := by decide +kernel
theorem d_Law_law_497 : decode code 497 = .ok (.iconst 0, 1) := by decide +kernel
theorem d_Law_law_498 : decode code 498 = .ok (.ireturn, 1) := by decide +kernel
theorem d_Law_law_499 : decode code 499 = .ok (.aload_n 1, 1) := by decide +kernel
theorem d_Law_law_500 : decode code 500 = .ok (.aload_n 0, 1) := by decide +kernel
theorem d_Law_law_501 : decode code 501 = .ok (.iload 4, 2) := by decide +kernel
theorem d_Law_law_503 : decode code 503 = .ok (.iconst 1, 1) := by decide +kernel
theorem d_Law_law_504 : decode code 504 = .ok (.iadd, 1) := by decide +kernel
theorem d_Law_law_505 : decode code 505 = .ok (.iaload, 1) := by decide +kernel
theorem d_Law_law_506 : decode code 506 = .ok (.aload_n 3, 1) := by decide +kernel
theorem d_Law_law_507 : decode code 507 = .ok (.invokestatic 94, 3) := by decide +kernel
theorem d_Law_law_510 : decode code 510 = .ok (.istore 5, 2) := by decide +kernel
theorem d_Law_law_512 : decode code 512 = .ok (.aload_n 2, 1) := by decide +kernel
theorem d_Law_law_513 : decode code 513 = .ok (.aload_n 0, 1) := by decide +kernel
theorem d_Law_law_514 : decode code 514 = .ok (.iload 4, 2) := by decide +kernel
theorem d_Law_law_516 : decode code 516 = .ok (.iconst 1, 1) := by decide +kernel
theorem d_Law_law_517 : decode code 517 = .ok (.iadd, 1) := by decide +kernel
theorem d_Law_law_518 : decode code 518 = .ok (.iaload, 1) := by decide +kernel
theorem d_Law_law_519 : decode code 519 = .ok (.invokevirtual 96, 3) := by decide +kernel
theorem d_Law_law_522 : decode code 522 = .ok (.istore 6, 2) := by decide +kernel
theorem d_Law_law_524 : decode code 524 = .ok (.aload_n 2, 1) := by decide +kernel
theorem d_Law_law_525 : decode code 525 = .ok (.invokevirtual 65, 3) := by decide +kernel
theorem d_Law_law_528 : decode code 528 = .ok (.iload 5, 2) := by decide +kernel
theorem d_Law_law_530 : decode code 530 = .ok (.if_icmp .eq 5, 3) := by decide +kernel
theorem d_Law_law_533 : decode code 533 = .ok (.iconst 0, 1) := by decide +kernel
theorem d_Law_law_534 : decode code 534 = .ok (.ireturn, 1) := by decide +kernel
theorem d_Law_law_535 : decode code 535 = .ok (.iload 5, 2) := by decide +kernel
theorem d_Law_law_537 : decode code 537 = .ok (.ifCond .ne 15, 3) := by decide +kernel
theorem d_Law_law_540 : decode code 540 = .ok (.aload_n 3, 1) := by decide +kernel
theorem d_Law_law_541 : decode code 541 = .ok (.iconst 0, 1) := by decide +kernel
theorem d_Law_law_542 : decode code 542 = .ok (.laload, 1) := by decide +kernel
theorem d_Law_law_543 : decode code 543 = .ok (.iload 6, 2) := by decide +kernel
theorem d_Law_law_545 : decode code 545 = .ok (.i2l, 1) := by decide +kernel
theorem d_Law_law_546 : decode code 546 = .ok (.lcmp, 1) := by decide +kernel
theorem d_Law_law_547 : decode code 547 = .ok (.ifCond .eq 5, 3) := by decide +kernel
theorem d_Law_law_550 : decode code 550 = .ok (.iconst 0, 1) := by decide +kernel
theorem d_Law_law_551 : decode code 551 = .ok (.ireturn, 1) := by decide +kernel
theorem d_Law_law_552 : decode code 552 = .ok (.goto 416, 3) := by decide +kernel
theorem d_Law_law_555 : decode code 555 = .ok (.aload_n 1, 1) := by decide +kernel
theorem d_Law_law_556 : decode code 556 = .ok (.aload_n 0, 1) := by decide +kernel
theorem d_Law_law_557 : decode code 557 = .ok (.iload 4, 2) := by decide +kernel
theorem d_Law_law_559 : decode code 559 = .ok (.iconst 1, 1) := by decide +kernel
theorem d_Law_law_560 : decode code 560 = .ok (.iadd, 1) := by decide +kernel
theorem d_Law_law_561 : decode code 561 = .ok (.iaload, 1) := by decide +kernel
theorem d_Law_law_562 : decode code 562 = .ok (.aload_n 3, 1) := by decide +kernel
theorem d_Law_law_563 : decode code 563 = .ok (.invokestatic 97, 3) := by decide +kernel
theorem d_Law_law_566 : decode code 566 = .ok (.istore 5, 2) := by decide +kernel
theorem d_Law_law_568 : decode code 568 = .ok (.aload_n 2, 1) := by decide +kernel
theorem d_Law_law_569 : decode code 569 = .ok (.aload_n 0, 1) := by decide +kernel
theorem d_Law_law_570 : decode code 570 = .ok (.iload 4, 2) := by decide +kernel
theorem d_Law_law_572 : decode code 572 = .ok (.iconst 1, 1) := by decide +kernel
theorem d_Law_law_573 : decode code 573 = .ok (.iadd, 1) := by decide +kernel
theorem d_Law_law_574 : decode code 574 = .ok (.iaload, 1) := by decide +kernel
theorem d_Law_law_575 : decode code 575 = .ok (.invokevirtual 99, 3) := by decide +kernel
theorem d_Law_law_578 : decode code 578 = .ok (.istore 6, 2) := by decide +kernel
theorem d_Law_law_580 : decode code 580 = .ok (.aload_n 2, 1) := by decide +kernel
theorem d_Law_law_581 : decode code 581 = .ok (.invokevirtual 65, 3) := by decide +kernel
theorem d_Law_law_584 : decode code 584 = .ok (.iload 5, 2) := by decide +kernel
theorem d_Law_law_586 : decode code 586 = .ok (.if_icmp .eq 5, 3) := by decide +kernel
theorem d_Law_law_589 : decode code 589 = .ok (.iconst 0, 1) := by decide +kernel
theorem d_Law_law_590 : decode code 590 = .ok (.ireturn, 1) := by decide +kernel
theorem d_Law_law_591 : decode code 591 = .ok (.iload 5, 2) := by decide +kernel
theorem d_Law_law_593 : decode code 593 = .ok (.ifCond .ne 15, 3) := by decide +kernel
theorem d_Law_law_596 : decode code 596 = .ok (.aload_n 3, 1) := by decide +kernel
theorem d_Law_law_597 : decode code 597 = .ok (.iconst 0, 1) := by decide +kernel
theorem d_Law_law_598 : decode code 598 = .ok (.laload, 1) := by decide +kernel
theorem d_Law_law_599 : decode code 599 = .ok (.iload 6, 2) := by decide +kernel
theorem d_Law_law_601 : decode code 601 = .ok (.i2l, 1) := by decide +kernel
theorem d_Law_law_602 : decode code 602 = .ok (.lcmp, 1) := by decide +kernel
theorem d_Law_law_603 : decode code 603 = .ok (.ifCond .eq 5, 3) := by decide +kernel
theorem d_Law_law_606 : decode code 606 = .ok (.iconst 0, 1) := by decide +kernel
theorem d_Law_law_607 : decode code 607 = .ok (.ireturn, 1) := by decide +kernel
theorem d_Law_law_608 : decode code 608 = .ok (.goto 360, 3) := by decide +kernel
theorem d_Law_law_611 : decode code 611 = .ok (.aload_n 1, 1) := by decide +kernel
theorem d_Law_law_612 : decode code 612 = .ok (.aload_n 0, 1) := by decide +kernel
theorem d_Law_law_613 : decode code 613 = .ok (.iload 4, 2) := by decide +kernel
theorem d_Law_law_615 : decode code 615 = .ok (.iconst 1, 1) := by decide +kernel
theorem d_Law_law_616 : decode code 616 = .ok (.iadd, 1) := by decide +kernel
theorem d_Law_law_617 : decode code 617 = .ok (.iaload, 1) := by decide +kernel
theorem d_Law_law_618 : decode code 618 = .ok (.aload_n 0, 1) := by decide +kernel
theorem d_Law_law_619 : decode code 619 = .ok (.iload 4, 2) := by decide +kernel
theorem d_Law_law_621 : decode code 621 = .ok (.iconst 2, 1) := by decide +kernel
theorem d_Law_law_622 : decode code 622 = .ok (.iadd, 1) := by decide +kernel
theorem d_Law_law_623 : decode code 623 = .ok (.iaload, 1) := by decide +kernel
theorem d_Law_law_624 : decode code 624 = .ok (.ifCond .eq 7, 3) := by decide +kernel
theorem d_Law_law_627 : decode code 627 = .ok (.iconst 1, 1) := by decide +kernel
theorem d_Law_law_628 : decode code 628 = .ok (.goto 4, 3) := by decide +kernel
theorem d_Law_law_631 : decode code 631 = .ok (.iconst 0, 1) := by decide +kernel
theorem d_Law_law_632 : decode code 632 = .ok (.invokevirtual 100, 3) := by decide +kernel
theorem d_Law_law_635 : decode code 635 = .ok (.aload_n 2, 1) := by decide +kernel
theorem d_Law_law_636 : decode code 636 = .ok (.aload_n 0, 1) := by decide +kernel
theorem d_Law_law_637 : decode code 637 = .ok (.iload 4, 2) := by decide +kernel
theorem d_Law_law_639 : decode code 639 = .ok (.iconst 1, 1) := by decide +kernel
theorem d_Law_law_640 : decode code 640 = .ok (.iadd, 1) := by decide +kernel
theorem d_Law_law_641 : decode code 641 = .ok (.iaload, 1) := by decide +kernel
theorem d_Law_law_642 : decode code 642 = .ok (.aload_n 0, 1) := by decide +kernel
theorem d_Law_law_643 : decode code 643 = .ok (.iload 4, 2) := by decide +kernel
theorem d_Law_law_645 : decode code 645 = .ok (.iconst 2, 1) := by decide +kernel
theorem d_Law_law_646 : decode code 646 = .ok (.iadd, 1) := by decide +kernel
theorem d_Law_law_647 : decode code 647 = .ok (.iaload, 1) := by decide +kernel
theorem d_Law_law_648 : decode code 648 = .ok (.ifCond .eq 7, 3) := by decide +kernel
theorem d_Law_law_651 : decode code 651 = .ok (.iconst 1, 1) := by decide +kernel
theorem d_Law_law_652 : decode code 652 = .ok (.goto 4, 3) := by decide +kernel
theorem d_Law_law_655 : decode code 655 = .ok (.iconst 0, 1) := by decide +kernel
theorem d_Law_law_656 : decode code 656 = .ok (.invokevirtual 103, 3) := by decide +kernel
theorem d_Law_law_659 : decode code 659 = .ok (.if_icmp .eq 309, 3) := by decide +kernel
theorem d_Law_law_662 : decode code 662 = .ok (.iconst 0, 1) := by decide +kernel
theorem d_Law_law_663 : decode code 663 = .ok (.ireturn, 1) := by decide +kernel
theorem d_Law_law_664 : decode code 664 = .ok (.aload_n 1, 1) := by decide +kernel
theorem d_Law_law_665 : decode code 665 = .ok (.aload_n 0, 1) := by decide +kernel
theorem d_Law_law_666 : decode code 666 = .ok (.iload 4, 2) := by decide +kernel
theorem d_Law_law_668 : decode code 668 = .ok (.iconst 1, 1) := by decide +kernel
theorem d_Law_law_669 : decode code 669 = .ok (.iadd, 1) := by decide +kernel
theorem d_Law_law_670 : decode code 670 = .ok (.iaload, 1) := by decide +kernel
theorem d_Law_law_671 : decode code 671 = .ok (.aload_n 3, 1) := by decide +kernel
theorem d_Law_law_672 : decode code 672 = .ok (.invokestatic 104, 3) := by decide +kernel
theorem d_Law_law_675 : decode code 675 = .ok (.istore 5, 2) := by decide +kernel
theorem d_Law_law_677 : decode code 677 = .ok (.aload_n 2, 1) := by decide +kernel
theorem d_Law_law_678 : decode code 678 = .ok (.aload_n 0, 1) := by decide +kernel
theorem d_Law_law_679 : decode code 679 = .ok (.iload 4, 2) := by decide +kernel
theorem d_Law_law_681 : decode code 681 = .ok (.iconst 1, 1) := by decide +kernel
theorem d_Law_law_682 : decode code 682 = .ok (.iadd, 1) := by decide +kernel
theorem d_Law_law_683 : decode code 683 = .ok (.iaload, 1) := by decide +kernel
theorem d_Law_law_684 : decode code 684 = .ok (.invokevirtual 106, 3) := by decide +kernel
theorem d_Law_law_687 : decode code 687 = .ok (.istore 6, 2) := by decide +kernel
theorem d_Law_law_689 : decode code 689 = .ok (.aload_n 2, 1) := by decide +kernel
theorem d_Law_law_690 : decode code 690 = .ok (.invokevirtual 65, 3) := by decide +kernel
theorem d_Law_law_693 : decode code 693 = .ok (.iload 5, 2) := by decide +kernel
theorem d_Law_law_695 : decode code 695 = .ok (.if_icmp .eq 5, 3) := by decide +kernel
theorem d_Law_law_698 : decode code 698 = .ok (.iconst 0, 1) := by decide +kernel
theorem d_Law_law_699 : decode code 699 = .ok (.ireturn, 1) := by decide +kernel
theorem d_Law_law_700 : decode code 700 = .ok (.iload 5, 2) := by decide +kernel
theorem d_Law_law_702 : decode code 702 = .ok (.ifCond .ne 22, 3) := by decide +kernel
theorem d_Law_law_705 : decode code 705 = .ok (.aload_n 3, 1) := by decide +kernel
theorem d_Law_law_706 : decode code 706 = .ok (.iconst 0, 1) := by decide +kernel
theorem d_Law_law_707 : decode code 707 = .ok (.laload, 1) := by decide +kernel
theorem d_Law_law_708 : decode code 708 = .ok (.iload 6, 2) := by decide +kernel
theorem d_Law_law_710 : decode code 710 = .ok (.ifCond .eq 7, 3) := by decide +kernel
theorem d_Law_law_713 : decode code 713 = .ok (.lconst 1, 1) := by decide +kernel
theorem d_Law_law_714 : decode code 714 = .ok (.goto 4, 3) := by decide +kernel
theorem d_Law_law_717 : decode code 717 = .ok (.lconst 0, 1) := by decide +kernel
theorem d_Law_law_718 : decode code 718 = .ok (.lcmp, 1) := by decide +kernel
theorem d_Law_law_719 : decode code 719 = .ok (.ifCond .eq 5, 3) := by decide +kernel
theorem d_Law_law_722 : decode code 722 = .ok (.iconst 0, 1) := by decide +kernel
theorem d_Law_law_723 : decode code 723 = .ok (.ireturn, 1) := by decide +kernel
theorem d_Law_law_724 : decode code 724 = .ok (.goto 244, 3) := by decide +kernel
theorem d_Law_law_727 : decode code 727 = .ok (.aload_n 1, 1) := by decide +kernel
theorem d_Law_law_728 : decode code 728 = .ok (.aload_n 0, 1) := by decide +kernel
theorem d_Law_law_729 : decode code 729 = .ok (.iload 4, 2) := by decide +kernel
theorem d_Law_law_731 : decode code 731 = .ok (.iconst 1, 1) := by decide +kernel
theorem d_Law_law_732 : decode code 732 = .ok (.iadd, 1) := by decide +kernel
theorem d_Law_law_733 : decode code 733 = .ok (.iaload, 1) := by decide +kernel
theorem d_Law_law_734 : decode code 734 = .ok (.aload_n 0, 1) := by decide +kernel
theorem d_Law_law_735 : decode code 735 = .ok (.iload 4, 2) := by decide +kernel
theorem d_Law_law_737 : decode code 737 = .ok (.iconst 2, 1) := by decide +kernel
theorem d_Law_law_738 : decode code 738 = .ok (.iadd, 1) := by decide +kernel
theorem d_Law_law_739 : decode code 739 = .ok (.iaload, 1) := by decide +kernel
theorem d_Law_law_740 : decode code 740 = .ok (.aload_n 0, 1) := by decide +kernel
theorem d_Law_law_741 : decode code 741 = .ok (.iload 4, 2) := by decide +kernel
theorem d_Law_law_743 : decode code 743 = .ok (.iconst 3, 1) := by decide +kernel
theorem d_Law_law_744 : decode code 744 = .ok (.iadd, 1) := by decide +kernel
theorem d_Law_law_745 : decode code 745 = .ok (.iaload, 1) := by decide +kernel
theorem d_Law_law_746 : decode code 746 = .ok (.aload_n 3, 1) := by decide +kernel
theorem d_Law_law_747 : decode code 747 = .ok (.invokestatic 107, 3) := by decide +kernel
theorem d_Law_law_750 : decode code 750 = .ok (.istore 5, 2) := by decide +kernel
theorem d_Law_law_752 : decode code 752 = .ok (.aload_n 2, 1) := by decide +kernel
theorem d_Law_law_753 : decode code 753 = .ok (.aload_n 0, 1) := by decide +kernel
theorem d_Law_law_754 : decode code 754 = .ok (.iload 4, 2) := by decide +kernel
theorem d_Law_law_756 : decode code 756 = .ok (.iconst 1, 1) := by decide +kernel
theorem d_Law_law_757 : decode code 757 = .ok (.iadd, 1) := by decide +kernel
theorem d_Law_law_758 : decode code 758 = .ok (.iaload, 1) := by decide +kernel
theorem d_Law_law_759 : decode code 759 = .ok (.aload_n 0, 1) := by decide +kernel
theorem d_Law_law_760 : decode code 760 = .ok (.iload 4, 2) := by decide +kernel
theorem d_Law_law_762 : decode code 762 = .ok (.iconst 2, 1) := by decide +kernel
theorem d_Law_law_763 : decode code 763 = .ok (.iadd, 1) := by decide +kernel
theorem d_Law_law_764 : decode code 764 = .ok (.iaload, 1) := by decide +kernel
theorem d_Law_law_765 : decode code 765 = .ok (.aload_n 0, 1) := by decide +kernel
theorem d_Law_law_766 : decode code 766 = .ok (.iload 4, 2) := by decide +kernel
theorem d_Law_law_768 : decode code 768 = .ok (.iconst 3, 1) := by decide +kernel
theorem d_Law_law_769 : decode code 769 = .ok (.iadd, 1) := by decide +kernel
theorem d_Law_law_770 : decode code 770 = .ok (.iaload, 1) := by decide +kernel
theorem d_Law_law_771 : decode code 771 = .ok (.invokevirtual 109, 3) := by decide +kernel
theorem d_Law_law_774 : decode code 774 = .ok (.istore 6, 2) := by decide +kernel
theorem d_Law_law_776 : decode code 776 = .ok (.aload_n 2, 1) := by decide +kernel
theorem d_Law_law_777 : decode code 777 = .ok (.invokevirtual 65, 3) := by decide +kernel
theorem d_Law_law_780 : decode code 780 = .ok (.iload 5, 2) := by decide +kernel
theorem d_Law_law_782 : decode code 782 = .ok (.if_icmp .eq 5, 3) := by decide +kernel
theorem d_Law_law_785 : decode code 785 = .ok (.iconst 0, 1) := by decide +kernel
theorem d_Law_law_786 : decode code 786 = .ok (.ireturn, 1) := by decide +kernel
theorem d_Law_law_787 : decode code 787 = .ok (.iload 5, 2) := by decide +kernel
theorem d_Law_law_789 : decode code 789 = .ok (.ifCond .ne 15, 3) := by decide +kernel
theorem d_Law_law_792 : decode code 792 = .ok (.aload_n 3, 1) := by decide +kernel
theorem d_Law_law_793 : decode code 793 = .ok (.iconst 0, 1) := by decide +kernel
theorem d_Law_law_794 : decode code 794 = .ok (.laload, 1) := by decide +kernel
theorem d_Law_law_795 : decode code 795 = .ok (.iload 6, 2) := by decide +kernel
theorem d_Law_law_797 : decode code 797 = .ok (.i2l, 1) := by decide +kernel
theorem d_Law_law_798 : decode code 798 = .ok (.lcmp, 1) := by decide +kernel
theorem d_Law_law_799 : decode code 799 = .ok (.ifCond .eq 5, 3) := by decide +kernel
theorem d_Law_law_802 : decode code 802 = .ok (.iconst 0, 1) := by decide +kernel
theorem d_Law_law_803 : decode code 803 = .ok (.ireturn, 1) := by decide +kernel
theorem d_Law_law_804 : decode code 804 = .ok (.goto 164, 3) := by decide +kernel
theorem d_Law_law_807 : decode code 807 = .ok (.aload_n 1, 1) := by decide +kernel
theorem d_Law_law_808 : decode code 808 = .ok (.aload_n 0, 1) := by decide +kernel
theorem d_Law_law_809 : decode code 809 = .ok (.iload 4, 2) := by decide +kernel
theorem d_Law_law_811 : decode code 811 = .ok (.iconst 1, 1) := by decide +kernel
theorem d_Law_law_812 : decode code 812 = .ok (.iadd, 1) := by decide +kernel
theorem d_Law_law_813 : decode code 813 = .ok (.iaload, 1) := by decide +kernel
theorem d_Law_law_814 : decode code 814 = .ok (.aload_n 0, 1) := by decide +kernel
theorem d_Law_law_815 : decode code 815 = .ok (.iload 4, 2) := by decide +kernel
theorem d_Law_law_817 : decode code 817 = .ok (.iconst 2, 1) := by decide +kernel
theorem d_Law_law_818 : decode code 818 = .ok (.iadd, 1) := by decide +kernel
theorem d_Law_law_819 : decode code 819 = .ok (.iaload, 1) := by decide +kernel
theorem d_Law_law_820 : decode code 820 = .ok (.aload_n 3, 1) := by decide +kernel
theorem d_Law_law_821 : decode code 821 = .ok (.invokestatic 110, 3) := by decide +kernel
theorem d_Law_law_824 : decode code 824 = .ok (.istore 5, 2) := by decide +kernel
theorem d_Law_law_826 : decode code 826 = .ok (.aload_n 2, 1) := by decide +kernel
theorem d_Law_law_827 : decode code 827 = .ok (.aload_n 0, 1) := by decide +kernel
theorem d_Law_law_828 : decode code 828 = .ok (.iload 4, 2) := by decide +kernel
theorem d_Law_law_830 : decode code 830 = .ok (.iconst 1, 1) := by decide +kernel
theorem d_Law_law_831 : decode code 831 = .ok (.iadd, 1) := by decide +kernel
theorem d_Law_law_832 : decode code 832 = .ok (.iaload, 1) := by decide +kernel
theorem d_Law_law_833 : decode code 833 = .ok (.aload_n 0, 1) := by decide +kernel
theorem d_Law_law_834 : decode code 834 = .ok (.iload 4, 2) := by decide +kernel
theorem d_Law_law_836 : decode code 836 = .ok (.iconst 2, 1) := by decide +kernel
theorem d_Law_law_837 : decode code 837 = .ok (.iadd, 1) := by decide +kernel
theorem d_Law_law_838 : decode code 838 = .ok (.iaload, 1) := by decide +kernel
theorem d_Law_law_839 : decode code 839 = .ok (.invokevirtual 112, 3) := by decide +kernel
theorem d_Law_law_842 : decode code 842 = .ok (.istore 6, 2) := by decide +kernel
theorem d_Law_law_844 : decode code 844 = .ok (.aload_n 2, 1) := by decide +kernel
theorem d_Law_law_845 : decode code 845 = .ok (.invokevirtual 65, 3) := by decide +kernel
theorem d_Law_law_848 : decode code 848 = .ok (.iload 5, 2) := by decide +kernel
theorem d_Law_law_850 : decode code 850 = .ok (.if_icmp .eq 5, 3) := by decide +kernel
theorem d_Law_law_853 : decode code 853 = .ok (.iconst 0, 1) := by decide +kernel
theorem d_Law_law_854 : decode code 854 = .ok (.ireturn, 1) := by decide +kernel
theorem d_Law_law_855 : decode code 855 = .ok (.iload 5, 2) := by decide +kernel
theorem d_Law_law_857 : decode code 857 = .ok (.ifCond .ne 15, 3) := by decide +kernel
theorem d_Law_law_860 : decode code 860 = .ok (.aload_n 3, 1) := by decide +kernel
theorem d_Law_law_861 : decode code 861 = .ok (.iconst 0, 1) := by decide +kernel
theorem d_Law_law_862 : decode code 862 = .ok (.laload, 1) := by decide +kernel
theorem d_Law_law_863 : decode code 863 = .ok (.iload 6, 2) := by decide +kernel
theorem d_Law_law_865 : decode code 865 = .ok (.i2l, 1) := by decide +kernel
theorem d_Law_law_866 : decode code 866 = .ok (.lcmp, 1) := by decide +kernel
theorem d_Law_law_867 : decode code 867 = .ok (.ifCond .eq 5, 3) := by decide +kernel
theorem d_Law_law_870 : decode code 870 = .ok (.iconst 0, 1) := by decide +kernel
theorem d_Law_law_871 : decode code 871 = .ok (.ireturn, 1) := by decide +kernel
theorem d_Law_law_872 : decode code 872 = .ok (.goto 96, 3) := by decide +kernel
theorem d_Law_law_875 : decode code 875 = .ok (.aload_n 1, 1) := by decide +kernel
theorem d_Law_law_876 : decode code 876 = .ok (.aload_n 0, 1) := by decide +kernel
theorem d_Law_law_877 : decode code 877 = .ok (.iload 4, 2) := by decide +kernel
theorem d_Law_law_879 : decode code 879 = .ok (.iconst 1, 1) := by decide +kernel
theorem d_Law_law_880 : decode code 880 = .ok (.iadd, 1) := by decide +kernel
theorem d_Law_law_881 : decode code 881 = .ok (.iaload, 1) := by decide +kernel
theorem d_Law_law_882 : decode code 882 = .ok (.aload_n 0, 1) := by decide +kernel
theorem d_Law_law_883 : decode code 883 = .ok (.iload 4, 2) := by decide +kernel
theorem d_Law_law_885 : decode code 885 = .ok (.iconst 2, 1) := by decide +kernel
theorem d_Law_law_886 : decode code 886 = .ok (.iadd, 1) := by decide +kernel
theorem d_Law_law_887 : decode code 887 = .ok (.iaload, 1) := by decide +kernel
theorem d_Law_law_888 : decode code 888 = .ok (.aload_n 3, 1) := by decide +kernel
theorem d_Law_law_889 : decode code 889 = .ok (.invokestatic 113, 3) := by decide +kernel
theorem d_Law_law_892 : decode code 892 = .ok (.istore 5, 2) := by decide +kernel
theorem d_Law_law_894 : decode code 894 = .ok (.aload_n 2, 1) := by decide +kernel
theorem d_Law_law_895 : decode code 895 = .ok (.aload_n 0, 1) := by decide +kernel
theorem d_Law_law_896 : decode code 896 = .ok (.iload 4, 2) := by decide +kernel
theorem d_Law_law_898 : decode code 898 = .ok (.iconst 1, 1) := by decide +kernel
theorem d_Law_law_899 : decode code 899 = .ok (.iadd, 1) := by decide +kernel
theorem d_Law_law_900 : decode code 900 = .ok (.iaload, 1) := by decide +kernel
theorem d_Law_law_901 : decode code 901 = .ok (.aload_n 0, 1) := by decide +kernel
theorem d_Law_law_902 : decode code 902 = .ok (.iload 4, 2) := by decide +kernel
theorem d_Law_law_904 : decode code 904 = .ok (.iconst 2, 1) := by decide +kernel
theorem d_Law_law_905 : decode code 905 = .ok (.iadd, 1) := by decide +kernel
theorem d_Law_law_906 : decode code 906 = .ok (.iaload, 1) := by decide +kernel
theorem d_Law_law_907 : decode code 907 = .ok (.invokevirtual 115, 3) := by decide +kernel
theorem d_Law_law_910 : decode code 910 = .ok (.istore 6, 2) := by decide +kernel
theorem d_Law_law_912 : decode code 912 = .ok (.aload_n 2, 1) := by decide +kernel
theorem d_Law_law_913 : decode code 913 = .ok (.invokevirtual 65, 3) := by decide +kernel
theorem d_Law_law_916 : decode code 916 = .ok (.iload 5, 2) := by decide +kernel
theorem d_Law_law_918 : decode code 918 = .ok (.if_icmp .eq 5, 3) := by decide +kernel
theorem d_Law_law_921 : decode code 921 = .ok (.iconst 0, 1) := by decide +kernel
theorem d_Law_law_922 : decode code 922 = .ok (.ireturn, 1) := by decide +kernel
theorem d_Law_law_923 : decode code 923 = .ok (.iload 5, 2) := by decide +kernel
theorem d_Law_law_925 : decode code 925 = .ok (.ifCond .ne 15, 3) := by decide +kernel
theorem d_Law_law_928 : decode code 928 = .ok (.aload_n 3, 1) := by decide +kernel
theorem d_Law_law_929 : decode code 929 = .ok (.iconst 0, 1) := by decide +kernel
theorem d_Law_law_930 : decode code 930 = .ok (.laload, 1) := by decide +kernel
theorem d_Law_law_931 : decode code 931 = .ok (.iload 6, 2) := by decide +kernel
theorem d_Law_law_933 : decode code 933 = .ok (.i2l, 1) := by decide +kernel
theorem d_Law_law_934 : decode code 934 = .ok (.lcmp, 1) := by decide +kernel
theorem d_Law_law_935 : decode code 935 = .ok (.ifCond .eq 5, 3) := by decide +kernel
theorem d_Law_law_938 : decode code 938 = .ok (.iconst 0, 1) := by decide +kernel
theorem d_Law_law_939 : decode code 939 = .ok (.ireturn, 1) := by decide +kernel
theorem d_Law_law_940 : decode code 940 = .ok (.goto 28, 3) := by decide +kernel
theorem d_Law_law_943 : decode code 943 = .ok (.aload_n 1, 1) := by decide +kernel
theorem d_Law_law_944 : decode code 944 = .ok (.aload_n 0, 1) := by decide +kernel
theorem d_Law_law_945 : decode code 945 = .ok (.iload 4, 2) := by decide +kernel
theorem d_Law_law_947 : decode code 947 = .ok (.iconst 1, 1) := by decide +kernel
theorem d_Law_law_948 : decode code 948 = .ok (.iadd, 1) := by decide +kernel
theorem d_Law_law_949 : decode code 949 = .ok (.iaload, 1) := by decide +kernel
theorem d_Law_law_950 : decode code 950 = .ok (.invokevirtual 116, 3) := by decide +kernel
theorem d_Law_law_953 : decode code 953 = .ok (.aload_n 2, 1) := by decide +kernel
theorem d_Law_law_954 : decode code 954 = .ok (.aload_n 0, 1) := by decide +kernel
theorem d_Law_law_955 : decode code 955 = .ok (.iload 4, 2) := by decide +kernel
theorem d_Law_law_957 : decode code 957 = .ok (.iconst 1, 1) := by decide +kernel
theorem d_Law_law_958 : decode code 958 = .ok (.iadd, 1) := by decide +kernel
theorem d_Law_law_959 : decode code 959 = .ok (.iaload, 1) := by decide +kernel
theorem d_Law_law_960 : decode code 960 = .ok (.invokevirtual 119, 3) := by decide +kernel
theorem d_Law_law_963 : decode code 963 = .ok (.if_icmp .eq 5, 3) := by decide +kernel
theorem d_Law_law_966 : decode code 966 = .ok (.iconst 0, 1) := by decide +kernel
theorem d_Law_law_967 : decode code 967 = .ok (.ireturn, 1) := by decide +kernel
theorem d_Law_law_968 : decode code 968 = .ok (.iinc 4 4, 3) := by decide +kernel
theorem d_Law_law_971 : decode code 971 = .ok (.goto (-938), 3) := by decide +kernel
theorem d_Law_law_974 : decode code 974 = .ok (.iconst 1, 1) := by decide +kernel
theorem d_Law_law_975 : decode code 975 = .ok (.ireturn, 1) := by decide +kernel
