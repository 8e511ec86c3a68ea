theorem kp17 : (Cond.selects "CarrierPaths" ⟨"CarrierPaths", "goOn", "(II)I"⟩ ⟨"CarrierPaths", "goOn", "(II)I"⟩ : Cond) ∈ TG := tg_p (i := 17) (by decide +kernel) rfl
theorem kp20 : (Cond.selects "CarrierPaths" ⟨"CarrierPaths", "end", "(II)I"⟩ ⟨"CarrierPaths", "end", "(II)I"⟩ : Cond) ∈ TG := tg_p (i := 20) (by decide +kernel) rfl
theorem kp21 : (Cond.selects "CarrierPaths" ⟨"CarrierPaths", "load", "(I)I"⟩ ⟨"CarrierPaths", "load", "(I)I"⟩ : Cond) ∈ TG := tg_p (i := 21) (by decide +kernel) rfl
theorem kw13 : (Cond.initialized "java/lang/IllegalArgumentException" : Cond) ∈ TG := tg_1 (i := 13) (by decide +kernel) rfl
theorem kw14 : (Cond.initialized "java/lang/IllegalStateException" : Cond) ∈ TG := tg_1 (i := 14) (by decide +kernel) rfl
theorem kw15 : (Cond.initialized "java/lang/IndexOutOfBoundsException" : Cond) ∈ TG := tg_1 (i := 15) (by decide +kernel) rfl
theorem kw418 : (Cond.methodLink "CarrierPaths" 66 ⟨"CarrierPaths$Points", "areTwo", "(II)Z"⟩ : Cond) ∈ TG := tg_2 (i := 178) (by decide +kernel) rfl
theorem kw419 : (Cond.instanceMethod ⟨"CarrierPaths$Points", "areTwo", "(II)Z"⟩ : Cond) ∈ TG := tg_2 (i := 179) (by decide +kernel) rfl
theorem kw420 : (Cond.selects "CarrierPaths$Points" ⟨"CarrierPaths$Points", "areTwo", "(II)Z"⟩ ⟨"CarrierPaths$Points", "areTwo", "(II)Z"⟩ : Cond) ∈ TG := tg_2 (i := 180) (by decide +kernel) rfl
theorem kw421 : (Cond.code ⟨"CarrierPaths$Points", "areTwo", "(II)Z"⟩ prog_5_method_4_code 3 (some .boolean) : Cond) ∈ TG := tg_2 (i := 181) (by decide +kernel) rfl
theorem kw423 : (Cond.classLink "CarrierPaths" 70 "java/lang/IllegalArgumentException" : Cond) ∈ TG := tg_2 (i := 183) (by decide +kernel) rfl
theorem kw424 : (Cond.instantiable "java/lang/IllegalArgumentException" 6 : Cond) ∈ TG := tg_2 (i := 184) (by decide +kernel) rfl
theorem kw465 : (Cond.methodLink "CarrierPaths" 74 ⟨"java/lang/IllegalArgumentException", "<init>", "(Ljava/lang/String;)V"⟩ : Cond) ∈ TG := tg_2 (i := 225) (by decide +kernel) rfl
theorem kw492 : (Cond.classLink "CarrierPaths" 83 "java/lang/IllegalStateException" : Cond) ∈ TG := tg_3 (i := 12) (by decide +kernel) rfl
theorem kw493 : (Cond.instantiable "java/lang/IllegalStateException" 6 : Cond) ∈ TG := tg_3 (i := 13) (by decide +kernel) rfl
theorem kw502 : (Cond.methodLink "CarrierPaths" 87 ⟨"java/lang/IllegalStateException", "<init>", "(Ljava/lang/String;)V"⟩ : Cond) ∈ TG := tg_3 (i := 22) (by decide +kernel) rfl
theorem kw508 : (Cond.methodLink "CarrierPaths" 88 ⟨"CarrierPaths$Roads", "add", "(III)I"⟩ : Cond) ∈ TG := tg_3 (i := 28) (by decide +kernel) rfl
theorem kw509 : (Cond.instanceMethod ⟨"CarrierPaths$Roads", "add", "(III)I"⟩ : Cond) ∈ TG := tg_3 (i := 29) (by decide +kernel) rfl
theorem kw510 : (Cond.selects "CarrierPaths$Roads" ⟨"CarrierPaths$Roads", "add", "(III)I"⟩ ⟨"CarrierPaths$Roads", "add", "(III)I"⟩ : Cond) ∈ TG := tg_3 (i := 30) (by decide +kernel) rfl
theorem kw511 : (Cond.code ⟨"CarrierPaths$Roads", "add", "(III)I"⟩ prog_7_method_4_code 5 (some .int) : Cond) ∈ TG := tg_3 (i := 31) (by decide +kernel) rfl
theorem kw519 : (Cond.methodLink "CarrierPaths" 111 ⟨"CarrierPaths$Points", "asBits", "()I"⟩ : Cond) ∈ TG := tg_3 (i := 39) (by decide +kernel) rfl
theorem kw520 : (Cond.instanceMethod ⟨"CarrierPaths$Points", "asBits", "()I"⟩ : Cond) ∈ TG := tg_3 (i := 40) (by decide +kernel) rfl
theorem kw521 : (Cond.selects "CarrierPaths$Points" ⟨"CarrierPaths$Points", "asBits", "()I"⟩ ⟨"CarrierPaths$Points", "asBits", "()I"⟩ : Cond) ∈ TG := tg_3 (i := 41) (by decide +kernel) rfl
theorem kw522 : (Cond.code ⟨"CarrierPaths$Points", "asBits", "()I"⟩ prog_5_method_5_code 1 (some .int) : Cond) ∈ TG := tg_3 (i := 42) (by decide +kernel) rfl
theorem kw525 : (Cond.methodLink "CarrierPaths" 119 ⟨"CarrierPaths$Rings", "add", "(I)I"⟩ : Cond) ∈ TG := tg_3 (i := 45) (by decide +kernel) rfl
theorem kw526 : (Cond.instanceMethod ⟨"CarrierPaths$Rings", "add", "(I)I"⟩ : Cond) ∈ TG := tg_3 (i := 46) (by decide +kernel) rfl
theorem kw527 : (Cond.selects "CarrierPaths$Rings" ⟨"CarrierPaths$Rings", "add", "(I)I"⟩ ⟨"CarrierPaths$Rings", "add", "(I)I"⟩ : Cond) ∈ TG := tg_3 (i := 47) (by decide +kernel) rfl
theorem kw528 : (Cond.code ⟨"CarrierPaths$Rings", "add", "(I)I"⟩ prog_6_method_4_code 2 (some .int) : Cond) ∈ TG := tg_3 (i := 48) (by decide +kernel) rfl
theorem kw543 : (Cond.methodLink "CarrierPaths" 131 ⟨"CarrierPaths$Fleet", "add", "(II)I"⟩ : Cond) ∈ TG := tg_3 (i := 63) (by decide +kernel) rfl
theorem kw544 : (Cond.instanceMethod ⟨"CarrierPaths$Fleet", "add", "(II)I"⟩ : Cond) ∈ TG := tg_3 (i := 64) (by decide +kernel) rfl
theorem kw545 : (Cond.selects "CarrierPaths$Fleet" ⟨"CarrierPaths$Fleet", "add", "(II)I"⟩ ⟨"CarrierPaths$Fleet", "add", "(II)I"⟩ : Cond) ∈ TG := tg_3 (i := 65) (by decide +kernel) rfl
theorem kw546 : (Cond.code ⟨"CarrierPaths$Fleet", "add", "(II)I"⟩ prog_3_method_4_code 4 (some .int) : Cond) ∈ TG := tg_3 (i := 66) (by decide +kernel) rfl
theorem kw555 : (Cond.methodLink "CarrierPaths" 136 ⟨"CarrierPaths$Jobs", "add", "(II)I"⟩ : Cond) ∈ TG := tg_3 (i := 75) (by decide +kernel) rfl
theorem kw556 : (Cond.instanceMethod ⟨"CarrierPaths$Jobs", "add", "(II)I"⟩ : Cond) ∈ TG := tg_3 (i := 76) (by decide +kernel) rfl
theorem kw557 : (Cond.selects "CarrierPaths$Jobs" ⟨"CarrierPaths$Jobs", "add", "(II)I"⟩ ⟨"CarrierPaths$Jobs", "add", "(II)I"⟩ : Cond) ∈ TG := tg_3 (i := 77) (by decide +kernel) rfl
theorem kw558 : (Cond.code ⟨"CarrierPaths$Jobs", "add", "(II)I"⟩ prog_4_method_4_code 4 (some .int) : Cond) ∈ TG := tg_3 (i := 78) (by decide +kernel) rfl
theorem kw567 : (Cond.methodLink "CarrierPaths" 146 ⟨"CarrierPaths$Fleet", "has", "(I)Z"⟩ : Cond) ∈ TG := tg_3 (i := 87) (by decide +kernel) rfl
theorem kw568 : (Cond.instanceMethod ⟨"CarrierPaths$Fleet", "has", "(I)Z"⟩ : Cond) ∈ TG := tg_3 (i := 88) (by decide +kernel) rfl
theorem kw569 : (Cond.selects "CarrierPaths$Fleet" ⟨"CarrierPaths$Fleet", "has", "(I)Z"⟩ ⟨"CarrierPaths$Fleet", "has", "(I)Z"⟩ : Cond) ∈ TG := tg_3 (i := 89) (by decide +kernel) rfl
theorem kw570 : (Cond.code ⟨"CarrierPaths$Fleet", "has", "(I)Z"⟩ prog_3_method_3_code 2 (some .boolean) : Cond) ∈ TG := tg_3 (i := 90) (by decide +kernel) rfl
theorem kw571 : (Cond.classLink "CarrierPaths" 147 "java/lang/IndexOutOfBoundsException" : Cond) ∈ TG := tg_3 (i := 91) (by decide +kernel) rfl
theorem kw572 : (Cond.instantiable "java/lang/IndexOutOfBoundsException" 6 : Cond) ∈ TG := tg_3 (i := 92) (by decide +kernel) rfl
theorem kw581 : (Cond.methodLink "CarrierPaths" 151 ⟨"java/lang/IndexOutOfBoundsException", "<init>", "(Ljava/lang/String;)V"⟩ : Cond) ∈ TG := tg_3 (i := 101) (by decide +kernel) rfl
theorem kw587 : (Cond.methodLink "CarrierPaths" 152 ⟨"CarrierPaths$Fleet", "isOnPiece", "(I)Z"⟩ : Cond) ∈ TG := tg_3 (i := 107) (by decide +kernel) rfl
theorem kw588 : (Cond.methodLink "CarrierPaths" 155 ⟨"CarrierPaths$Fleet", "jobOf", "(I)I"⟩ : Cond) ∈ TG := tg_3 (i := 108) (by decide +kernel) rfl
theorem kw589 : (Cond.instanceMethod ⟨"CarrierPaths$Fleet", "jobOf", "(I)I"⟩ : Cond) ∈ TG := tg_3 (i := 109) (by decide +kernel) rfl
theorem kw590 : (Cond.selects "CarrierPaths$Fleet" ⟨"CarrierPaths$Fleet", "jobOf", "(I)I"⟩ ⟨"CarrierPaths$Fleet", "jobOf", "(I)I"⟩ : Cond) ∈ TG := tg_3 (i := 110) (by decide +kernel) rfl
theorem kw591 : (Cond.code ⟨"CarrierPaths$Fleet", "jobOf", "(I)I"⟩ prog_3_method_8_code 2 (some .int) : Cond) ∈ TG := tg_3 (i := 111) (by decide +kernel) rfl
theorem kw600 : (Cond.methodLink "CarrierPaths" 164 ⟨"CarrierPaths", "goOn", "(II)I"⟩ : Cond) ∈ TG := tg_3 (i := 120) (by decide +kernel) rfl
theorem kw602 : (Cond.instanceMethod ⟨"CarrierPaths", "goOn", "(II)I"⟩ : Cond) ∈ TG := tg_3 (i := 122) (by decide +kernel) rfl
theorem kw603 : (Cond.code ⟨"CarrierPaths", "goOn", "(II)I"⟩ prog_1_method_24_code 6 (some .int) : Cond) ∈ TG := tg_3 (i := 123) (by decide +kernel) rfl
theorem kw645 : (Cond.methodLink "CarrierPaths" 170 ⟨"CarrierPaths", "end", "(II)I"⟩ : Cond) ∈ TG := tg_3 (i := 165) (by decide +kernel) rfl
theorem kw647 : (Cond.instanceMethod ⟨"CarrierPaths", "end", "(II)I"⟩ : Cond) ∈ TG := tg_3 (i := 167) (by decide +kernel) rfl
theorem kw648 : (Cond.code ⟨"CarrierPaths", "end", "(II)I"⟩ prog_1_method_23_code 3 (some .int) : Cond) ∈ TG := tg_3 (i := 168) (by decide +kernel) rfl
theorem kw657 : (Cond.methodLink "CarrierPaths" 173 ⟨"CarrierPaths", "load", "(I)I"⟩ : Cond) ∈ TG := tg_3 (i := 177) (by decide +kernel) rfl
theorem kw659 : (Cond.instanceMethod ⟨"CarrierPaths", "load", "(I)I"⟩ : Cond) ∈ TG := tg_3 (i := 179) (by decide +kernel) rfl
theorem kw660 : (Cond.code ⟨"CarrierPaths", "load", "(I)I"⟩ prog_1_method_22_code 2 (some .int) : Cond) ∈ TG := tg_3 (i := 180) (by decide +kernel) rfl
theorem kw669 : (Cond.methodLink "CarrierPaths" 179 ⟨"CarrierPaths$Fleet", "arrive", "(I)I"⟩ : Cond) ∈ TG := tg_3 (i := 189) (by decide +kernel) rfl
theorem kw670 : (Cond.instanceMethod ⟨"CarrierPaths$Fleet", "arrive", "(I)I"⟩ : Cond) ∈ TG := tg_3 (i := 190) (by decide +kernel) rfl
theorem kw671 : (Cond.selects "CarrierPaths$Fleet" ⟨"CarrierPaths$Fleet", "arrive", "(I)I"⟩ ⟨"CarrierPaths$Fleet", "arrive", "(I)I"⟩ : Cond) ∈ TG := tg_3 (i := 191) (by decide +kernel) rfl
theorem kw672 : (Cond.code ⟨"CarrierPaths$Fleet", "arrive", "(I)I"⟩ prog_3_method_22_code 4 (some .int) : Cond) ∈ TG := tg_3 (i := 192) (by decide +kernel) rfl
theorem kw680 : (Cond.methodLink "CarrierPaths" 189 ⟨"CarrierPaths$Fleet", "chargeUp", "(I)V"⟩ : Cond) ∈ TG := tg_3 (i := 200) (by decide +kernel) rfl
theorem kw681 : (Cond.instanceMethod ⟨"CarrierPaths$Fleet", "chargeUp", "(I)V"⟩ : Cond) ∈ TG := tg_3 (i := 201) (by decide +kernel) rfl
theorem kw682 : (Cond.selects "CarrierPaths$Fleet" ⟨"CarrierPaths$Fleet", "chargeUp", "(I)V"⟩ ⟨"CarrierPaths$Fleet", "chargeUp", "(I)V"⟩ : Cond) ∈ TG := tg_3 (i := 202) (by decide +kernel) rfl
theorem kw683 : (Cond.code ⟨"CarrierPaths$Fleet", "chargeUp", "(I)V"⟩ prog_3_method_19_code 2 none : Cond) ∈ TG := tg_3 (i := 203) (by decide +kernel) rfl
theorem kw692 : (Cond.methodLink "CarrierPaths" 194 ⟨"CarrierPaths$Roads", "hasWay", "(II)Z"⟩ : Cond) ∈ TG := tg_3 (i := 212) (by decide +kernel) rfl
theorem kw693 : (Cond.instanceMethod ⟨"CarrierPaths$Roads", "hasWay", "(II)Z"⟩ : Cond) ∈ TG := tg_3 (i := 213) (by decide +kernel) rfl
theorem kw694 : (Cond.selects "CarrierPaths$Roads" ⟨"CarrierPaths$Roads", "hasWay", "(II)Z"⟩ ⟨"CarrierPaths$Roads", "hasWay", "(II)Z"⟩ : Cond) ∈ TG := tg_3 (i := 214) (by decide +kernel) rfl
theorem kw695 : (Cond.code ⟨"CarrierPaths$Roads", "hasWay", "(II)Z"⟩ prog_7_method_10_code 3 (some .boolean) : Cond) ∈ TG := tg_3 (i := 215) (by decide +kernel) rfl
theorem kw696 : (Cond.methodLink "CarrierPaths" 203 ⟨"CarrierPaths$Roads", "piecesOnWay", "(II)I"⟩ : Cond) ∈ TG := tg_3 (i := 216) (by decide +kernel) rfl
theorem kw697 : (Cond.instanceMethod ⟨"CarrierPaths$Roads", "piecesOnWay", "(II)I"⟩ : Cond) ∈ TG := tg_3 (i := 217) (by decide +kernel) rfl
theorem kw698 : (Cond.selects "CarrierPaths$Roads" ⟨"CarrierPaths$Roads", "piecesOnWay", "(II)I"⟩ ⟨"CarrierPaths$Roads", "piecesOnWay", "(II)I"⟩ : Cond) ∈ TG := tg_3 (i := 218) (by decide +kernel) rfl
theorem kw699 : (Cond.code ⟨"CarrierPaths$Roads", "piecesOnWay", "(II)I"⟩ prog_7_method_13_code 5 (some .int) : Cond) ∈ TG := tg_3 (i := 219) (by decide +kernel) rfl
theorem kw709 : (Cond.methodLink "CarrierPaths" 208 ⟨"CarrierPaths$Fleet", "pieceOf", "(I)I"⟩ : Cond) ∈ TG := tg_3 (i := 229) (by decide +kernel) rfl
theorem kw710 : (Cond.instanceMethod ⟨"CarrierPaths$Fleet", "pieceOf", "(I)I"⟩ : Cond) ∈ TG := tg_3 (i := 230) (by decide +kernel) rfl
theorem kw711 : (Cond.selects "CarrierPaths$Fleet" ⟨"CarrierPaths$Fleet", "pieceOf", "(I)I"⟩ ⟨"CarrierPaths$Fleet", "pieceOf", "(I)I"⟩ : Cond) ∈ TG := tg_3 (i := 231) (by decide +kernel) rfl
theorem kw712 : (Cond.code ⟨"CarrierPaths$Fleet", "pieceOf", "(I)I"⟩ prog_3_method_6_code 2 (some .int) : Cond) ∈ TG := tg_3 (i := 232) (by decide +kernel) rfl
theorem kw713 : (Cond.methodLink "CarrierPaths" 211 ⟨"CarrierPaths$Fleet", "arrivalOf", "(I)I"⟩ : Cond) ∈ TG := tg_3 (i := 233) (by decide +kernel) rfl
theorem kw714 : (Cond.instanceMethod ⟨"CarrierPaths$Fleet", "arrivalOf", "(I)I"⟩ : Cond) ∈ TG := tg_3 (i := 234) (by decide +kernel) rfl
theorem kw715 : (Cond.selects "CarrierPaths$Fleet" ⟨"CarrierPaths$Fleet", "arrivalOf", "(I)I"⟩ ⟨"CarrierPaths$Fleet", "arrivalOf", "(I)I"⟩ : Cond) ∈ TG := tg_3 (i := 235) (by decide +kernel) rfl
theorem kw716 : (Cond.code ⟨"CarrierPaths$Fleet", "arrivalOf", "(I)I"⟩ prog_3_method_7_code 2 (some .int) : Cond) ∈ TG := tg_3 (i := 236) (by decide +kernel) rfl
theorem kw717 : (Cond.methodLink "CarrierPaths" 217 ⟨"CarrierPaths$Fleet", "endedBy", "(I)I"⟩ : Cond) ∈ TG := tg_3 (i := 237) (by decide +kernel) rfl
theorem kw718 : (Cond.instanceMethod ⟨"CarrierPaths$Fleet", "endedBy", "(I)I"⟩ : Cond) ∈ TG := tg_3 (i := 238) (by decide +kernel) rfl
theorem kw719 : (Cond.selects "CarrierPaths$Fleet" ⟨"CarrierPaths$Fleet", "endedBy", "(I)I"⟩ ⟨"CarrierPaths$Fleet", "endedBy", "(I)I"⟩ : Cond) ∈ TG := tg_3 (i := 239) (by decide +kernel) rfl
theorem kw720 : (Cond.code ⟨"CarrierPaths$Fleet", "endedBy", "(I)I"⟩ prog_3_method_10_code 2 (some .int) : Cond) ∈ TG := tg_4 (i := 0) (by decide +kernel) rfl
theorem kw721 : (Cond.methodLink "CarrierPaths" 220 ⟨"CarrierPaths$Fleet", "emptyTimeOf", "(I)I"⟩ : Cond) ∈ TG := tg_4 (i := 1) (by decide +kernel) rfl
theorem kw722 : (Cond.instanceMethod ⟨"CarrierPaths$Fleet", "emptyTimeOf", "(I)I"⟩ : Cond) ∈ TG := tg_4 (i := 2) (by decide +kernel) rfl
theorem kw723 : (Cond.selects "CarrierPaths$Fleet" ⟨"CarrierPaths$Fleet", "emptyTimeOf", "(I)I"⟩ ⟨"CarrierPaths$Fleet", "emptyTimeOf", "(I)I"⟩ : Cond) ∈ TG := tg_4 (i := 3) (by decide +kernel) rfl
theorem kw724 : (Cond.code ⟨"CarrierPaths$Fleet", "emptyTimeOf", "(I)I"⟩ prog_3_method_11_code 2 (some .int) : Cond) ∈ TG := tg_4 (i := 4) (by decide +kernel) rfl
theorem kw732 : (Cond.methodLink "CarrierPaths" 223 ⟨"CarrierPaths$Jobs", "has", "(I)Z"⟩ : Cond) ∈ TG := tg_4 (i := 12) (by decide +kernel) rfl
theorem kw733 : (Cond.instanceMethod ⟨"CarrierPaths$Jobs", "has", "(I)Z"⟩ : Cond) ∈ TG := tg_4 (i := 13) (by decide +kernel) rfl
theorem kw734 : (Cond.selects "CarrierPaths$Jobs" ⟨"CarrierPaths$Jobs", "has", "(I)Z"⟩ ⟨"CarrierPaths$Jobs", "has", "(I)Z"⟩ : Cond) ∈ TG := tg_4 (i := 14) (by decide +kernel) rfl
theorem kw735 : (Cond.code ⟨"CarrierPaths$Jobs", "has", "(I)Z"⟩ prog_4_method_3_code 2 (some .boolean) : Cond) ∈ TG := tg_4 (i := 15) (by decide +kernel) rfl
theorem kw737 : (Cond.methodLink "CarrierPaths" 229 ⟨"CarrierPaths$Jobs", "toOf", "(I)I"⟩ : Cond) ∈ TG := tg_4 (i := 17) (by decide +kernel) rfl
theorem kw738 : (Cond.instanceMethod ⟨"CarrierPaths$Jobs", "toOf", "(I)I"⟩ : Cond) ∈ TG := tg_4 (i := 18) (by decide +kernel) rfl
theorem kw739 : (Cond.selects "CarrierPaths$Jobs" ⟨"CarrierPaths$Jobs", "toOf", "(I)I"⟩ ⟨"CarrierPaths$Jobs", "toOf", "(I)I"⟩ : Cond) ∈ TG := tg_4 (i := 19) (by decide +kernel) rfl
theorem kw740 : (Cond.code ⟨"CarrierPaths$Jobs", "toOf", "(I)I"⟩ prog_4_method_6_code 2 (some .int) : Cond) ∈ TG := tg_4 (i := 20) (by decide +kernel) rfl
theorem kw741 : (Cond.methodLink "CarrierPaths" 232 ⟨"CarrierPaths$Jobs", "stateOf", "(I)I"⟩ : Cond) ∈ TG := tg_4 (i := 21) (by decide +kernel) rfl
theorem kw742 : (Cond.instanceMethod ⟨"CarrierPaths$Jobs", "stateOf", "(I)I"⟩ : Cond) ∈ TG := tg_4 (i := 22) (by decide +kernel) rfl
theorem kw743 : (Cond.selects "CarrierPaths$Jobs" ⟨"CarrierPaths$Jobs", "stateOf", "(I)I"⟩ ⟨"CarrierPaths$Jobs", "stateOf", "(I)I"⟩ : Cond) ∈ TG := tg_4 (i := 23) (by decide +kernel) rfl
theorem kw744 : (Cond.code ⟨"CarrierPaths$Jobs", "stateOf", "(I)I"⟩ prog_4_method_7_code 2 (some .int) : Cond) ∈ TG := tg_4 (i := 24) (by decide +kernel) rfl
theorem kw745 : (Cond.methodLink "CarrierPaths" 235 ⟨"CarrierPaths$Jobs", "carrierOf", "(I)I"⟩ : Cond) ∈ TG := tg_4 (i := 25) (by decide +kernel) rfl
theorem kw746 : (Cond.instanceMethod ⟨"CarrierPaths$Jobs", "carrierOf", "(I)I"⟩ : Cond) ∈ TG := tg_4 (i := 26) (by decide +kernel) rfl
theorem kw747 : (Cond.selects "CarrierPaths$Jobs" ⟨"CarrierPaths$Jobs", "carrierOf", "(I)I"⟩ ⟨"CarrierPaths$Jobs", "carrierOf", "(I)I"⟩ : Cond) ∈ TG := tg_4 (i := 27) (by decide +kernel) rfl
theorem kw748 : (Cond.code ⟨"CarrierPaths$Jobs", "carrierOf", "(I)I"⟩ prog_4_method_8_code 2 (some .int) : Cond) ∈ TG := tg_4 (i := 28) (by decide +kernel) rfl
