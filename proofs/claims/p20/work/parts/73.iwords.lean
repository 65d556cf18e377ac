/-! words of the constructors, by their places -/
theorem xlL_30 : (.classLink "LeastPlacesLaw" 30 RX6 : Cond) ∈ TBLG := List.mem_filter.mpr ⟨List.mem_of_getElem? (i := 56) (by decide +kernel), by decide +kernel⟩
theorem xn6 : (.instantiable RX6 7 : Cond) ∈ TBLG := List.mem_filter.mpr ⟨List.mem_of_getElem? (i := 57) (by decide +kernel), by decide +kernel⟩
theorem xiX6 : (.instanceMethod yX6_init : Cond) ∈ TBLG := List.mem_filter.mpr ⟨List.mem_of_getElem? (i := 59) (by decide +kernel), by decide +kernel⟩
theorem xcX6 : (.code yX6_init cX6_init 2 none : Cond) ∈ TBLG := List.mem_filter.mpr ⟨List.mem_of_getElem? (i := 60) (by decide +kernel), by decide +kernel⟩
theorem xo6 : (.methodLink RX6 3 Lib.objectInit : Cond) ∈ TBLG := List.mem_filter.mpr ⟨List.mem_of_getElem? (i := 61) (by decide +kernel), by decide +kernel⟩
theorem xoi : (.instanceMethod Lib.objectInit : Cond) ∈ TBLG := List.mem_filter.mpr ⟨List.mem_of_getElem? (i := 62) (by decide +kernel), by decide +kernel⟩
theorem xoc : (.code Lib.objectInit ⟨#[0xb1]⟩ 1 none : Cond) ∈ TBLG := List.mem_filter.mpr ⟨List.mem_of_getElem? (i := 63) (by decide +kernel), by decide +kernel⟩
theorem xl6_9 : (.classLink RX6 9 RX3 : Cond) ∈ TBLG := List.mem_filter.mpr ⟨List.mem_of_getElem? (i := 64) (by decide +kernel), by decide +kernel⟩
theorem xn3 : (.instantiable RX3 4 : Cond) ∈ TBLG := List.mem_filter.mpr ⟨List.mem_of_getElem? (i := 65) (by decide +kernel), by decide +kernel⟩
theorem xm6_11 : (.methodLinkNest RX6 11 yX3_init RX6 : Cond) ∈ NWL := List.mem_filter.mpr ⟨List.mem_of_getElem? (i := 66) (by decide +kernel), by decide +kernel⟩
theorem xiX3 : (.instanceMethod yX3_init : Cond) ∈ TBLG := List.mem_filter.mpr ⟨List.mem_of_getElem? (i := 67) (by decide +kernel), by decide +kernel⟩
theorem xcX3 : (.code yX3_init cX3_init 1 none : Cond) ∈ TBLG := List.mem_filter.mpr ⟨List.mem_of_getElem? (i := 68) (by decide +kernel), by decide +kernel⟩
theorem xo3 : (.methodLink RX3 3 Lib.objectInit : Cond) ∈ TBLG := List.mem_filter.mpr ⟨List.mem_of_getElem? (i := 69) (by decide +kernel), by decide +kernel⟩
theorem xl3_15 : (.classLink RX3 15 RX4 : Cond) ∈ TBLG := List.mem_filter.mpr ⟨List.mem_of_getElem? (i := 70) (by decide +kernel), by decide +kernel⟩
theorem xn4 : (.instantiable RX4 4 : Cond) ∈ TBLG := List.mem_filter.mpr ⟨List.mem_of_getElem? (i := 71) (by decide +kernel), by decide +kernel⟩
theorem xm3_17 : (.methodLinkNest RX3 17 yX4_init RX6 : Cond) ∈ NWL := List.mem_filter.mpr ⟨List.mem_of_getElem? (i := 72) (by decide +kernel), by decide +kernel⟩
theorem xiX4 : (.instanceMethod yX4_init : Cond) ∈ TBLG := List.mem_filter.mpr ⟨List.mem_of_getElem? (i := 73) (by decide +kernel), by decide +kernel⟩
theorem xcX4 : (.code yX4_init cX4_init 2 none : Cond) ∈ TBLG := List.mem_filter.mpr ⟨List.mem_of_getElem? (i := 74) (by decide +kernel), by decide +kernel⟩
theorem xo4 : (.methodLink RX4 3 Lib.objectInit : Cond) ∈ TBLG := List.mem_filter.mpr ⟨List.mem_of_getElem? (i := 75) (by decide +kernel), by decide +kernel⟩
theorem xl4_9 : (.classLink RX4 9 RX1 : Cond) ∈ TBLG := List.mem_filter.mpr ⟨List.mem_of_getElem? (i := 76) (by decide +kernel), by decide +kernel⟩
theorem xn1 : (.instantiable RX1 3 : Cond) ∈ TBLG := List.mem_filter.mpr ⟨List.mem_of_getElem? (i := 78) (by decide +kernel), by decide +kernel⟩
theorem xm4_28 : (.methodLinkNest RX4 28 yX1_init RX6 : Cond) ∈ NWL := List.mem_filter.mpr ⟨List.mem_of_getElem? (i := 79) (by decide +kernel), by decide +kernel⟩
theorem xiX1 : (.instanceMethod yX1_init : Cond) ∈ TBLG := List.mem_filter.mpr ⟨List.mem_of_getElem? (i := 80) (by decide +kernel), by decide +kernel⟩
theorem xcX1 : (.code yX1_init cX1_init 2 none : Cond) ∈ TBLG := List.mem_filter.mpr ⟨List.mem_of_getElem? (i := 81) (by decide +kernel), by decide +kernel⟩
theorem xo1 : (.methodLink RX1 3 Lib.objectInit : Cond) ∈ TBLG := List.mem_filter.mpr ⟨List.mem_of_getElem? (i := 82) (by decide +kernel), by decide +kernel⟩
theorem xl6_16 : (.classLink RX6 16 RX4 : Cond) ∈ TBLG := List.mem_filter.mpr ⟨List.mem_of_getElem? (i := 136) (by decide +kernel), by decide +kernel⟩
theorem xm6_18 : (.methodLinkNest RX6 18 yX4_init RX6 : Cond) ∈ NWL := List.mem_filter.mpr ⟨List.mem_of_getElem? (i := 137) (by decide +kernel), by decide +kernel⟩
theorem xl6_27 : (.classLink RX6 27 RX0 : Cond) ∈ TBLG := List.mem_filter.mpr ⟨List.mem_of_getElem? (i := 139) (by decide +kernel), by decide +kernel⟩
theorem xl6_33 : (.classLink RX6 33 RX2 : Cond) ∈ TBLG := List.mem_filter.mpr ⟨List.mem_of_getElem? (i := 141) (by decide +kernel), by decide +kernel⟩
theorem xn2 : (.instantiable RX2 10 : Cond) ∈ TBLG := List.mem_filter.mpr ⟨List.mem_of_getElem? (i := 142) (by decide +kernel), by decide +kernel⟩
theorem xm6_35 : (.methodLinkNest RX6 35 yX2_init RX6 : Cond) ∈ NWL := List.mem_filter.mpr ⟨List.mem_of_getElem? (i := 143) (by decide +kernel), by decide +kernel⟩
theorem xiX2 : (.instanceMethod yX2_init : Cond) ∈ TBLG := List.mem_filter.mpr ⟨List.mem_of_getElem? (i := 144) (by decide +kernel), by decide +kernel⟩
theorem xcX2 : (.code yX2_init cX2_init 1 none : Cond) ∈ TBLG := List.mem_filter.mpr ⟨List.mem_of_getElem? (i := 145) (by decide +kernel), by decide +kernel⟩
theorem xo2 : (.methodLink RX2 3 Lib.objectInit : Cond) ∈ TBLG := List.mem_filter.mpr ⟨List.mem_of_getElem? (i := 146) (by decide +kernel), by decide +kernel⟩
theorem xl6_40 : (.classLink RX6 40 RX5 : Cond) ∈ TBLG := List.mem_filter.mpr ⟨List.mem_of_getElem? (i := 172) (by decide +kernel), by decide +kernel⟩
theorem xn5 : (.instantiable RX5 3 : Cond) ∈ TBLG := List.mem_filter.mpr ⟨List.mem_of_getElem? (i := 173) (by decide +kernel), by decide +kernel⟩
theorem xm6_42 : (.methodLinkNest RX6 42 yX5_init RX6 : Cond) ∈ NWL := List.mem_filter.mpr ⟨List.mem_of_getElem? (i := 174) (by decide +kernel), by decide +kernel⟩
theorem xiX5 : (.instanceMethod yX5_init : Cond) ∈ TBLG := List.mem_filter.mpr ⟨List.mem_of_getElem? (i := 175) (by decide +kernel), by decide +kernel⟩
theorem xcX5 : (.code yX5_init cX5_init 1 none : Cond) ∈ TBLG := List.mem_filter.mpr ⟨List.mem_of_getElem? (i := 176) (by decide +kernel), by decide +kernel⟩
theorem xo5 : (.methodLink RX5 3 Lib.objectInit : Cond) ∈ TBLG := List.mem_filter.mpr ⟨List.mem_of_getElem? (i := 177) (by decide +kernel), by decide +kernel⟩
theorem xn0 : (.instantiable RX0 7 : Cond) ∈ TBLG := List.mem_filter.mpr ⟨List.mem_of_getElem? (i := 189) (by decide +kernel), by decide +kernel⟩
theorem xm6_47 : (.methodLinkNest RX6 47 yX0_init RX6 : Cond) ∈ NWL := List.mem_filter.mpr ⟨List.mem_of_getElem? (i := 190) (by decide +kernel), by decide +kernel⟩
theorem xiX0 : (.instanceMethod yX0_init : Cond) ∈ TBLG := List.mem_filter.mpr ⟨List.mem_of_getElem? (i := 191) (by decide +kernel), by decide +kernel⟩
theorem xcX0 : (.code yX0_init cX0_init 2 none : Cond) ∈ TBLG := List.mem_filter.mpr ⟨List.mem_of_getElem? (i := 192) (by decide +kernel), by decide +kernel⟩
theorem xo0 : (.methodLink RX0 3 Lib.objectInit : Cond) ∈ TBLG := List.mem_filter.mpr ⟨List.mem_of_getElem? (i := 193) (by decide +kernel), by decide +kernel⟩
theorem xl0_9 : (.classLink RX0 9 RX1 : Cond) ∈ TBLG := List.mem_filter.mpr ⟨List.mem_of_getElem? (i := 194) (by decide +kernel), by decide +kernel⟩
theorem xm0_11 : (.methodLinkNest RX0 11 yX1_init RX6 : Cond) ∈ NWL := List.mem_filter.mpr ⟨List.mem_of_getElem? (i := 195) (by decide +kernel), by decide +kernel⟩
theorem xf0_14 : (.fieldLink RX0 14 RX0 (TX0 1).2.1 (TX0 1).2.2.1 : Cond) ∈ TBLG := List.mem_filter.mpr ⟨List.mem_of_getElem? (i := 197) (by decide +kernel), by decide +kernel⟩
theorem xf0_20 : (.fieldLink RX0 20 RX0 (TX0 3).2.1 (TX0 3).2.2.1 : Cond) ∈ TBLG := List.mem_filter.mpr ⟨List.mem_of_getElem? (i := 202) (by decide +kernel), by decide +kernel⟩
theorem xf0_24 : (.fieldLink RX0 24 RX0 (TX0 4).2.1 (TX0 4).2.2.1 : Cond) ∈ TBLG := List.mem_filter.mpr ⟨List.mem_of_getElem? (i := 203) (by decide +kernel), by decide +kernel⟩
theorem xf0_27 : (.fieldLink RX0 27 RX0 (TX0 5).2.1 (TX0 5).2.2.1 : Cond) ∈ TBLG := List.mem_filter.mpr ⟨List.mem_of_getElem? (i := 204) (by decide +kernel), by decide +kernel⟩
theorem xf0_30 : (.fieldLink RX0 30 RX0 (TX0 6).2.1 (TX0 6).2.2.1 : Cond) ∈ TBLG := List.mem_filter.mpr ⟨List.mem_of_getElem? (i := 205) (by decide +kernel), by decide +kernel⟩
theorem xf0_33 : (.fieldLink RX0 33 RX0 (TX0 0).2.1 (TX0 0).2.2.1 : Cond) ∈ TBLG := List.mem_filter.mpr ⟨List.mem_of_getElem? (i := 196) (by decide +kernel), by decide +kernel⟩
theorem xf1_9 : (.fieldLink RX1 9 RX1 (TX1 2).2.1 (TX1 2).2.2.1 : Cond) ∈ TBLG := List.mem_filter.mpr ⟨List.mem_of_getElem? (i := 88) (by decide +kernel), by decide +kernel⟩
theorem xf1_21 : (.fieldLink RX1 21 RX1 (TX1 0).2.1 (TX1 0).2.2.1 : Cond) ∈ TBLG := List.mem_filter.mpr ⟨List.mem_of_getElem? (i := 86) (by decide +kernel), by decide +kernel⟩
theorem xf1_25 : (.fieldLink RX1 25 RX1 (TX1 1).2.1 (TX1 1).2.2.1 : Cond) ∈ TBLG := List.mem_filter.mpr ⟨List.mem_of_getElem? (i := 87) (by decide +kernel), by decide +kernel⟩
theorem xf2_11 : (.fieldLink RX2 11 RX2 (TX2 0).2.1 (TX2 0).2.2.1 : Cond) ∈ TBLG := List.mem_filter.mpr ⟨List.mem_of_getElem? (i := 147) (by decide +kernel), by decide +kernel⟩
theorem xf2_15 : (.fieldLink RX2 15 RX2 (TX2 1).2.1 (TX2 1).2.2.1 : Cond) ∈ TBLG := List.mem_filter.mpr ⟨List.mem_of_getElem? (i := 148) (by decide +kernel), by decide +kernel⟩
theorem xf2_18 : (.fieldLink RX2 18 RX2 (TX2 2).2.1 (TX2 2).2.2.1 : Cond) ∈ TBLG := List.mem_filter.mpr ⟨List.mem_of_getElem? (i := 149) (by decide +kernel), by decide +kernel⟩
theorem xf2_21 : (.fieldLink RX2 21 RX2 (TX2 3).2.1 (TX2 3).2.2.1 : Cond) ∈ TBLG := List.mem_filter.mpr ⟨List.mem_of_getElem? (i := 150) (by decide +kernel), by decide +kernel⟩
theorem xf3_9 : (.fieldLink RX3 9 RX3 (TX3 0).2.1 (TX3 0).2.2.1 : Cond) ∈ TBLG := List.mem_filter.mpr ⟨List.mem_of_getElem? (i := 120) (by decide +kernel), by decide +kernel⟩
theorem xf3_18 : (.fieldLink RX3 18 RX3 (TX3 3).2.1 (TX3 3).2.2.1 : Cond) ∈ TBLG := List.mem_filter.mpr ⟨List.mem_of_getElem? (i := 125) (by decide +kernel), by decide +kernel⟩
theorem xf4_11 : (.fieldLink RX4 11 RX4 (TX4 0).2.1 (TX4 0).2.2.1 : Cond) ∈ TBLG := List.mem_filter.mpr ⟨List.mem_of_getElem? (i := 101) (by decide +kernel), by decide +kernel⟩
theorem xf4_17 : (.fieldLink RX4 17 RX4 (TX4 1).2.1 (TX4 1).2.2.1 : Cond) ∈ TBLG := List.mem_filter.mpr ⟨List.mem_of_getElem? (i := 104) (by decide +kernel), by decide +kernel⟩
theorem xf4_21 : (.fieldLink RX4 21 RX4 (TX4 2).2.1 (TX4 2).2.2.1 : Cond) ∈ TBLG := List.mem_filter.mpr ⟨List.mem_of_getElem? (i := 107) (by decide +kernel), by decide +kernel⟩
theorem xf4_25 : (.fieldLink RX4 25 RX4 (TX4 3).2.1 (TX4 3).2.2.1 : Cond) ∈ TBLG := List.mem_filter.mpr ⟨List.mem_of_getElem? (i := 109) (by decide +kernel), by decide +kernel⟩
theorem xf5_9 : (.fieldLink RX5 9 RX5 (TX5 0).2.1 (TX5 0).2.2.1 : Cond) ∈ TBLG := List.mem_filter.mpr ⟨List.mem_of_getElem? (i := 178) (by decide +kernel), by decide +kernel⟩
theorem xf5_15 : (.fieldLink RX5 15 RX5 (TX5 1).2.1 (TX5 1).2.2.1 : Cond) ∈ TBLG := List.mem_filter.mpr ⟨List.mem_of_getElem? (i := 179) (by decide +kernel), by decide +kernel⟩
theorem xf6_12 : (.fieldLink RX6 12 RX6 (TX6 0).2.1 (TX6 0).2.2.1 : Cond) ∈ TBLG := List.mem_filter.mpr ⟨List.mem_of_getElem? (i := 221) (by decide +kernel), by decide +kernel⟩
theorem xf6_19 : (.fieldLink RX6 19 RX6 (TX6 1).2.1 (TX6 1).2.2.1 : Cond) ∈ TBLG := List.mem_filter.mpr ⟨List.mem_of_getElem? (i := 222) (by decide +kernel), by decide +kernel⟩
theorem xf6_23 : (.fieldLink RX6 23 RX6 (TX6 2).2.1 (TX6 2).2.2.1 : Cond) ∈ TBLG := List.mem_filter.mpr ⟨List.mem_of_getElem? (i := 223) (by decide +kernel), by decide +kernel⟩
theorem xf6_29 : (.fieldLink RX6 29 RX6 (TX6 4).2.1 (TX6 4).2.2.1 : Cond) ∈ TBLG := List.mem_filter.mpr ⟨List.mem_of_getElem? (i := 225) (by decide +kernel), by decide +kernel⟩
theorem xf6_36 : (.fieldLink RX6 36 RX6 (TX6 5).2.1 (TX6 5).2.2.1 : Cond) ∈ TBLG := List.mem_filter.mpr ⟨List.mem_of_getElem? (i := 226) (by decide +kernel), by decide +kernel⟩
theorem xf6_43 : (.fieldLink RX6 43 RX6 (TX6 6).2.1 (TX6 6).2.2.1 : Cond) ∈ TBLG := List.mem_filter.mpr ⟨List.mem_of_getElem? (i := 227) (by decide +kernel), by decide +kernel⟩
