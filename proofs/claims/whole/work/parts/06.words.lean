/-! words of the tables, by their places -/
theorem wf6_12 : (.fieldLink RX6 12 RX6 (TX6 0).2.1 (TX6 0).2.2.1 : Cond) ∈ TBLG := List.mem_filter.mpr ⟨List.mem_of_getElem? (i := 274) (by decide +kernel), by decide +kernel⟩
theorem wf6_19 : (.fieldLink RX6 19 RX6 (TX6 1).2.1 (TX6 1).2.2.1 : Cond) ∈ TBLG := List.mem_filter.mpr ⟨List.mem_of_getElem? (i := 275) (by decide +kernel), by decide +kernel⟩
theorem wf6_23 : (.fieldLink RX6 23 RX6 (TX6 2).2.1 (TX6 2).2.2.1 : Cond) ∈ TBLG := List.mem_filter.mpr ⟨List.mem_of_getElem? (i := 276) (by decide +kernel), by decide +kernel⟩
theorem wf6_29 : (.fieldLink RX6 29 RX6 (TX6 4).2.1 (TX6 4).2.2.1 : Cond) ∈ TBLG := List.mem_filter.mpr ⟨List.mem_of_getElem? (i := 278) (by decide +kernel), by decide +kernel⟩
theorem wf6_36 : (.fieldLink RX6 36 RX6 (TX6 5).2.1 (TX6 5).2.2.1 : Cond) ∈ TBLG := List.mem_filter.mpr ⟨List.mem_of_getElem? (i := 279) (by decide +kernel), by decide +kernel⟩
theorem wf6_43 : (.fieldLink RX6 43 RX6 (TX6 6).2.1 (TX6 6).2.2.1 : Cond) ∈ TBLG := List.mem_filter.mpr ⟨List.mem_of_getElem? (i := 280) (by decide +kernel), by decide +kernel⟩
theorem wf6_55 : (.fieldLinkNest RX6 55 RX3 (TX3 1).2.1 (TX3 1).2.2.1 RX6 : Cond) ∈ NWL := List.mem_filter.mpr ⟨List.mem_of_getElem? (i := 156) (by decide +kernel), by decide +kernel⟩
theorem wf6_64 : (.fieldLinkNest RX6 64 RX3 (TX3 2).2.1 (TX3 2).2.2.1 RX6 : Cond) ∈ NWL := List.mem_filter.mpr ⟨List.mem_of_getElem? (i := 158) (by decide +kernel), by decide +kernel⟩
theorem wf6_70 : (.fieldLinkNest RX6 70 RX3 (TX3 3).2.1 (TX3 3).2.2.1 RX6 : Cond) ∈ NWL := List.mem_filter.mpr ⟨List.mem_of_getElem? (i := 160) (by decide +kernel), by decide +kernel⟩
theorem wf6_80 : (.fieldLinkNest RX6 80 RX4 (TX4 1).2.1 (TX4 1).2.2.1 RX6 : Cond) ∈ NWL := List.mem_filter.mpr ⟨List.mem_of_getElem? (i := 139) (by decide +kernel), by decide +kernel⟩
theorem wf6_86 : (.fieldLinkNest RX6 86 RX4 (TX4 0).2.1 (TX4 0).2.2.1 RX6 : Cond) ∈ NWL := List.mem_filter.mpr ⟨List.mem_of_getElem? (i := 136) (by decide +kernel), by decide +kernel⟩
theorem wf6_109 : (.fieldLinkNest RX6 109 RX4 (TX4 2).2.1 (TX4 2).2.2.1 RX6 : Cond) ∈ NWL := List.mem_filter.mpr ⟨List.mem_of_getElem? (i := 142) (by decide +kernel), by decide +kernel⟩
theorem wf6_116 : (.fieldLinkNest RX6 116 RX4 (TX4 3).2.1 (TX4 3).2.2.1 RX6 : Cond) ∈ NWL := List.mem_filter.mpr ⟨List.mem_of_getElem? (i := 144) (by decide +kernel), by decide +kernel⟩
theorem wf6_119 : (.fieldLink RX6 119 RX6 (TX6 3).2.1 (TX6 3).2.2.1 : Cond) ∈ TBLG := List.mem_filter.mpr ⟨List.mem_of_getElem? (i := 277) (by decide +kernel), by decide +kernel⟩
theorem wf6_135 : (.fieldLinkNest RX6 135 RX1 (TX1 2).2.1 (TX1 2).2.2.1 RX6 : Cond) ∈ NWL := List.mem_filter.mpr ⟨List.mem_of_getElem? (i := 126) (by decide +kernel), by decide +kernel⟩
theorem wf6_138 : (.fieldLinkNest RX6 138 RX0 (TX0 1).2.1 (TX0 1).2.2.1 RX6 : Cond) ∈ NWL := List.mem_filter.mpr ⟨List.mem_of_getElem? (i := 251) (by decide +kernel), by decide +kernel⟩
theorem wf6_142 : (.fieldLinkNest RX6 142 RX0 (TX0 2).2.1 (TX0 2).2.2.1 RX6 : Cond) ∈ NWL := List.mem_filter.mpr ⟨List.mem_of_getElem? (i := 254) (by decide +kernel), by decide +kernel⟩
theorem wf6_172 : (.fieldLinkNest RX6 172 RX2 (TX2 4).2.1 (TX2 4).2.2.1 RX6 : Cond) ∈ NWL := List.mem_filter.mpr ⟨List.mem_of_getElem? (i := 190) (by decide +kernel), by decide +kernel⟩
theorem wf6_173 : (.fieldLinkNest RX6 173 RX2 (TX2 5).2.1 (TX2 5).2.2.1 RX6 : Cond) ∈ NWL := List.mem_filter.mpr ⟨List.mem_of_getElem? (i := 192) (by decide +kernel), by decide +kernel⟩
theorem wf6_176 : (.fieldLinkNest RX6 176 RX2 (TX2 6).2.1 (TX2 6).2.2.1 RX6 : Cond) ∈ NWL := List.mem_filter.mpr ⟨List.mem_of_getElem? (i := 194) (by decide +kernel), by decide +kernel⟩
theorem wf6_179 : (.fieldLinkNest RX6 179 RX2 (TX2 7).2.1 (TX2 7).2.2.1 RX6 : Cond) ∈ NWL := List.mem_filter.mpr ⟨List.mem_of_getElem? (i := 196) (by decide +kernel), by decide +kernel⟩
theorem wf6_182 : (.fieldLinkNest RX6 182 RX2 (TX2 8).2.1 (TX2 8).2.2.1 RX6 : Cond) ∈ NWL := List.mem_filter.mpr ⟨List.mem_of_getElem? (i := 198) (by decide +kernel), by decide +kernel⟩
theorem wf6_186 : (.fieldLinkNest RX6 186 RX2 (TX2 0).2.1 (TX2 0).2.2.1 RX6 : Cond) ∈ NWL := List.mem_filter.mpr ⟨List.mem_of_getElem? (i := 182) (by decide +kernel), by decide +kernel⟩
theorem wf6_189 : (.fieldLinkNest RX6 189 RX2 (TX2 1).2.1 (TX2 1).2.2.1 RX6 : Cond) ∈ NWL := List.mem_filter.mpr ⟨List.mem_of_getElem? (i := 184) (by decide +kernel), by decide +kernel⟩
theorem wf6_191 : (.fieldLinkNest RX6 191 RX2 (TX2 2).2.1 (TX2 2).2.2.1 RX6 : Cond) ∈ NWL := List.mem_filter.mpr ⟨List.mem_of_getElem? (i := 186) (by decide +kernel), by decide +kernel⟩
theorem wf6_193 : (.fieldLinkNest RX6 193 RX2 (TX2 3).2.1 (TX2 3).2.2.1 RX6 : Cond) ∈ NWL := List.mem_filter.mpr ⟨List.mem_of_getElem? (i := 188) (by decide +kernel), by decide +kernel⟩
theorem wf6_203 : (.fieldLinkNest RX6 203 RX5 (TX5 2).2.1 (TX5 2).2.2.1 RX6 : Cond) ∈ NWL := List.mem_filter.mpr ⟨List.mem_of_getElem? (i := 231) (by decide +kernel), by decide +kernel⟩
theorem wf6_204 : (.fieldLinkNest RX6 204 RX5 (TX5 0).2.1 (TX5 0).2.2.1 RX6 : Cond) ∈ NWL := List.mem_filter.mpr ⟨List.mem_of_getElem? (i := 228) (by decide +kernel), by decide +kernel⟩
theorem wf0_14 : (.fieldLink RX0 14 RX0 (TX0 1).2.1 (TX0 1).2.2.1 : Cond) ∈ TBLG := List.mem_filter.mpr ⟨List.mem_of_getElem? (i := 248) (by decide +kernel), by decide +kernel⟩
theorem wf0_20 : (.fieldLink RX0 20 RX0 (TX0 3).2.1 (TX0 3).2.2.1 : Cond) ∈ TBLG := List.mem_filter.mpr ⟨List.mem_of_getElem? (i := 255) (by decide +kernel), by decide +kernel⟩
theorem wf0_24 : (.fieldLink RX0 24 RX0 (TX0 4).2.1 (TX0 4).2.2.1 : Cond) ∈ TBLG := List.mem_filter.mpr ⟨List.mem_of_getElem? (i := 256) (by decide +kernel), by decide +kernel⟩
theorem wf0_27 : (.fieldLink RX0 27 RX0 (TX0 5).2.1 (TX0 5).2.2.1 : Cond) ∈ TBLG := List.mem_filter.mpr ⟨List.mem_of_getElem? (i := 257) (by decide +kernel), by decide +kernel⟩
theorem wf0_30 : (.fieldLink RX0 30 RX0 (TX0 6).2.1 (TX0 6).2.2.1 : Cond) ∈ TBLG := List.mem_filter.mpr ⟨List.mem_of_getElem? (i := 258) (by decide +kernel), by decide +kernel⟩
theorem wf0_33 : (.fieldLink RX0 33 RX0 (TX0 0).2.1 (TX0 0).2.2.1 : Cond) ∈ TBLG := List.mem_filter.mpr ⟨List.mem_of_getElem? (i := 246) (by decide +kernel), by decide +kernel⟩
theorem wf0_45 : (.fieldLinkNest RX0 45 RX1 (TX1 2).2.1 (TX1 2).2.2.1 RX6 : Cond) ∈ NWL := List.mem_filter.mpr ⟨List.mem_of_getElem? (i := 125) (by decide +kernel), by decide +kernel⟩
theorem wf0_57 : (.fieldLink RX0 57 RX0 (TX0 2).2.1 (TX0 2).2.2.1 : Cond) ∈ TBLG := List.mem_filter.mpr ⟨List.mem_of_getElem? (i := 253) (by decide +kernel), by decide +kernel⟩
theorem wf1_9 : (.fieldLink RX1 9 RX1 (TX1 2).2.1 (TX1 2).2.2.1 : Cond) ∈ TBLG := List.mem_filter.mpr ⟨List.mem_of_getElem? (i := 122) (by decide +kernel), by decide +kernel⟩
theorem wf1_21 : (.fieldLink RX1 21 RX1 (TX1 0).2.1 (TX1 0).2.2.1 : Cond) ∈ TBLG := List.mem_filter.mpr ⟨List.mem_of_getElem? (i := 120) (by decide +kernel), by decide +kernel⟩
theorem wf1_25 : (.fieldLink RX1 25 RX1 (TX1 1).2.1 (TX1 1).2.2.1 : Cond) ∈ TBLG := List.mem_filter.mpr ⟨List.mem_of_getElem? (i := 121) (by decide +kernel), by decide +kernel⟩
theorem wf2_11 : (.fieldLink RX2 11 RX2 (TX2 0).2.1 (TX2 0).2.2.1 : Cond) ∈ TBLG := List.mem_filter.mpr ⟨List.mem_of_getElem? (i := 181) (by decide +kernel), by decide +kernel⟩
theorem wf2_15 : (.fieldLink RX2 15 RX2 (TX2 1).2.1 (TX2 1).2.2.1 : Cond) ∈ TBLG := List.mem_filter.mpr ⟨List.mem_of_getElem? (i := 183) (by decide +kernel), by decide +kernel⟩
theorem wf2_18 : (.fieldLink RX2 18 RX2 (TX2 2).2.1 (TX2 2).2.2.1 : Cond) ∈ TBLG := List.mem_filter.mpr ⟨List.mem_of_getElem? (i := 185) (by decide +kernel), by decide +kernel⟩
theorem wf2_21 : (.fieldLink RX2 21 RX2 (TX2 3).2.1 (TX2 3).2.2.1 : Cond) ∈ TBLG := List.mem_filter.mpr ⟨List.mem_of_getElem? (i := 187) (by decide +kernel), by decide +kernel⟩
theorem wf2_24 : (.fieldLink RX2 24 RX2 (TX2 4).2.1 (TX2 4).2.2.1 : Cond) ∈ TBLG := List.mem_filter.mpr ⟨List.mem_of_getElem? (i := 189) (by decide +kernel), by decide +kernel⟩
theorem wf2_28 : (.fieldLink RX2 28 RX2 (TX2 5).2.1 (TX2 5).2.2.1 : Cond) ∈ TBLG := List.mem_filter.mpr ⟨List.mem_of_getElem? (i := 191) (by decide +kernel), by decide +kernel⟩
theorem wf2_31 : (.fieldLink RX2 31 RX2 (TX2 6).2.1 (TX2 6).2.2.1 : Cond) ∈ TBLG := List.mem_filter.mpr ⟨List.mem_of_getElem? (i := 193) (by decide +kernel), by decide +kernel⟩
theorem wf2_34 : (.fieldLink RX2 34 RX2 (TX2 7).2.1 (TX2 7).2.2.1 : Cond) ∈ TBLG := List.mem_filter.mpr ⟨List.mem_of_getElem? (i := 195) (by decide +kernel), by decide +kernel⟩
theorem wf2_37 : (.fieldLink RX2 37 RX2 (TX2 8).2.1 (TX2 8).2.2.1 : Cond) ∈ TBLG := List.mem_filter.mpr ⟨List.mem_of_getElem? (i := 197) (by decide +kernel), by decide +kernel⟩
theorem wf2_40 : (.fieldLink RX2 40 RX2 (TX2 9).2.1 (TX2 9).2.2.1 : Cond) ∈ TBLG := List.mem_filter.mpr ⟨List.mem_of_getElem? (i := 199) (by decide +kernel), by decide +kernel⟩
theorem wf2_43 : (.fieldLinkNest RX2 43 RX0 (TX0 2).2.1 (TX0 2).2.2.1 RX6 : Cond) ∈ NWL := List.mem_filter.mpr ⟨List.mem_of_getElem? (i := 252) (by decide +kernel), by decide +kernel⟩
theorem wf2_57 : (.fieldLinkNest RX2 57 RX0 (TX0 1).2.1 (TX0 1).2.2.1 RX6 : Cond) ∈ NWL := List.mem_filter.mpr ⟨List.mem_of_getElem? (i := 250) (by decide +kernel), by decide +kernel⟩
theorem wf2_78 : (.fieldLinkNest RX2 78 RX0 (TX0 0).2.1 (TX0 0).2.2.1 RX6 : Cond) ∈ NWL := List.mem_filter.mpr ⟨List.mem_of_getElem? (i := 247) (by decide +kernel), by decide +kernel⟩
theorem wf3_9 : (.fieldLink RX3 9 RX3 (TX3 0).2.1 (TX3 0).2.2.1 : Cond) ∈ TBLG := List.mem_filter.mpr ⟨List.mem_of_getElem? (i := 154) (by decide +kernel), by decide +kernel⟩
theorem wf3_18 : (.fieldLink RX3 18 RX3 (TX3 3).2.1 (TX3 3).2.2.1 : Cond) ∈ TBLG := List.mem_filter.mpr ⟨List.mem_of_getElem? (i := 159) (by decide +kernel), by decide +kernel⟩
theorem wf3_22 : (.fieldLink RX3 22 RX3 (TX3 1).2.1 (TX3 1).2.2.1 : Cond) ∈ TBLG := List.mem_filter.mpr ⟨List.mem_of_getElem? (i := 155) (by decide +kernel), by decide +kernel⟩
theorem wf3_26 : (.fieldLink RX3 26 RX3 (TX3 2).2.1 (TX3 2).2.2.1 : Cond) ∈ TBLG := List.mem_filter.mpr ⟨List.mem_of_getElem? (i := 157) (by decide +kernel), by decide +kernel⟩
theorem wf3_33 : (.fieldLinkNest RX3 33 RX4 (TX4 0).2.1 (TX4 0).2.2.1 RX6 : Cond) ∈ NWL := List.mem_filter.mpr ⟨List.mem_of_getElem? (i := 137) (by decide +kernel), by decide +kernel⟩
theorem wf3_37 : (.fieldLinkNest RX3 37 RX1 (TX1 2).2.1 (TX1 2).2.2.1 RX6 : Cond) ∈ NWL := List.mem_filter.mpr ⟨List.mem_of_getElem? (i := 124) (by decide +kernel), by decide +kernel⟩
theorem wf3_50 : (.fieldLinkNest RX3 50 RX4 (TX4 1).2.1 (TX4 1).2.2.1 RX6 : Cond) ∈ NWL := List.mem_filter.mpr ⟨List.mem_of_getElem? (i := 140) (by decide +kernel), by decide +kernel⟩
theorem wf4_11 : (.fieldLink RX4 11 RX4 (TX4 0).2.1 (TX4 0).2.2.1 : Cond) ∈ TBLG := List.mem_filter.mpr ⟨List.mem_of_getElem? (i := 135) (by decide +kernel), by decide +kernel⟩
theorem wf4_17 : (.fieldLink RX4 17 RX4 (TX4 1).2.1 (TX4 1).2.2.1 : Cond) ∈ TBLG := List.mem_filter.mpr ⟨List.mem_of_getElem? (i := 138) (by decide +kernel), by decide +kernel⟩
theorem wf4_21 : (.fieldLink RX4 21 RX4 (TX4 2).2.1 (TX4 2).2.2.1 : Cond) ∈ TBLG := List.mem_filter.mpr ⟨List.mem_of_getElem? (i := 141) (by decide +kernel), by decide +kernel⟩
theorem wf4_25 : (.fieldLink RX4 25 RX4 (TX4 3).2.1 (TX4 3).2.2.1 : Cond) ∈ TBLG := List.mem_filter.mpr ⟨List.mem_of_getElem? (i := 143) (by decide +kernel), by decide +kernel⟩
theorem wf5_9 : (.fieldLink RX5 9 RX5 (TX5 0).2.1 (TX5 0).2.2.1 : Cond) ∈ TBLG := List.mem_filter.mpr ⟨List.mem_of_getElem? (i := 227) (by decide +kernel), by decide +kernel⟩
theorem wf5_15 : (.fieldLink RX5 15 RX5 (TX5 1).2.1 (TX5 1).2.2.1 : Cond) ∈ TBLG := List.mem_filter.mpr ⟨List.mem_of_getElem? (i := 229) (by decide +kernel), by decide +kernel⟩
theorem wf5_18 : (.fieldLink RX5 18 RX5 (TX5 2).2.1 (TX5 2).2.2.1 : Cond) ∈ TBLG := List.mem_filter.mpr ⟨List.mem_of_getElem? (i := 230) (by decide +kernel), by decide +kernel⟩
theorem wf5_28 : (.fieldLinkNest RX5 28 RX0 (TX0 1).2.1 (TX0 1).2.2.1 RX6 : Cond) ∈ NWL := List.mem_filter.mpr ⟨List.mem_of_getElem? (i := 249) (by decide +kernel), by decide +kernel⟩
theorem wf5_34 : (.fieldLinkNest RX5 34 RX1 (TX1 2).2.1 (TX1 2).2.2.1 RX6 : Cond) ∈ NWL := List.mem_filter.mpr ⟨List.mem_of_getElem? (i := 123) (by decide +kernel), by decide +kernel⟩
theorem wf7_7 : (.fieldLink RX7 7 RX7 (TX7 0).2.1 (TX7 0).2.2.1 : Cond) ∈ TBLG := List.mem_filter.mpr ⟨List.mem_of_getElem? (i := 643) (by decide +kernel), by decide +kernel⟩
theorem wf7_13 : (.fieldLink RX7 13 RX7 (TX7 1).2.1 (TX7 1).2.2.1 : Cond) ∈ TBLG := List.mem_filter.mpr ⟨List.mem_of_getElem? (i := 644) (by decide +kernel), by decide +kernel⟩
theorem wf7_16 : (.fieldLink RX7 16 RX7 (TX7 3).2.1 (TX7 3).2.2.1 : Cond) ∈ TBLG := List.mem_filter.mpr ⟨List.mem_of_getElem? (i := 646) (by decide +kernel), by decide +kernel⟩
theorem wf7_19 : (.fieldLink RX7 19 RX7 (TX7 5).2.1 (TX7 5).2.2.1 : Cond) ∈ TBLG := List.mem_filter.mpr ⟨List.mem_of_getElem? (i := 648) (by decide +kernel), by decide +kernel⟩
theorem wf7_22 : (.fieldLink RX7 22 RX7 (TX7 11).2.1 (TX7 11).2.2.1 : Cond) ∈ TBLG := List.mem_filter.mpr ⟨List.mem_of_getElem? (i := 654) (by decide +kernel), by decide +kernel⟩
theorem wf7_25 : (.fieldLink RX7 25 RX7 (TX7 13).2.1 (TX7 13).2.2.1 : Cond) ∈ TBLG := List.mem_filter.mpr ⟨List.mem_of_getElem? (i := 656) (by decide +kernel), by decide +kernel⟩
theorem wf7_28 : (.fieldLink RX7 28 RX7 (TX7 16).2.1 (TX7 16).2.2.1 : Cond) ∈ TBLG := List.mem_filter.mpr ⟨List.mem_of_getElem? (i := 659) (by decide +kernel), by decide +kernel⟩
theorem wf7_31 : (.fieldLink RX7 31 RX7 (TX7 17).2.1 (TX7 17).2.2.1 : Cond) ∈ TBLG := List.mem_filter.mpr ⟨List.mem_of_getElem? (i := 660) (by decide +kernel), by decide +kernel⟩
theorem wf7_34 : (.fieldLink RX7 34 RX7 (TX7 18).2.1 (TX7 18).2.2.1 : Cond) ∈ TBLG := List.mem_filter.mpr ⟨List.mem_of_getElem? (i := 661) (by decide +kernel), by decide +kernel⟩
theorem wf7_37 : (.fieldLink RX7 37 RX7 (TX7 19).2.1 (TX7 19).2.2.1 : Cond) ∈ TBLG := List.mem_filter.mpr ⟨List.mem_of_getElem? (i := 662) (by decide +kernel), by decide +kernel⟩
theorem wf7_40 : (.fieldLink RX7 40 RX7 (TX7 20).2.1 (TX7 20).2.2.1 : Cond) ∈ TBLG := List.mem_filter.mpr ⟨List.mem_of_getElem? (i := 663) (by decide +kernel), by decide +kernel⟩
theorem wf7_43 : (.fieldLink RX7 43 RX7 (TX7 21).2.1 (TX7 21).2.2.1 : Cond) ∈ TBLG := List.mem_filter.mpr ⟨List.mem_of_getElem? (i := 664) (by decide +kernel), by decide +kernel⟩
theorem wf7_46 : (.fieldLink RX7 46 RX7 (TX7 22).2.1 (TX7 22).2.2.1 : Cond) ∈ TBLG := List.mem_filter.mpr ⟨List.mem_of_getElem? (i := 665) (by decide +kernel), by decide +kernel⟩
theorem wf7_49 : (.fieldLink RX7 49 RX7 (TX7 23).2.1 (TX7 23).2.2.1 : Cond) ∈ TBLG := List.mem_filter.mpr ⟨List.mem_of_getElem? (i := 666) (by decide +kernel), by decide +kernel⟩
theorem wf7_52 : (.fieldLink RX7 52 RX7 (TX7 24).2.1 (TX7 24).2.2.1 : Cond) ∈ TBLG := List.mem_filter.mpr ⟨List.mem_of_getElem? (i := 667) (by decide +kernel), by decide +kernel⟩
theorem wf7_56 : (.fieldLink RX7 56 RX7 (TX7 32).2.1 (TX7 32).2.2.1 : Cond) ∈ TBLG := List.mem_filter.mpr ⟨List.mem_of_getElem? (i := 675) (by decide +kernel), by decide +kernel⟩
theorem wf7_59 : (.fieldLink RX7 59 RX7 (TX7 34).2.1 (TX7 34).2.2.1 : Cond) ∈ TBLG := List.mem_filter.mpr ⟨List.mem_of_getElem? (i := 677) (by decide +kernel), by decide +kernel⟩
theorem wf7_62 : (.fieldLink RX7 62 RX7 (TX7 35).2.1 (TX7 35).2.2.1 : Cond) ∈ TBLG := List.mem_filter.mpr ⟨List.mem_of_getElem? (i := 678) (by decide +kernel), by decide +kernel⟩
theorem wf7_65 : (.fieldLink RX7 65 RX7 (TX7 36).2.1 (TX7 36).2.2.1 : Cond) ∈ TBLG := List.mem_filter.mpr ⟨List.mem_of_getElem? (i := 679) (by decide +kernel), by decide +kernel⟩
theorem wf7_68 : (.fieldLink RX7 68 RX7 (TX7 38).2.1 (TX7 38).2.2.1 : Cond) ∈ TBLG := List.mem_filter.mpr ⟨List.mem_of_getElem? (i := 681) (by decide +kernel), by decide +kernel⟩
theorem wf7_71 : (.fieldLink RX7 71 RX7 (TX7 2).2.1 (TX7 2).2.2.1 : Cond) ∈ TBLG := List.mem_filter.mpr ⟨List.mem_of_getElem? (i := 645) (by decide +kernel), by decide +kernel⟩
theorem wf7_80 : (.fieldLink RX7 80 RX7 (TX7 4).2.1 (TX7 4).2.2.1 : Cond) ∈ TBLG := List.mem_filter.mpr ⟨List.mem_of_getElem? (i := 647) (by decide +kernel), by decide +kernel⟩
theorem wf7_84 : (.fieldLink RX7 84 RX7 (TX7 6).2.1 (TX7 6).2.2.1 : Cond) ∈ TBLG := List.mem_filter.mpr ⟨List.mem_of_getElem? (i := 649) (by decide +kernel), by decide +kernel⟩
theorem wf7_88 : (.fieldLink RX7 88 RX7 (TX7 7).2.1 (TX7 7).2.2.1 : Cond) ∈ TBLG := List.mem_filter.mpr ⟨List.mem_of_getElem? (i := 650) (by decide +kernel), by decide +kernel⟩
theorem wf7_91 : (.fieldLink RX7 91 RX7 (TX7 8).2.1 (TX7 8).2.2.1 : Cond) ∈ TBLG := List.mem_filter.mpr ⟨List.mem_of_getElem? (i := 651) (by decide +kernel), by decide +kernel⟩
theorem wf7_94 : (.fieldLink RX7 94 RX7 (TX7 12).2.1 (TX7 12).2.2.1 : Cond) ∈ TBLG := List.mem_filter.mpr ⟨List.mem_of_getElem? (i := 655) (by decide +kernel), by decide +kernel⟩
theorem wf7_101 : (.fieldLink RX7 101 RX7 (TX7 9).2.1 (TX7 9).2.2.1 : Cond) ∈ TBLG := List.mem_filter.mpr ⟨List.mem_of_getElem? (i := 652) (by decide +kernel), by decide +kernel⟩
theorem wf7_108 : (.fieldLink RX7 108 RX7 (TX7 14).2.1 (TX7 14).2.2.1 : Cond) ∈ TBLG := List.mem_filter.mpr ⟨List.mem_of_getElem? (i := 657) (by decide +kernel), by decide +kernel⟩
theorem wf7_115 : (.fieldLink RX7 115 RX7 (TX7 10).2.1 (TX7 10).2.2.1 : Cond) ∈ TBLG := List.mem_filter.mpr ⟨List.mem_of_getElem? (i := 653) (by decide +kernel), by decide +kernel⟩
theorem wf7_126 : (.fieldLink RX7 126 RX7 (TX7 15).2.1 (TX7 15).2.2.1 : Cond) ∈ TBLG := List.mem_filter.mpr ⟨List.mem_of_getElem? (i := 658) (by decide +kernel), by decide +kernel⟩
theorem wf7_200 : (.fieldLink RX7 200 RX7 (TX7 30).2.1 (TX7 30).2.2.1 : Cond) ∈ TBLG := List.mem_filter.mpr ⟨List.mem_of_getElem? (i := 673) (by decide +kernel), by decide +kernel⟩
theorem wf7_203 : (.fieldLink RX7 203 RX7 (TX7 25).2.1 (TX7 25).2.2.1 : Cond) ∈ TBLG := List.mem_filter.mpr ⟨List.mem_of_getElem? (i := 668) (by decide +kernel), by decide +kernel⟩
theorem wf7_206 : (.fieldLink RX7 206 RX7 (TX7 31).2.1 (TX7 31).2.2.1 : Cond) ∈ TBLG := List.mem_filter.mpr ⟨List.mem_of_getElem? (i := 674) (by decide +kernel), by decide +kernel⟩
theorem wf7_209 : (.fieldLink RX7 209 RX7 (TX7 33).2.1 (TX7 33).2.2.1 : Cond) ∈ TBLG := List.mem_filter.mpr ⟨List.mem_of_getElem? (i := 676) (by decide +kernel), by decide +kernel⟩
theorem wf7_212 : (.fieldLink RX7 212 RX7 (TX7 26).2.1 (TX7 26).2.2.1 : Cond) ∈ TBLG := List.mem_filter.mpr ⟨List.mem_of_getElem? (i := 669) (by decide +kernel), by decide +kernel⟩
theorem wf7_215 : (.fieldLink RX7 215 RX7 (TX7 27).2.1 (TX7 27).2.2.1 : Cond) ∈ TBLG := List.mem_filter.mpr ⟨List.mem_of_getElem? (i := 670) (by decide +kernel), by decide +kernel⟩
theorem wf7_218 : (.fieldLink RX7 218 RX7 (TX7 28).2.1 (TX7 28).2.2.1 : Cond) ∈ TBLG := List.mem_filter.mpr ⟨List.mem_of_getElem? (i := 671) (by decide +kernel), by decide +kernel⟩
theorem wf7_221 : (.fieldLink RX7 221 RX7 (TX7 29).2.1 (TX7 29).2.2.1 : Cond) ∈ TBLG := List.mem_filter.mpr ⟨List.mem_of_getElem? (i := 672) (by decide +kernel), by decide +kernel⟩
theorem wf7_224 : (.fieldLink RX7 224 RX7 (TX7 37).2.1 (TX7 37).2.2.1 : Cond) ∈ TBLG := List.mem_filter.mpr ⟨List.mem_of_getElem? (i := 680) (by decide +kernel), by decide +kernel⟩
theorem wk6_50 : (.constant RX6 50 (-1000001) : Cond) ∈ TBLG := List.mem_filter.mpr ⟨List.mem_of_getElem? (i := 300) (by decide +kernel), by decide +kernel⟩
theorem wk6_59 : (.constant RX6 59 (-1000003) : Cond) ∈ TBLG := List.mem_filter.mpr ⟨List.mem_of_getElem? (i := 305) (by decide +kernel), by decide +kernel⟩
theorem wk6_99 : (.constant RX6 99 (-1000002) : Cond) ∈ TBLG := List.mem_filter.mpr ⟨List.mem_of_getElem? (i := 494) (by decide +kernel), by decide +kernel⟩
theorem wk6_161 : (.constant RX6 161 (-1000009) : Cond) ∈ TBLG := List.mem_filter.mpr ⟨List.mem_of_getElem? (i := 560) (by decide +kernel), by decide +kernel⟩
theorem wk0_109 : (.constantLong RX0 109 (-99999) : Cond) ∈ TBLG := List.mem_filter.mpr ⟨List.mem_of_getElem? (i := 476) (by decide +kernel), by decide +kernel⟩
theorem wk0_111 : (.constantLong RX0 111 (99999) : Cond) ∈ TBLG := List.mem_filter.mpr ⟨List.mem_of_getElem? (i := 477) (by decide +kernel), by decide +kernel⟩
theorem wk7_79 : (.constant RX7 79 (-1000001) : Cond) ∈ TBLG := List.mem_filter.mpr ⟨List.mem_of_getElem? (i := 769) (by decide +kernel), by decide +kernel⟩
theorem wk7_83 : (.constant RX7 83 (-1000003) : Cond) ∈ TBLG := List.mem_filter.mpr ⟨List.mem_of_getElem? (i := 770) (by decide +kernel), by decide +kernel⟩
theorem wk7_87 : (.constant RX7 87 (-1000009) : Cond) ∈ TBLG := List.mem_filter.mpr ⟨List.mem_of_getElem? (i := 787) (by decide +kernel), by decide +kernel⟩
theorem wk7_160 : (.constant RX7 160 (-1000002) : Cond) ∈ TBLG := List.mem_filter.mpr ⟨List.mem_of_getElem? (i := 839) (by decide +kernel), by decide +kernel⟩
theorem wk7_170 : (.constantLong RX7 170 (99999) : Cond) ∈ TBLG := List.mem_filter.mpr ⟨List.mem_of_getElem? (i := 867) (by decide +kernel), by decide +kernel⟩
theorem wk7_172 : (.constantLong RX7 172 (-99999) : Cond) ∈ TBLG := List.mem_filter.mpr ⟨List.mem_of_getElem? (i := 868) (by decide +kernel), by decide +kernel⟩
theorem wm6_51 : (.methodLinkNest RX6 51 yX3_take RX6 : Cond) ∈ NWL := List.mem_filter.mpr ⟨List.mem_of_getElem? (i := 301) (by decide +kernel), by decide +kernel⟩
theorem wm6_60 : (.methodLinkNest RX6 60 yX3_readSheet RX6 : Cond) ∈ NWL := List.mem_filter.mpr ⟨List.mem_of_getElem? (i := 314) (by decide +kernel), by decide +kernel⟩
theorem wm6_67 : (.methodLink RX6 67 yX6_recordState : Cond) ∈ TBLG := List.mem_filter.mpr ⟨List.mem_of_getElem? (i := 373) (by decide +kernel), by decide +kernel⟩
theorem wm6_73 : (.methodLinkNest RX6 73 yX4_copyFormulas RX6 : Cond) ∈ NWL := List.mem_filter.mpr ⟨List.mem_of_getElem? (i := 411) (by decide +kernel), by decide +kernel⟩
theorem wm6_77 : (.methodLink RX6 77 yX6_workAnew : Cond) ∈ TBLG := List.mem_filter.mpr ⟨List.mem_of_getElem? (i := 412) (by decide +kernel), by decide +kernel⟩
theorem wm6_83 : (.methodLink RX6 83 yX6_isFormula : Cond) ∈ TBLG := List.mem_filter.mpr ⟨List.mem_of_getElem? (i := 488) (by decide +kernel), by decide +kernel⟩
theorem wm6_90 : (.methodLinkNest RX6 90 yX1_has RX6 : Cond) ∈ NWL := List.mem_filter.mpr ⟨List.mem_of_getElem? (i := 492) (by decide +kernel), by decide +kernel⟩
theorem wm6_95 : (.methodLinkNest RX6 95 yX1_kindOf RX6 : Cond) ∈ NWL := List.mem_filter.mpr ⟨List.mem_of_getElem? (i := 493) (by decide +kernel), by decide +kernel⟩
theorem wm6_100 : (.methodLinkNest RX6 100 yX1_exchange RX6 : Cond) ∈ NWL := List.mem_filter.mpr ⟨List.mem_of_getElem? (i := 495) (by decide +kernel), by decide +kernel⟩
theorem wm6_103 : (.methodLinkNest RX6 103 yX0_needOf RX6 : Cond) ∈ NWL := List.mem_filter.mpr ⟨List.mem_of_getElem? (i := 508) (by decide +kernel), by decide +kernel⟩
theorem wm6_106 : (.methodLink RX6 106 yX6_isCell : Cond) ∈ TBLG := List.mem_filter.mpr ⟨List.mem_of_getElem? (i := 513) (by decide +kernel), by decide +kernel⟩
theorem wm6_113 : (.methodLink RX6 113 yX6_arePlaces : Cond) ∈ TBLG := List.mem_filter.mpr ⟨List.mem_of_getElem? (i := 520) (by decide +kernel), by decide +kernel⟩
theorem wm6_122 : (.methodLinkNest RX6 122 yX4_copyState RX6 : Cond) ∈ NWL := List.mem_filter.mpr ⟨List.mem_of_getElem? (i := 381) (by decide +kernel), by decide +kernel⟩
theorem wm6_125 : (.methodLink RX6 125 yX6_cheapDefinitions : Cond) ∈ TBLG := List.mem_filter.mpr ⟨List.mem_of_getElem? (i := 531) (by decide +kernel), by decide +kernel⟩
theorem wm6_129 : (.methodLink RX6 129 yX6_nodesAsRead : Cond) ∈ TBLG := List.mem_filter.mpr ⟨List.mem_of_getElem? (i := 535) (by decide +kernel), by decide +kernel⟩
theorem wm6_132 : (.methodLink RX6 132 yX6_greatestNeed : Cond) ∈ TBLG := List.mem_filter.mpr ⟨List.mem_of_getElem? (i := 539) (by decide +kernel), by decide +kernel⟩
theorem wm6_146 : (.methodLinkNest RX6 146 yX0_valueOf RX6 : Cond) ∈ NWL := List.mem_filter.mpr ⟨List.mem_of_getElem? (i := 548) (by decide +kernel), by decide +kernel⟩
theorem wm6_149 : (.methodLinkNest RX6 149 yX0_depthOf RX6 : Cond) ∈ NWL := List.mem_filter.mpr ⟨List.mem_of_getElem? (i := 549) (by decide +kernel), by decide +kernel⟩
theorem wm6_152 : (.methodLink RX6 152 yX6_usesOf : Cond) ∈ TBLG := List.mem_filter.mpr ⟨List.mem_of_getElem? (i := 550) (by decide +kernel), by decide +kernel⟩
theorem wm6_155 : (.methodLink RX6 155 yX6_partsOf : Cond) ∈ TBLG := List.mem_filter.mpr ⟨List.mem_of_getElem? (i := 559) (by decide +kernel), by decide +kernel⟩
theorem wm6_158 : (.methodLinkNest RX6 158 yX1_contentOf RX6 : Cond) ∈ NWL := List.mem_filter.mpr ⟨List.mem_of_getElem? (i := 554) (by decide +kernel), by decide +kernel⟩
theorem wm6_162 : (.methodLinkNest RX6 162 yX0_rightOf RX6 : Cond) ∈ NWL := List.mem_filter.mpr ⟨List.mem_of_getElem? (i := 561) (by decide +kernel), by decide +kernel⟩
theorem wm6_165 : (.methodLinkNest RX6 165 yX0_sizeOf RX6 : Cond) ∈ NWL := List.mem_filter.mpr ⟨List.mem_of_getElem? (i := 562) (by decide +kernel), by decide +kernel⟩
theorem wm6_168 : (.methodLinkNest RX6 168 yX2_make RX6 : Cond) ∈ NWL := List.mem_filter.mpr ⟨List.mem_of_getElem? (i := 571) (by decide +kernel), by decide +kernel⟩
theorem wm6_185 : (.methodLinkNest RX6 185 yX2_has RX6 : Cond) ∈ NWL := List.mem_filter.mpr ⟨List.mem_of_getElem? (i := 595) (by decide +kernel), by decide +kernel⟩
theorem wm6_196 : (.methodLink RX6 196 yX6_refusalToTry : Cond) ∈ TBLG := List.mem_filter.mpr ⟨List.mem_of_getElem? (i := 611) (by decide +kernel), by decide +kernel⟩
theorem wm6_199 : (.methodLinkNest RX6 199 yX5_tryOrders RX6 : Cond) ∈ NWL := List.mem_filter.mpr ⟨List.mem_of_getElem? (i := 619) (by decide +kernel), by decide +kernel⟩
theorem wm6_207 : (.methodLinkNest RX6 207 yX0_pairs RX6 : Cond) ∈ NWL := List.mem_filter.mpr ⟨List.mem_of_getElem? (i := 615) (by decide +kernel), by decide +kernel⟩
theorem wm6_210 : (.methodLink RX6 210 yX6_dropOldestState : Cond) ∈ TBLG := List.mem_filter.mpr ⟨List.mem_of_getElem? (i := 377) (by decide +kernel), by decide +kernel⟩
theorem wm6_213 : (.methodLinkNest RX6 213 yX0_make RX6 : Cond) ∈ NWL := List.mem_filter.mpr ⟨List.mem_of_getElem? (i := 416) (by decide +kernel), by decide +kernel⟩
theorem wm6_216 : (.methodLinkNest RX6 216 yX0_measure RX6 : Cond) ∈ NWL := List.mem_filter.mpr ⟨List.mem_of_getElem? (i := 428) (by decide +kernel), by decide +kernel⟩
theorem wm6_220 : (.methodLink RX6 220 Lib.Math.max.name : Cond) ∈ TBLG := List.mem_filter.mpr ⟨List.mem_of_getElem? (i := 543) (by decide +kernel), by decide +kernel⟩
theorem wm0_37 : (.methodLink RX0 37 yX0_entry : Cond) ∈ TBLG := List.mem_filter.mpr ⟨List.mem_of_getElem? (i := 446) (by decide +kernel), by decide +kernel⟩
theorem wm0_41 : (.methodLink RX0 41 yX0_sizeOf : Cond) ∈ TBLG := List.mem_filter.mpr ⟨List.mem_of_getElem? (i := 453) (by decide +kernel), by decide +kernel⟩
theorem wm0_48 : (.methodLinkNest RX0 48 yX1_kindOf RX6 : Cond) ∈ NWL := List.mem_filter.mpr ⟨List.mem_of_getElem? (i := 421) (by decide +kernel), by decide +kernel⟩
theorem wm0_51 : (.methodLinkNest RX0 51 yX6_partsOf RX6 : Cond) ∈ NWL := List.mem_filter.mpr ⟨List.mem_of_getElem? (i := 435) (by decide +kernel), by decide +kernel⟩
theorem wm0_54 : (.methodLinkNest RX0 54 yX1_contentOf RX6 : Cond) ∈ NWL := List.mem_filter.mpr ⟨List.mem_of_getElem? (i := 420) (by decide +kernel), by decide +kernel⟩
theorem wm0_61 : (.methodLinkNest RX0 61 yX1_addAll RX6 : Cond) ∈ NWL := List.mem_filter.mpr ⟨List.mem_of_getElem? (i := 422) (by decide +kernel), by decide +kernel⟩
theorem wm0_65 : (.methodLinkNest RX0 65 yX1_add RX6 : Cond) ∈ NWL := List.mem_filter.mpr ⟨List.mem_of_getElem? (i := 423) (by decide +kernel), by decide +kernel⟩
theorem wm0_69 : (.methodLinkNest RX0 69 yX1_hasKind RX6 : Cond) ∈ NWL := List.mem_filter.mpr ⟨List.mem_of_getElem? (i := 424) (by decide +kernel), by decide +kernel⟩
theorem wm0_73 : (.methodLink RX0 73 Lib.Math.min.name : Cond) ∈ TBLG := List.mem_filter.mpr ⟨List.mem_of_getElem? (i := 432) (by decide +kernel), by decide +kernel⟩
theorem wm0_79 : (.methodLink RX0 79 yX0_put : Cond) ∈ TBLG := List.mem_filter.mpr ⟨List.mem_of_getElem? (i := 438) (by decide +kernel), by decide +kernel⟩
theorem wm0_83 : (.methodLink RX0 83 yX0_leafValue : Cond) ∈ TBLG := List.mem_filter.mpr ⟨List.mem_of_getElem? (i := 442) (by decide +kernel), by decide +kernel⟩
theorem wm0_87 : (.methodLink RX0 87 yX0_needOf : Cond) ∈ TBLG := List.mem_filter.mpr ⟨List.mem_of_getElem? (i := 457) (by decide +kernel), by decide +kernel⟩
theorem wm0_90 : (.methodLink RX0 90 yX0_depthOf : Cond) ∈ TBLG := List.mem_filter.mpr ⟨List.mem_of_getElem? (i := 461) (by decide +kernel), by decide +kernel⟩
theorem wm0_93 : (.methodLink RX0 93 yX0_valueOf : Cond) ∈ TBLG := List.mem_filter.mpr ⟨List.mem_of_getElem? (i := 449) (by decide +kernel), by decide +kernel⟩
theorem wm0_96 : (.methodLink RX0 96 yX0_rightOf : Cond) ∈ TBLG := List.mem_filter.mpr ⟨List.mem_of_getElem? (i := 465) (by decide +kernel), by decide +kernel⟩
theorem wm0_99 : (.methodLink RX0 99 Lib.Math.max.name : Cond) ∈ TBLG := List.mem_filter.mpr ⟨List.mem_of_getElem? (i := 469) (by decide +kernel), by decide +kernel⟩
theorem wm0_102 : (.methodLink RX0 102 yX0_needOfPair : Cond) ∈ TBLG := List.mem_filter.mpr ⟨List.mem_of_getElem? (i := 470) (by decide +kernel), by decide +kernel⟩
theorem wm0_105 : (.methodLink RX0 105 yX0_operate : Cond) ∈ TBLG := List.mem_filter.mpr ⟨List.mem_of_getElem? (i := 473) (by decide +kernel), by decide +kernel⟩
theorem wm0_113 : (.methodLink RX0 113 Lib.MathLoose.min_long.x : Cond) ∈ TBLG := List.mem_filter.mpr ⟨List.mem_of_getElem? (i := 478) (by decide +kernel), by decide +kernel⟩
theorem wm0_116 : (.methodLink RX0 116 Lib.MathLoose.max_long.x : Cond) ∈ TBLG := List.mem_filter.mpr ⟨List.mem_of_getElem? (i := 481) (by decide +kernel), by decide +kernel⟩
theorem wm1_15 : (.methodLink RX1 15 Lib.Math.max.name : Cond) ∈ TBLG := List.mem_filter.mpr ⟨List.mem_of_getElem? (i := 117) (by decide +kernel), by decide +kernel⟩
theorem wm1_28 : (.methodLink RX1 28 yX1_has : Cond) ∈ TBLG := List.mem_filter.mpr ⟨List.mem_of_getElem? (i := 401) (by decide +kernel), by decide +kernel⟩
theorem wm1_32 : (.methodLink RX1 32 yX1_kindOf : Cond) ∈ TBLG := List.mem_filter.mpr ⟨List.mem_of_getElem? (i := 397) (by decide +kernel), by decide +kernel⟩
theorem wm1_36 : (.methodLink RX1 36 yX1_isFull : Cond) ∈ TBLG := List.mem_filter.mpr ⟨List.mem_of_getElem? (i := 350) (by decide +kernel), by decide +kernel⟩
theorem wm1_40 : (.methodLink RX1 40 arraycopyName : Cond) ∈ TBLG := List.mem_filter.mpr ⟨List.mem_of_getElem? (i := 370) (by decide +kernel), by decide +kernel⟩
theorem wm1_46 : (.methodLink RX1 46 yX1_contentOf : Cond) ∈ TBLG := List.mem_filter.mpr ⟨List.mem_of_getElem? (i := 405) (by decide +kernel), by decide +kernel⟩
theorem wm1_49 : (.methodLink RX1 49 yX1_add : Cond) ∈ TBLG := List.mem_filter.mpr ⟨List.mem_of_getElem? (i := 409) (by decide +kernel), by decide +kernel⟩
theorem wm1_53 : (.methodLink RX1 53 yX1_addAll : Cond) ∈ TBLG := List.mem_filter.mpr ⟨List.mem_of_getElem? (i := 393) (by decide +kernel), by decide +kernel⟩
theorem wm1_57 : (.methodLinkNest RX1 57 yX6_partsOf RX6 : Cond) ∈ NWL := List.mem_filter.mpr ⟨List.mem_of_getElem? (i := 503) (by decide +kernel), by decide +kernel⟩
theorem wm1_60 : (.methodLink RX1 60 yX1_behind : Cond) ∈ TBLG := List.mem_filter.mpr ⟨List.mem_of_getElem? (i := 499) (by decide +kernel), by decide +kernel⟩
theorem wm1_63 : (.methodLink RX1 63 yX1_turnAround : Cond) ∈ TBLG := List.mem_filter.mpr ⟨List.mem_of_getElem? (i := 504) (by decide +kernel), by decide +kernel⟩
theorem wm2_49 : (.methodLink RX2 49 yX2_workOut : Cond) ∈ TBLG := List.mem_filter.mpr ⟨List.mem_of_getElem? (i := 575) (by decide +kernel), by decide +kernel⟩
theorem wm2_53 : (.methodLink RX2 53 yX2_addStep : Cond) ∈ TBLG := List.mem_filter.mpr ⟨List.mem_of_getElem? (i := 581) (by decide +kernel), by decide +kernel⟩
theorem wm2_60 : (.methodLinkNest RX2 60 yX1_kindOf RX6 : Cond) ∈ NWL := List.mem_filter.mpr ⟨List.mem_of_getElem? (i := 579) (by decide +kernel), by decide +kernel⟩
theorem wm2_66 : (.methodLinkNest RX2 66 yX6_partsOf RX6 : Cond) ∈ NWL := List.mem_filter.mpr ⟨List.mem_of_getElem? (i := 580) (by decide +kernel), by decide +kernel⟩
theorem wm2_69 : (.methodLink RX2 69 yX2_workOutParts : Cond) ∈ TBLG := List.mem_filter.mpr ⟨List.mem_of_getElem? (i := 585) (by decide +kernel), by decide +kernel⟩
theorem wm2_72 : (.methodLinkNest RX2 72 yX0_rightOf RX6 : Cond) ∈ NWL := List.mem_filter.mpr ⟨List.mem_of_getElem? (i := 589) (by decide +kernel), by decide +kernel⟩
theorem wm2_75 : (.methodLinkNest RX2 75 yX0_needOf RX6 : Cond) ∈ NWL := List.mem_filter.mpr ⟨List.mem_of_getElem? (i := 590) (by decide +kernel), by decide +kernel⟩
theorem wm3_29 : (.methodLink RX3 29 yX3_sign : Cond) ∈ TBLG := List.mem_filter.mpr ⟨List.mem_of_getElem? (i := 322) (by decide +kernel), by decide +kernel⟩
theorem wm3_42 : (.methodLink RX3 42 yX3_pass : Cond) ∈ TBLG := List.mem_filter.mpr ⟨List.mem_of_getElem? (i := 318) (by decide +kernel), by decide +kernel⟩
theorem wm3_46 : (.methodLink RX3 46 yX3_readSum : Cond) ∈ TBLG := List.mem_filter.mpr ⟨List.mem_of_getElem? (i := 326) (by decide +kernel), by decide +kernel⟩
theorem wm3_53 : (.methodLink RX3 53 yX3_readProduct : Cond) ∈ TBLG := List.mem_filter.mpr ⟨List.mem_of_getElem? (i := 330) (by decide +kernel), by decide +kernel⟩
theorem wm3_56 : (.methodLink RX3 56 yX3_readOperation : Cond) ∈ TBLG := List.mem_filter.mpr ⟨List.mem_of_getElem? (i := 362) (by decide +kernel), by decide +kernel⟩
theorem wm3_59 : (.methodLink RX3 59 yX3_readFactor : Cond) ∈ TBLG := List.mem_filter.mpr ⟨List.mem_of_getElem? (i := 334) (by decide +kernel), by decide +kernel⟩
theorem wm3_62 : (.methodLinkNest RX3 62 yX1_insert RX6 : Cond) ∈ NWL := List.mem_filter.mpr ⟨List.mem_of_getElem? (i := 366) (by decide +kernel), by decide +kernel⟩
theorem wm3_66 : (.methodLink RX3 66 yX3_readNested : Cond) ∈ TBLG := List.mem_filter.mpr ⟨List.mem_of_getElem? (i := 338) (by decide +kernel), by decide +kernel⟩
theorem wm3_69 : (.methodLink RX3 69 yX3_readLeaf : Cond) ∈ TBLG := List.mem_filter.mpr ⟨List.mem_of_getElem? (i := 351) (by decide +kernel), by decide +kernel⟩
theorem wm3_73 : (.methodLinkNest RX3 73 yX1_isFull RX6 : Cond) ∈ NWL := List.mem_filter.mpr ⟨List.mem_of_getElem? (i := 342) (by decide +kernel), by decide +kernel⟩
theorem wm3_77 : (.methodLinkNest RX3 77 yX1_add RX6 : Cond) ∈ NWL := List.mem_filter.mpr ⟨List.mem_of_getElem? (i := 346) (by decide +kernel), by decide +kernel⟩
theorem wm3_81 : (.methodLink RX3 81 yX3_isDigit : Cond) ∈ TBLG := List.mem_filter.mpr ⟨List.mem_of_getElem? (i := 355) (by decide +kernel), by decide +kernel⟩
theorem wm3_84 : (.methodLink RX3 84 yX3_readNumber : Cond) ∈ TBLG := List.mem_filter.mpr ⟨List.mem_of_getElem? (i := 358) (by decide +kernel), by decide +kernel⟩
theorem wm4_31 : (.methodLinkNest RX4 31 yX1_copy RX6 : Cond) ∈ NWL := List.mem_filter.mpr ⟨List.mem_of_getElem? (i := 389) (by decide +kernel), by decide +kernel⟩
theorem wm4_35 : (.methodLink RX4 35 yX4_copyFormulas : Cond) ∈ TBLG := List.mem_filter.mpr ⟨List.mem_of_getElem? (i := 385) (by decide +kernel), by decide +kernel⟩
theorem wm4_39 : (.methodLink RX4 39 arraycopyName : Cond) ∈ TBLG := List.mem_filter.mpr ⟨List.mem_of_getElem? (i := 410) (by decide +kernel), by decide +kernel⟩
theorem wm5_22 : (.methodLink RX5 22 arraycopyName : Cond) ∈ TBLG := List.mem_filter.mpr ⟨List.mem_of_getElem? (i := 623) (by decide +kernel), by decide +kernel⟩
theorem wm5_39 : (.methodLink RX5 39 Lib.Math.min.name : Cond) ∈ TBLG := List.mem_filter.mpr ⟨List.mem_of_getElem? (i := 624) (by decide +kernel), by decide +kernel⟩
theorem wm5_45 : (.methodLink RX5 45 yX5_waysFor : Cond) ∈ TBLG := List.mem_filter.mpr ⟨List.mem_of_getElem? (i := 625) (by decide +kernel), by decide +kernel⟩
theorem wm5_49 : (.methodLinkNest RX5 49 yX1_kindOf RX6 : Cond) ∈ NWL := List.mem_filter.mpr ⟨List.mem_of_getElem? (i := 629) (by decide +kernel), by decide +kernel⟩
theorem wm5_53 : (.methodLinkNest RX5 53 yX6_partsOf RX6 : Cond) ∈ NWL := List.mem_filter.mpr ⟨List.mem_of_getElem? (i := 630) (by decide +kernel), by decide +kernel⟩
theorem wm5_56 : (.methodLinkNest RX5 56 yX0_entry RX6 : Cond) ∈ NWL := List.mem_filter.mpr ⟨List.mem_of_getElem? (i := 631) (by decide +kernel), by decide +kernel⟩
theorem wm5_60 : (.methodLinkNest RX5 60 yX0_rightOf RX6 : Cond) ∈ NWL := List.mem_filter.mpr ⟨List.mem_of_getElem? (i := 632) (by decide +kernel), by decide +kernel⟩
theorem wmL_9 : (.methodLink RL 9 yX6_init : Cond) ∈ TBLG := List.mem_filter.mpr ⟨List.mem_of_getElem? (i := 92) (by decide +kernel), by decide +kernel⟩
theorem wmL_12 : (.methodLink RL 12 yX7_init : Cond) ∈ TBLG := List.mem_filter.mpr ⟨List.mem_of_getElem? (i := 639) (by decide +kernel), by decide +kernel⟩
theorem wmL_13 : (.methodLink RL 13 yX6_append : Cond) ∈ TBLG := List.mem_filter.mpr ⟨List.mem_of_getElem? (i := 296) (by decide +kernel), by decide +kernel⟩
theorem wmL_17 : (.methodLink RL 17 yX7_append : Cond) ∈ TBLG := List.mem_filter.mpr ⟨List.mem_of_getElem? (i := 762) (by decide +kernel), by decide +kernel⟩
theorem wmL_18 : (.methodLink RL 18 yX6_clearText : Cond) ∈ TBLG := List.mem_filter.mpr ⟨List.mem_of_getElem? (i := 306) (by decide +kernel), by decide +kernel⟩
theorem wmL_22 : (.methodLink RL 22 yX7_clearText : Cond) ∈ TBLG := List.mem_filter.mpr ⟨List.mem_of_getElem? (i := 771) (by decide +kernel), by decide +kernel⟩
theorem wmL_23 : (.methodLink RL 23 yX6_read : Cond) ∈ TBLG := List.mem_filter.mpr ⟨List.mem_of_getElem? (i := 310) (by decide +kernel), by decide +kernel⟩
theorem wmL_26 : (.methodLink RL 26 yX7_read : Cond) ∈ TBLG := List.mem_filter.mpr ⟨List.mem_of_getElem? (i := 775) (by decide +kernel), by decide +kernel⟩
theorem wmL_27 : (.methodLink RL 27 yX6_turn : Cond) ∈ TBLG := List.mem_filter.mpr ⟨List.mem_of_getElem? (i := 484) (by decide +kernel), by decide +kernel⟩
theorem wmL_31 : (.methodLink RL 31 yX7_turn : Cond) ∈ TBLG := List.mem_filter.mpr ⟨List.mem_of_getElem? (i := 827) (by decide +kernel), by decide +kernel⟩
theorem wmL_32 : (.methodLink RL 32 yX6_setCell : Cond) ∈ TBLG := List.mem_filter.mpr ⟨List.mem_of_getElem? (i := 509) (by decide +kernel), by decide +kernel⟩
theorem wmL_35 : (.methodLink RL 35 yX7_setCell : Cond) ∈ TBLG := List.mem_filter.mpr ⟨List.mem_of_getElem? (i := 869) (by decide +kernel), by decide +kernel⟩
theorem wmL_36 : (.methodLink RL 36 yX6_setPlaces : Cond) ∈ TBLG := List.mem_filter.mpr ⟨List.mem_of_getElem? (i := 516) (by decide +kernel), by decide +kernel⟩
theorem wmL_39 : (.methodLink RL 39 yX7_setPlaces : Cond) ∈ TBLG := List.mem_filter.mpr ⟨List.mem_of_getElem? (i := 876) (by decide +kernel), by decide +kernel⟩
theorem wmL_40 : (.methodLink RL 40 yX6_undo : Cond) ∈ TBLG := List.mem_filter.mpr ⟨List.mem_of_getElem? (i := 523) (by decide +kernel), by decide +kernel⟩
theorem wmL_43 : (.methodLink RL 43 yX7_undo : Cond) ∈ TBLG := List.mem_filter.mpr ⟨List.mem_of_getElem? (i := 880) (by decide +kernel), by decide +kernel⟩
theorem wmL_44 : (.methodLink RL 44 yX6_count : Cond) ∈ TBLG := List.mem_filter.mpr ⟨List.mem_of_getElem? (i := 527) (by decide +kernel), by decide +kernel⟩
theorem wmL_47 : (.methodLink RL 47 yX7_count : Cond) ∈ TBLG := List.mem_filter.mpr ⟨List.mem_of_getElem? (i := 884) (by decide +kernel), by decide +kernel⟩
theorem wmL_48 : (.methodLink RL 48 yX6_formula : Cond) ∈ TBLG := List.mem_filter.mpr ⟨List.mem_of_getElem? (i := 544) (by decide +kernel), by decide +kernel⟩
theorem wmL_51 : (.methodLink RL 51 yX7_formula : Cond) ∈ TBLG := List.mem_filter.mpr ⟨List.mem_of_getElem? (i := 896) (by decide +kernel), by decide +kernel⟩
theorem wmL_52 : (.methodLink RL 52 yX6_node : Cond) ∈ TBLG := List.mem_filter.mpr ⟨List.mem_of_getElem? (i := 555) (by decide +kernel), by decide +kernel⟩
theorem wmL_56 : (.methodLink RL 56 yX7_node : Cond) ∈ TBLG := List.mem_filter.mpr ⟨List.mem_of_getElem? (i := 904) (by decide +kernel), by decide +kernel⟩
theorem wmL_57 : (.methodLink RL 57 yX6_cell : Cond) ∈ TBLG := List.mem_filter.mpr ⟨List.mem_of_getElem? (i := 563) (by decide +kernel), by decide +kernel⟩
theorem wmL_60 : (.methodLink RL 60 yX7_cell : Cond) ∈ TBLG := List.mem_filter.mpr ⟨List.mem_of_getElem? (i := 908) (by decide +kernel), by decide +kernel⟩
theorem wmL_61 : (.methodLink RL 61 yX6_plan : Cond) ∈ TBLG := List.mem_filter.mpr ⟨List.mem_of_getElem? (i := 567) (by decide +kernel), by decide +kernel⟩
theorem wmL_64 : (.methodLink RL 64 yX7_plan : Cond) ∈ TBLG := List.mem_filter.mpr ⟨List.mem_of_getElem? (i := 912) (by decide +kernel), by decide +kernel⟩
theorem wmL_65 : (.methodLink RL 65 yX6_step : Cond) ∈ TBLG := List.mem_filter.mpr ⟨List.mem_of_getElem? (i := 591) (by decide +kernel), by decide +kernel⟩
theorem wmL_68 : (.methodLink RL 68 yX7_step : Cond) ∈ TBLG := List.mem_filter.mpr ⟨List.mem_of_getElem? (i := 932) (by decide +kernel), by decide +kernel⟩
theorem wmL_69 : (.methodLink RL 69 yX6_costWith : Cond) ∈ TBLG := List.mem_filter.mpr ⟨List.mem_of_getElem? (i := 599) (by decide +kernel), by decide +kernel⟩
theorem wmL_72 : (.methodLink RL 72 yX7_costWith : Cond) ∈ TBLG := List.mem_filter.mpr ⟨List.mem_of_getElem? (i := 936) (by decide +kernel), by decide +kernel⟩
theorem wmL_73 : (.methodLink RL 73 yX6_enough : Cond) ∈ TBLG := List.mem_filter.mpr ⟨List.mem_of_getElem? (i := 603) (by decide +kernel), by decide +kernel⟩
theorem wmL_76 : (.methodLink RL 76 yX7_enough : Cond) ∈ TBLG := List.mem_filter.mpr ⟨List.mem_of_getElem? (i := 940) (by decide +kernel), by decide +kernel⟩
theorem wmL_77 : (.methodLink RL 77 yX6_proved : Cond) ∈ TBLG := List.mem_filter.mpr ⟨List.mem_of_getElem? (i := 607) (by decide +kernel), by decide +kernel⟩
theorem wmL_80 : (.methodLink RL 80 yX7_proved : Cond) ∈ TBLG := List.mem_filter.mpr ⟨List.mem_of_getElem? (i := 944) (by decide +kernel), by decide +kernel⟩
theorem wmL_81 : (.methodLink RL 81 yX6_ways : Cond) ∈ TBLG := List.mem_filter.mpr ⟨List.mem_of_getElem? (i := 633) (by decide +kernel), by decide +kernel⟩
theorem wmL_84 : (.methodLink RL 84 yX7_ways : Cond) ∈ TBLG := List.mem_filter.mpr ⟨List.mem_of_getElem? (i := 956) (by decide +kernel), by decide +kernel⟩
theorem wm7_75 : (.methodLink RX7 75 yX7_in : Cond) ∈ TBLG := List.mem_filter.mpr ⟨List.mem_of_getElem? (i := 766) (by decide +kernel), by decide +kernel⟩
theorem wm7_97 : (.methodLink RX7 97 yX7_puts : Cond) ∈ TBLG := List.mem_filter.mpr ⟨List.mem_of_getElem? (i := 804) (by decide +kernel), by decide +kernel⟩
theorem wm7_104 : (.methodLink RX7 104 yX7_kindOf : Cond) ∈ TBLG := List.mem_filter.mpr ⟨List.mem_of_getElem? (i := 816) (by decide +kernel), by decide +kernel⟩
theorem wm7_111 : (.methodLink RX7 111 yX7_makes : Cond) ∈ TBLG := List.mem_filter.mpr ⟨List.mem_of_getElem? (i := 812) (by decide +kernel), by decide +kernel⟩
theorem wm7_118 : (.methodLink RX7 118 yX7_here : Cond) ∈ TBLG := List.mem_filter.mpr ⟨List.mem_of_getElem? (i := 783) (by decide +kernel), by decide +kernel⟩
theorem wm7_122 : (.methodLink RX7 122 yX7_leaf : Cond) ∈ TBLG := List.mem_filter.mpr ⟨List.mem_of_getElem? (i := 800) (by decide +kernel), by decide +kernel⟩
theorem wm7_130 : (.methodLink RX7 130 yX7_number : Cond) ∈ TBLG := List.mem_filter.mpr ⟨List.mem_of_getElem? (i := 796) (by decide +kernel), by decide +kernel⟩
theorem wm7_134 : (.methodLink RX7 134 yX7_factor : Cond) ∈ TBLG := List.mem_filter.mpr ⟨List.mem_of_getElem? (i := 792) (by decide +kernel), by decide +kernel⟩
theorem wm7_137 : (.methodLink RX7 137 yX7_settles : Cond) ∈ TBLG := List.mem_filter.mpr ⟨List.mem_of_getElem? (i := 808) (by decide +kernel), by decide +kernel⟩
theorem wm7_140 : (.methodLink RX7 140 yX7_isOpen : Cond) ∈ TBLG := List.mem_filter.mpr ⟨List.mem_of_getElem? (i := 819) (by decide +kernel), by decide +kernel⟩
theorem wm7_143 : (.methodLink RX7 143 yX7_formulaRead : Cond) ∈ TBLG := List.mem_filter.mpr ⟨List.mem_of_getElem? (i := 788) (by decide +kernel), by decide +kernel⟩
theorem wm7_146 : (.methodLink RX7 146 yX7_reads : Cond) ∈ TBLG := List.mem_filter.mpr ⟨List.mem_of_getElem? (i := 779) (by decide +kernel), by decide +kernel⟩
theorem wm7_149 : (.methodLink RX7 149 yX7_acts : Cond) ∈ TBLG := List.mem_filter.mpr ⟨List.mem_of_getElem? (i := 823) (by decide +kernel), by decide +kernel⟩
theorem wm7_152 : (.methodLink RX7 152 yX7_kindAt : Cond) ∈ TBLG := List.mem_filter.mpr ⟨List.mem_of_getElem? (i := 835) (by decide +kernel), by decide +kernel⟩
theorem wm7_156 : (.methodLink RX7 156 yX7_isFormula : Cond) ∈ TBLG := List.mem_filter.mpr ⟨List.mem_of_getElem? (i := 831) (by decide +kernel), by decide +kernel⟩
theorem wm7_161 : (.methodLink RX7 161 yX7_sizeAt : Cond) ∈ TBLG := List.mem_filter.mpr ⟨List.mem_of_getElem? (i := 840) (by decide +kernel), by decide +kernel⟩
theorem wm7_164 : (.methodLink RX7 164 yX7_lays : Cond) ∈ TBLG := List.mem_filter.mpr ⟨List.mem_of_getElem? (i := 844) (by decide +kernel), by decide +kernel⟩
theorem wm7_167 : (.methodLink RX7 167 yX7_isCell : Cond) ∈ TBLG := List.mem_filter.mpr ⟨List.mem_of_getElem? (i := 873) (by decide +kernel), by decide +kernel⟩
theorem wm7_174 : (.methodLink RX7 174 yX7_copies : Cond) ∈ TBLG := List.mem_filter.mpr ⟨List.mem_of_getElem? (i := 852) (by decide +kernel), by decide +kernel⟩
theorem wm7_177 : (.methodLink RX7 177 yX7_joins : Cond) ∈ TBLG := List.mem_filter.mpr ⟨List.mem_of_getElem? (i := 860) (by decide +kernel), by decide +kernel⟩
theorem wm7_180 : (.methodLink RX7 180 yX7_cut : Cond) ∈ TBLG := List.mem_filter.mpr ⟨List.mem_of_getElem? (i := 864) (by decide +kernel), by decide +kernel⟩
theorem wm7_184 : (.methodLink RX7 184 yX7_expands : Cond) ∈ TBLG := List.mem_filter.mpr ⟨List.mem_of_getElem? (i := 848) (by decide +kernel), by decide +kernel⟩
theorem wm7_187 : (.methodLink RX7 187 yX7_tells : Cond) ∈ TBLG := List.mem_filter.mpr ⟨List.mem_of_getElem? (i := 856) (by decide +kernel), by decide +kernel⟩
theorem wm7_191 : (.methodLink RX7 191 yX7_cheapOnes : Cond) ∈ TBLG := List.mem_filter.mpr ⟨List.mem_of_getElem? (i := 888) (by decide +kernel), by decide +kernel⟩
theorem wm7_194 : (.methodLink RX7 194 yX7_greatestNeed : Cond) ∈ TBLG := List.mem_filter.mpr ⟨List.mem_of_getElem? (i := 892) (by decide +kernel), by decide +kernel⟩
theorem wm7_197 : (.methodLink RX7 197 yX7_uses : Cond) ∈ TBLG := List.mem_filter.mpr ⟨List.mem_of_getElem? (i := 900) (by decide +kernel), by decide +kernel⟩
theorem wm7_227 : (.methodLink RX7 227 yX7_does : Cond) ∈ TBLG := List.mem_filter.mpr ⟨List.mem_of_getElem? (i := 928) (by decide +kernel), by decide +kernel⟩
theorem wm7_231 : (.methodLink RX7 231 yX7_pushes : Cond) ∈ TBLG := List.mem_filter.mpr ⟨List.mem_of_getElem? (i := 920) (by decide +kernel), by decide +kernel⟩
theorem wm7_234 : (.methodLink RX7 234 yX7_goesOn : Cond) ∈ TBLG := List.mem_filter.mpr ⟨List.mem_of_getElem? (i := 924) (by decide +kernel), by decide +kernel⟩
theorem wm7_237 : (.methodLink RX7 237 yX7_plans : Cond) ∈ TBLG := List.mem_filter.mpr ⟨List.mem_of_getElem? (i := 916) (by decide +kernel), by decide +kernel⟩
theorem wm7_240 : (.methodLink RX7 240 yX7_tries : Cond) ∈ TBLG := List.mem_filter.mpr ⟨List.mem_of_getElem? (i := 948) (by decide +kernel), by decide +kernel⟩
theorem wm7_243 : (.methodLink RX7 243 yX7_fewest : Cond) ∈ TBLG := List.mem_filter.mpr ⟨List.mem_of_getElem? (i := 952) (by decide +kernel), by decide +kernel⟩
theorem wiX6_init : (.instanceMethod yX6_init : Cond) ∈ TBLG := List.mem_filter.mpr ⟨List.mem_of_getElem? (i := 93) (by decide +kernel), by decide +kernel⟩
theorem wcX6_init : (.code yX6_init cX6_init 2 none : Cond) ∈ TBLG := List.mem_filter.mpr ⟨List.mem_of_getElem? (i := 94) (by decide +kernel), by decide +kernel⟩
theorem wiX6_append : (.instanceMethod yX6_append : Cond) ∈ TBLG := List.mem_filter.mpr ⟨List.mem_of_getElem? (i := 297) (by decide +kernel), by decide +kernel⟩
theorem wvX6_append : (.selects RX6 yX6_append yX6_append : Cond) ∈ TBLG := List.mem_filter.mpr ⟨List.mem_of_getElem? (i := 298) (by decide +kernel), by decide +kernel⟩
theorem wcX6_append : (.code yX6_append cX6_append 2 (some .int) : Cond) ∈ TBLG := List.mem_filter.mpr ⟨List.mem_of_getElem? (i := 299) (by decide +kernel), by decide +kernel⟩
theorem wsX6_arePlaces : (.static yX6_arePlaces : Cond) ∈ TBLG := List.mem_filter.mpr ⟨List.mem_of_getElem? (i := 521) (by decide +kernel), by decide +kernel⟩
theorem wcX6_arePlaces : (.code yX6_arePlaces cX6_arePlaces 1 (some .boolean) : Cond) ∈ TBLG := List.mem_filter.mpr ⟨List.mem_of_getElem? (i := 522) (by decide +kernel), by decide +kernel⟩
theorem wiX6_cell : (.instanceMethod yX6_cell : Cond) ∈ TBLG := List.mem_filter.mpr ⟨List.mem_of_getElem? (i := 564) (by decide +kernel), by decide +kernel⟩
theorem wvX6_cell : (.selects RX6 yX6_cell yX6_cell : Cond) ∈ TBLG := List.mem_filter.mpr ⟨List.mem_of_getElem? (i := 565) (by decide +kernel), by decide +kernel⟩
theorem wcX6_cell : (.code yX6_cell cX6_cell 2 (some .int) : Cond) ∈ TBLG := List.mem_filter.mpr ⟨List.mem_of_getElem? (i := 566) (by decide +kernel), by decide +kernel⟩
theorem wiX6_cheapDefinitions : (.instanceMethod yX6_cheapDefinitions : Cond) ∈ TBLG := List.mem_filter.mpr ⟨List.mem_of_getElem? (i := 533) (by decide +kernel), by decide +kernel⟩
theorem wvX6_cheapDefinitions : (.selects RX6 yX6_cheapDefinitions yX6_cheapDefinitions : Cond) ∈ TBLG := List.mem_filter.mpr ⟨List.mem_of_getElem? (i := 38) (by decide +kernel), by decide +kernel⟩
theorem wcX6_cheapDefinitions : (.code yX6_cheapDefinitions cX6_cheapDefinitions 3 (some .int) : Cond) ∈ TBLG := List.mem_filter.mpr ⟨List.mem_of_getElem? (i := 534) (by decide +kernel), by decide +kernel⟩
theorem wiX6_clearText : (.instanceMethod yX6_clearText : Cond) ∈ TBLG := List.mem_filter.mpr ⟨List.mem_of_getElem? (i := 307) (by decide +kernel), by decide +kernel⟩
theorem wvX6_clearText : (.selects RX6 yX6_clearText yX6_clearText : Cond) ∈ TBLG := List.mem_filter.mpr ⟨List.mem_of_getElem? (i := 308) (by decide +kernel), by decide +kernel⟩
theorem wcX6_clearText : (.code yX6_clearText cX6_clearText 2 (some .int) : Cond) ∈ TBLG := List.mem_filter.mpr ⟨List.mem_of_getElem? (i := 309) (by decide +kernel), by decide +kernel⟩
theorem wiX6_costWith : (.instanceMethod yX6_costWith : Cond) ∈ TBLG := List.mem_filter.mpr ⟨List.mem_of_getElem? (i := 600) (by decide +kernel), by decide +kernel⟩
theorem wvX6_costWith : (.selects RX6 yX6_costWith yX6_costWith : Cond) ∈ TBLG := List.mem_filter.mpr ⟨List.mem_of_getElem? (i := 601) (by decide +kernel), by decide +kernel⟩
theorem wcX6_costWith : (.code yX6_costWith cX6_costWith 2 (some .int) : Cond) ∈ TBLG := List.mem_filter.mpr ⟨List.mem_of_getElem? (i := 602) (by decide +kernel), by decide +kernel⟩
theorem wiX6_count : (.instanceMethod yX6_count : Cond) ∈ TBLG := List.mem_filter.mpr ⟨List.mem_of_getElem? (i := 528) (by decide +kernel), by decide +kernel⟩
theorem wvX6_count : (.selects RX6 yX6_count yX6_count : Cond) ∈ TBLG := List.mem_filter.mpr ⟨List.mem_of_getElem? (i := 529) (by decide +kernel), by decide +kernel⟩
theorem wcX6_count : (.code yX6_count cX6_count 2 (some .int) : Cond) ∈ TBLG := List.mem_filter.mpr ⟨List.mem_of_getElem? (i := 530) (by decide +kernel), by decide +kernel⟩
theorem wiX6_dropOldestState : (.instanceMethod yX6_dropOldestState : Cond) ∈ TBLG := List.mem_filter.mpr ⟨List.mem_of_getElem? (i := 379) (by decide +kernel), by decide +kernel⟩
theorem wvX6_dropOldestState : (.selects RX6 yX6_dropOldestState yX6_dropOldestState : Cond) ∈ TBLG := List.mem_filter.mpr ⟨List.mem_of_getElem? (i := 15) (by decide +kernel), by decide +kernel⟩
theorem wcX6_dropOldestState : (.code yX6_dropOldestState cX6_dropOldestState 3 none : Cond) ∈ TBLG := List.mem_filter.mpr ⟨List.mem_of_getElem? (i := 380) (by decide +kernel), by decide +kernel⟩
theorem wiX6_enough : (.instanceMethod yX6_enough : Cond) ∈ TBLG := List.mem_filter.mpr ⟨List.mem_of_getElem? (i := 604) (by decide +kernel), by decide +kernel⟩
theorem wvX6_enough : (.selects RX6 yX6_enough yX6_enough : Cond) ∈ TBLG := List.mem_filter.mpr ⟨List.mem_of_getElem? (i := 605) (by decide +kernel), by decide +kernel⟩
theorem wcX6_enough : (.code yX6_enough cX6_enough 2 (some .int) : Cond) ∈ TBLG := List.mem_filter.mpr ⟨List.mem_of_getElem? (i := 606) (by decide +kernel), by decide +kernel⟩
theorem wiX6_formula : (.instanceMethod yX6_formula : Cond) ∈ TBLG := List.mem_filter.mpr ⟨List.mem_of_getElem? (i := 545) (by decide +kernel), by decide +kernel⟩
theorem wvX6_formula : (.selects RX6 yX6_formula yX6_formula : Cond) ∈ TBLG := List.mem_filter.mpr ⟨List.mem_of_getElem? (i := 546) (by decide +kernel), by decide +kernel⟩
theorem wcX6_formula : (.code yX6_formula cX6_formula 4 (some .int) : Cond) ∈ TBLG := List.mem_filter.mpr ⟨List.mem_of_getElem? (i := 547) (by decide +kernel), by decide +kernel⟩
theorem wiX6_greatestNeed : (.instanceMethod yX6_greatestNeed : Cond) ∈ TBLG := List.mem_filter.mpr ⟨List.mem_of_getElem? (i := 541) (by decide +kernel), by decide +kernel⟩
theorem wvX6_greatestNeed : (.selects RX6 yX6_greatestNeed yX6_greatestNeed : Cond) ∈ TBLG := List.mem_filter.mpr ⟨List.mem_of_getElem? (i := 40) (by decide +kernel), by decide +kernel⟩
theorem wcX6_greatestNeed : (.code yX6_greatestNeed cX6_greatestNeed 3 (some .int) : Cond) ∈ TBLG := List.mem_filter.mpr ⟨List.mem_of_getElem? (i := 542) (by decide +kernel), by decide +kernel⟩
theorem wsX6_isCell : (.static yX6_isCell : Cond) ∈ TBLG := List.mem_filter.mpr ⟨List.mem_of_getElem? (i := 514) (by decide +kernel), by decide +kernel⟩
theorem wcX6_isCell : (.code yX6_isCell cX6_isCell 1 (some .boolean) : Cond) ∈ TBLG := List.mem_filter.mpr ⟨List.mem_of_getElem? (i := 515) (by decide +kernel), by decide +kernel⟩
theorem wiX6_isFormula : (.instanceMethod yX6_isFormula : Cond) ∈ TBLG := List.mem_filter.mpr ⟨List.mem_of_getElem? (i := 490) (by decide +kernel), by decide +kernel⟩
theorem wvX6_isFormula : (.selects RX6 yX6_isFormula yX6_isFormula : Cond) ∈ TBLG := List.mem_filter.mpr ⟨List.mem_of_getElem? (i := 34) (by decide +kernel), by decide +kernel⟩
theorem wcX6_isFormula : (.code yX6_isFormula cX6_isFormula 2 (some .boolean) : Cond) ∈ TBLG := List.mem_filter.mpr ⟨List.mem_of_getElem? (i := 491) (by decide +kernel), by decide +kernel⟩
theorem wiX6_node : (.instanceMethod yX6_node : Cond) ∈ TBLG := List.mem_filter.mpr ⟨List.mem_of_getElem? (i := 556) (by decide +kernel), by decide +kernel⟩
theorem wvX6_node : (.selects RX6 yX6_node yX6_node : Cond) ∈ TBLG := List.mem_filter.mpr ⟨List.mem_of_getElem? (i := 557) (by decide +kernel), by decide +kernel⟩
theorem wcX6_node : (.code yX6_node cX6_node 6 (some .int) : Cond) ∈ TBLG := List.mem_filter.mpr ⟨List.mem_of_getElem? (i := 558) (by decide +kernel), by decide +kernel⟩
theorem wiX6_nodesAsRead : (.instanceMethod yX6_nodesAsRead : Cond) ∈ TBLG := List.mem_filter.mpr ⟨List.mem_of_getElem? (i := 537) (by decide +kernel), by decide +kernel⟩
theorem wvX6_nodesAsRead : (.selects RX6 yX6_nodesAsRead yX6_nodesAsRead : Cond) ∈ TBLG := List.mem_filter.mpr ⟨List.mem_of_getElem? (i := 39) (by decide +kernel), by decide +kernel⟩
theorem wcX6_nodesAsRead : (.code yX6_nodesAsRead cX6_nodesAsRead 3 (some .int) : Cond) ∈ TBLG := List.mem_filter.mpr ⟨List.mem_of_getElem? (i := 538) (by decide +kernel), by decide +kernel⟩
theorem wsX6_partsOf : (.static yX6_partsOf : Cond) ∈ TBLG := List.mem_filter.mpr ⟨List.mem_of_getElem? (i := 436) (by decide +kernel), by decide +kernel⟩
theorem wcX6_partsOf : (.code yX6_partsOf cX6_partsOf 1 (some .int) : Cond) ∈ TBLG := List.mem_filter.mpr ⟨List.mem_of_getElem? (i := 437) (by decide +kernel), by decide +kernel⟩
theorem wiX6_plan : (.instanceMethod yX6_plan : Cond) ∈ TBLG := List.mem_filter.mpr ⟨List.mem_of_getElem? (i := 568) (by decide +kernel), by decide +kernel⟩
theorem wvX6_plan : (.selects RX6 yX6_plan yX6_plan : Cond) ∈ TBLG := List.mem_filter.mpr ⟨List.mem_of_getElem? (i := 569) (by decide +kernel), by decide +kernel⟩
theorem wcX6_plan : (.code yX6_plan cX6_plan 2 (some .int) : Cond) ∈ TBLG := List.mem_filter.mpr ⟨List.mem_of_getElem? (i := 570) (by decide +kernel), by decide +kernel⟩
theorem wiX6_proved : (.instanceMethod yX6_proved : Cond) ∈ TBLG := List.mem_filter.mpr ⟨List.mem_of_getElem? (i := 608) (by decide +kernel), by decide +kernel⟩
theorem wvX6_proved : (.selects RX6 yX6_proved yX6_proved : Cond) ∈ TBLG := List.mem_filter.mpr ⟨List.mem_of_getElem? (i := 609) (by decide +kernel), by decide +kernel⟩
theorem wcX6_proved : (.code yX6_proved cX6_proved 3 (some .int) : Cond) ∈ TBLG := List.mem_filter.mpr ⟨List.mem_of_getElem? (i := 610) (by decide +kernel), by decide +kernel⟩
theorem wiX6_read : (.instanceMethod yX6_read : Cond) ∈ TBLG := List.mem_filter.mpr ⟨List.mem_of_getElem? (i := 311) (by decide +kernel), by decide +kernel⟩
theorem wvX6_read : (.selects RX6 yX6_read yX6_read : Cond) ∈ TBLG := List.mem_filter.mpr ⟨List.mem_of_getElem? (i := 312) (by decide +kernel), by decide +kernel⟩
theorem wcX6_read : (.code yX6_read cX6_read 1 (some .int) : Cond) ∈ TBLG := List.mem_filter.mpr ⟨List.mem_of_getElem? (i := 313) (by decide +kernel), by decide +kernel⟩
theorem wiX6_recordState : (.instanceMethod yX6_recordState : Cond) ∈ TBLG := List.mem_filter.mpr ⟨List.mem_of_getElem? (i := 375) (by decide +kernel), by decide +kernel⟩
theorem wvX6_recordState : (.selects RX6 yX6_recordState yX6_recordState : Cond) ∈ TBLG := List.mem_filter.mpr ⟨List.mem_of_getElem? (i := 14) (by decide +kernel), by decide +kernel⟩
theorem wcX6_recordState : (.code yX6_recordState cX6_recordState 1 none : Cond) ∈ TBLG := List.mem_filter.mpr ⟨List.mem_of_getElem? (i := 376) (by decide +kernel), by decide +kernel⟩
theorem wiX6_refusalToTry : (.instanceMethod yX6_refusalToTry : Cond) ∈ TBLG := List.mem_filter.mpr ⟨List.mem_of_getElem? (i := 613) (by decide +kernel), by decide +kernel⟩
theorem wvX6_refusalToTry : (.selects RX6 yX6_refusalToTry yX6_refusalToTry : Cond) ∈ TBLG := List.mem_filter.mpr ⟨List.mem_of_getElem? (i := 47) (by decide +kernel), by decide +kernel⟩
theorem wcX6_refusalToTry : (.code yX6_refusalToTry cX6_refusalToTry 2 (some .int) : Cond) ∈ TBLG := List.mem_filter.mpr ⟨List.mem_of_getElem? (i := 614) (by decide +kernel), by decide +kernel⟩
theorem wiX6_setCell : (.instanceMethod yX6_setCell : Cond) ∈ TBLG := List.mem_filter.mpr ⟨List.mem_of_getElem? (i := 510) (by decide +kernel), by decide +kernel⟩
theorem wvX6_setCell : (.selects RX6 yX6_setCell yX6_setCell : Cond) ∈ TBLG := List.mem_filter.mpr ⟨List.mem_of_getElem? (i := 511) (by decide +kernel), by decide +kernel⟩
theorem wcX6_setCell : (.code yX6_setCell cX6_setCell 4 (some .int) : Cond) ∈ TBLG := List.mem_filter.mpr ⟨List.mem_of_getElem? (i := 512) (by decide +kernel), by decide +kernel⟩
theorem wiX6_setPlaces : (.instanceMethod yX6_setPlaces : Cond) ∈ TBLG := List.mem_filter.mpr ⟨List.mem_of_getElem? (i := 517) (by decide +kernel), by decide +kernel⟩
theorem wvX6_setPlaces : (.selects RX6 yX6_setPlaces yX6_setPlaces : Cond) ∈ TBLG := List.mem_filter.mpr ⟨List.mem_of_getElem? (i := 518) (by decide +kernel), by decide +kernel⟩
theorem wcX6_setPlaces : (.code yX6_setPlaces cX6_setPlaces 3 (some .int) : Cond) ∈ TBLG := List.mem_filter.mpr ⟨List.mem_of_getElem? (i := 519) (by decide +kernel), by decide +kernel⟩
theorem wiX6_step : (.instanceMethod yX6_step : Cond) ∈ TBLG := List.mem_filter.mpr ⟨List.mem_of_getElem? (i := 592) (by decide +kernel), by decide +kernel⟩
theorem wvX6_step : (.selects RX6 yX6_step yX6_step : Cond) ∈ TBLG := List.mem_filter.mpr ⟨List.mem_of_getElem? (i := 593) (by decide +kernel), by decide +kernel⟩
theorem wcX6_step : (.code yX6_step cX6_step 3 (some .int) : Cond) ∈ TBLG := List.mem_filter.mpr ⟨List.mem_of_getElem? (i := 594) (by decide +kernel), by decide +kernel⟩
theorem wiX6_turn : (.instanceMethod yX6_turn : Cond) ∈ TBLG := List.mem_filter.mpr ⟨List.mem_of_getElem? (i := 485) (by decide +kernel), by decide +kernel⟩
theorem wvX6_turn : (.selects RX6 yX6_turn yX6_turn : Cond) ∈ TBLG := List.mem_filter.mpr ⟨List.mem_of_getElem? (i := 486) (by decide +kernel), by decide +kernel⟩
theorem wcX6_turn : (.code yX6_turn cX6_turn 4 (some .int) : Cond) ∈ TBLG := List.mem_filter.mpr ⟨List.mem_of_getElem? (i := 487) (by decide +kernel), by decide +kernel⟩
theorem wiX6_undo : (.instanceMethod yX6_undo : Cond) ∈ TBLG := List.mem_filter.mpr ⟨List.mem_of_getElem? (i := 524) (by decide +kernel), by decide +kernel⟩
theorem wvX6_undo : (.selects RX6 yX6_undo yX6_undo : Cond) ∈ TBLG := List.mem_filter.mpr ⟨List.mem_of_getElem? (i := 525) (by decide +kernel), by decide +kernel⟩
theorem wcX6_undo : (.code yX6_undo cX6_undo 1 (some .int) : Cond) ∈ TBLG := List.mem_filter.mpr ⟨List.mem_of_getElem? (i := 526) (by decide +kernel), by decide +kernel⟩
theorem wiX6_usesOf : (.instanceMethod yX6_usesOf : Cond) ∈ TBLG := List.mem_filter.mpr ⟨List.mem_of_getElem? (i := 552) (by decide +kernel), by decide +kernel⟩
theorem wvX6_usesOf : (.selects RX6 yX6_usesOf yX6_usesOf : Cond) ∈ TBLG := List.mem_filter.mpr ⟨List.mem_of_getElem? (i := 41) (by decide +kernel), by decide +kernel⟩
theorem wcX6_usesOf : (.code yX6_usesOf cX6_usesOf 7 (some .int) : Cond) ∈ TBLG := List.mem_filter.mpr ⟨List.mem_of_getElem? (i := 553) (by decide +kernel), by decide +kernel⟩
theorem wiX6_ways : (.instanceMethod yX6_ways : Cond) ∈ TBLG := List.mem_filter.mpr ⟨List.mem_of_getElem? (i := 634) (by decide +kernel), by decide +kernel⟩
theorem wvX6_ways : (.selects RX6 yX6_ways yX6_ways : Cond) ∈ TBLG := List.mem_filter.mpr ⟨List.mem_of_getElem? (i := 635) (by decide +kernel), by decide +kernel⟩
theorem wcX6_ways : (.code yX6_ways cX6_ways 3 (some .int) : Cond) ∈ TBLG := List.mem_filter.mpr ⟨List.mem_of_getElem? (i := 636) (by decide +kernel), by decide +kernel⟩
theorem wiX6_workAnew : (.instanceMethod yX6_workAnew : Cond) ∈ TBLG := List.mem_filter.mpr ⟨List.mem_of_getElem? (i := 414) (by decide +kernel), by decide +kernel⟩
theorem wvX6_workAnew : (.selects RX6 yX6_workAnew yX6_workAnew : Cond) ∈ TBLG := List.mem_filter.mpr ⟨List.mem_of_getElem? (i := 23) (by decide +kernel), by decide +kernel⟩
theorem wcX6_workAnew : (.code yX6_workAnew cX6_workAnew 3 none : Cond) ∈ TBLG := List.mem_filter.mpr ⟨List.mem_of_getElem? (i := 415) (by decide +kernel), by decide +kernel⟩
theorem wiX0_depthOf : (.instanceMethod yX0_depthOf : Cond) ∈ TBLG := List.mem_filter.mpr ⟨List.mem_of_getElem? (i := 463) (by decide +kernel), by decide +kernel⟩
theorem wvX0_depthOf : (.selects RX0 yX0_depthOf yX0_depthOf : Cond) ∈ TBLG := List.mem_filter.mpr ⟨List.mem_of_getElem? (i := 32) (by decide +kernel), by decide +kernel⟩
theorem wcX0_depthOf : (.code yX0_depthOf cX0_depthOf 2 (some .int) : Cond) ∈ TBLG := List.mem_filter.mpr ⟨List.mem_of_getElem? (i := 464) (by decide +kernel), by decide +kernel⟩
theorem wsX0_entry : (.static yX0_entry : Cond) ∈ TBLG := List.mem_filter.mpr ⟨List.mem_of_getElem? (i := 447) (by decide +kernel), by decide +kernel⟩
theorem wcX0_entry : (.code yX0_entry cX0_entry 2 (some .int) : Cond) ∈ TBLG := List.mem_filter.mpr ⟨List.mem_of_getElem? (i := 448) (by decide +kernel), by decide +kernel⟩
theorem wiX0_leafValue : (.instanceMethod yX0_leafValue : Cond) ∈ TBLG := List.mem_filter.mpr ⟨List.mem_of_getElem? (i := 444) (by decide +kernel), by decide +kernel⟩
theorem wvX0_leafValue : (.selects RX0 yX0_leafValue yX0_leafValue : Cond) ∈ TBLG := List.mem_filter.mpr ⟨List.mem_of_getElem? (i := 28) (by decide +kernel), by decide +kernel⟩
theorem wcX0_leafValue : (.code yX0_leafValue cX0_leafValue 6 (some .int) : Cond) ∈ TBLG := List.mem_filter.mpr ⟨List.mem_of_getElem? (i := 445) (by decide +kernel), by decide +kernel⟩
theorem wiX0_make : (.instanceMethod yX0_make : Cond) ∈ TBLG := List.mem_filter.mpr ⟨List.mem_of_getElem? (i := 418) (by decide +kernel), by decide +kernel⟩
theorem wvX0_make : (.selects RX0 yX0_make yX0_make : Cond) ∈ TBLG := List.mem_filter.mpr ⟨List.mem_of_getElem? (i := 24) (by decide +kernel), by decide +kernel⟩
theorem wcX0_make : (.code yX0_make cX0_make 7 none : Cond) ∈ TBLG := List.mem_filter.mpr ⟨List.mem_of_getElem? (i := 419) (by decide +kernel), by decide +kernel⟩
theorem wiX0_measure : (.instanceMethod yX0_measure : Cond) ∈ TBLG := List.mem_filter.mpr ⟨List.mem_of_getElem? (i := 430) (by decide +kernel), by decide +kernel⟩
theorem wvX0_measure : (.selects RX0 yX0_measure yX0_measure : Cond) ∈ TBLG := List.mem_filter.mpr ⟨List.mem_of_getElem? (i := 26) (by decide +kernel), by decide +kernel⟩
theorem wcX0_measure : (.code yX0_measure cX0_measure 8 none : Cond) ∈ TBLG := List.mem_filter.mpr ⟨List.mem_of_getElem? (i := 431) (by decide +kernel), by decide +kernel⟩
theorem wiX0_needOf : (.instanceMethod yX0_needOf : Cond) ∈ TBLG := List.mem_filter.mpr ⟨List.mem_of_getElem? (i := 459) (by decide +kernel), by decide +kernel⟩
theorem wvX0_needOf : (.selects RX0 yX0_needOf yX0_needOf : Cond) ∈ TBLG := List.mem_filter.mpr ⟨List.mem_of_getElem? (i := 31) (by decide +kernel), by decide +kernel⟩
theorem wcX0_needOf : (.code yX0_needOf cX0_needOf 2 (some .int) : Cond) ∈ TBLG := List.mem_filter.mpr ⟨List.mem_of_getElem? (i := 460) (by decide +kernel), by decide +kernel⟩
theorem wsX0_needOfPair : (.static yX0_needOfPair : Cond) ∈ TBLG := List.mem_filter.mpr ⟨List.mem_of_getElem? (i := 471) (by decide +kernel), by decide +kernel⟩
theorem wcX0_needOfPair : (.code yX0_needOfPair cX0_needOfPair 2 (some .int) : Cond) ∈ TBLG := List.mem_filter.mpr ⟨List.mem_of_getElem? (i := 472) (by decide +kernel), by decide +kernel⟩
theorem wsX0_operate : (.static yX0_operate : Cond) ∈ TBLG := List.mem_filter.mpr ⟨List.mem_of_getElem? (i := 474) (by decide +kernel), by decide +kernel⟩
theorem wcX0_operate : (.code yX0_operate cX0_operate 7 (some .int) : Cond) ∈ TBLG := List.mem_filter.mpr ⟨List.mem_of_getElem? (i := 475) (by decide +kernel), by decide +kernel⟩
theorem wiX0_pairs : (.instanceMethod yX0_pairs : Cond) ∈ TBLG := List.mem_filter.mpr ⟨List.mem_of_getElem? (i := 617) (by decide +kernel), by decide +kernel⟩
theorem wvX0_pairs : (.selects RX0 yX0_pairs yX0_pairs : Cond) ∈ TBLG := List.mem_filter.mpr ⟨List.mem_of_getElem? (i := 48) (by decide +kernel), by decide +kernel⟩
theorem wcX0_pairs : (.code yX0_pairs cX0_pairs 3 (some .int) : Cond) ∈ TBLG := List.mem_filter.mpr ⟨List.mem_of_getElem? (i := 618) (by decide +kernel), by decide +kernel⟩
theorem wiX0_put : (.instanceMethod yX0_put : Cond) ∈ TBLG := List.mem_filter.mpr ⟨List.mem_of_getElem? (i := 440) (by decide +kernel), by decide +kernel⟩
theorem wvX0_put : (.selects RX0 yX0_put yX0_put : Cond) ∈ TBLG := List.mem_filter.mpr ⟨List.mem_of_getElem? (i := 27) (by decide +kernel), by decide +kernel⟩
theorem wcX0_put : (.code yX0_put cX0_put 5 none : Cond) ∈ TBLG := List.mem_filter.mpr ⟨List.mem_of_getElem? (i := 441) (by decide +kernel), by decide +kernel⟩
theorem wiX0_rightOf : (.instanceMethod yX0_rightOf : Cond) ∈ TBLG := List.mem_filter.mpr ⟨List.mem_of_getElem? (i := 467) (by decide +kernel), by decide +kernel⟩
theorem wvX0_rightOf : (.selects RX0 yX0_rightOf yX0_rightOf : Cond) ∈ TBLG := List.mem_filter.mpr ⟨List.mem_of_getElem? (i := 33) (by decide +kernel), by decide +kernel⟩
theorem wcX0_rightOf : (.code yX0_rightOf cX0_rightOf 2 (some .int) : Cond) ∈ TBLG := List.mem_filter.mpr ⟨List.mem_of_getElem? (i := 468) (by decide +kernel), by decide +kernel⟩
theorem wiX0_sizeOf : (.instanceMethod yX0_sizeOf : Cond) ∈ TBLG := List.mem_filter.mpr ⟨List.mem_of_getElem? (i := 455) (by decide +kernel), by decide +kernel⟩
theorem wvX0_sizeOf : (.selects RX0 yX0_sizeOf yX0_sizeOf : Cond) ∈ TBLG := List.mem_filter.mpr ⟨List.mem_of_getElem? (i := 30) (by decide +kernel), by decide +kernel⟩
theorem wcX0_sizeOf : (.code yX0_sizeOf cX0_sizeOf 2 (some .int) : Cond) ∈ TBLG := List.mem_filter.mpr ⟨List.mem_of_getElem? (i := 456) (by decide +kernel), by decide +kernel⟩
theorem wiX0_valueOf : (.instanceMethod yX0_valueOf : Cond) ∈ TBLG := List.mem_filter.mpr ⟨List.mem_of_getElem? (i := 451) (by decide +kernel), by decide +kernel⟩
theorem wvX0_valueOf : (.selects RX0 yX0_valueOf yX0_valueOf : Cond) ∈ TBLG := List.mem_filter.mpr ⟨List.mem_of_getElem? (i := 29) (by decide +kernel), by decide +kernel⟩
theorem wcX0_valueOf : (.code yX0_valueOf cX0_valueOf 2 (some .int) : Cond) ∈ TBLG := List.mem_filter.mpr ⟨List.mem_of_getElem? (i := 452) (by decide +kernel), by decide +kernel⟩
theorem wiX1_add : (.instanceMethod yX1_add : Cond) ∈ TBLG := List.mem_filter.mpr ⟨List.mem_of_getElem? (i := 348) (by decide +kernel), by decide +kernel⟩
theorem wvX1_add : (.selects RX1 yX1_add yX1_add : Cond) ∈ TBLG := List.mem_filter.mpr ⟨List.mem_of_getElem? (i := 9) (by decide +kernel), by decide +kernel⟩
theorem wcX1_add : (.code yX1_add cX1_add 3 (some .boolean) : Cond) ∈ TBLG := List.mem_filter.mpr ⟨List.mem_of_getElem? (i := 349) (by decide +kernel), by decide +kernel⟩
theorem wiX1_addAll : (.instanceMethod yX1_addAll : Cond) ∈ TBLG := List.mem_filter.mpr ⟨List.mem_of_getElem? (i := 395) (by decide +kernel), by decide +kernel⟩
theorem wvX1_addAll : (.selects RX1 yX1_addAll yX1_addAll : Cond) ∈ TBLG := List.mem_filter.mpr ⟨List.mem_of_getElem? (i := 19) (by decide +kernel), by decide +kernel⟩
theorem wcX1_addAll : (.code yX1_addAll cX1_addAll 4 none : Cond) ∈ TBLG := List.mem_filter.mpr ⟨List.mem_of_getElem? (i := 396) (by decide +kernel), by decide +kernel⟩
theorem wiX1_behind : (.instanceMethod yX1_behind : Cond) ∈ TBLG := List.mem_filter.mpr ⟨List.mem_of_getElem? (i := 501) (by decide +kernel), by decide +kernel⟩
theorem wvX1_behind : (.selects RX1 yX1_behind yX1_behind : Cond) ∈ TBLG := List.mem_filter.mpr ⟨List.mem_of_getElem? (i := 36) (by decide +kernel), by decide +kernel⟩
theorem wcX1_behind : (.code yX1_behind cX1_behind 4 (some .int) : Cond) ∈ TBLG := List.mem_filter.mpr ⟨List.mem_of_getElem? (i := 502) (by decide +kernel), by decide +kernel⟩
theorem wiX1_contentOf : (.instanceMethod yX1_contentOf : Cond) ∈ TBLG := List.mem_filter.mpr ⟨List.mem_of_getElem? (i := 407) (by decide +kernel), by decide +kernel⟩
theorem wvX1_contentOf : (.selects RX1 yX1_contentOf yX1_contentOf : Cond) ∈ TBLG := List.mem_filter.mpr ⟨List.mem_of_getElem? (i := 22) (by decide +kernel), by decide +kernel⟩
theorem wcX1_contentOf : (.code yX1_contentOf cX1_contentOf 2 (some .int) : Cond) ∈ TBLG := List.mem_filter.mpr ⟨List.mem_of_getElem? (i := 408) (by decide +kernel), by decide +kernel⟩
theorem wiX1_copy : (.instanceMethod yX1_copy : Cond) ∈ TBLG := List.mem_filter.mpr ⟨List.mem_of_getElem? (i := 391) (by decide +kernel), by decide +kernel⟩
theorem wvX1_copy : (.selects RX1 yX1_copy yX1_copy : Cond) ∈ TBLG := List.mem_filter.mpr ⟨List.mem_of_getElem? (i := 18) (by decide +kernel), by decide +kernel⟩
theorem wcX1_copy : (.code yX1_copy cX1_copy 2 none : Cond) ∈ TBLG := List.mem_filter.mpr ⟨List.mem_of_getElem? (i := 392) (by decide +kernel), by decide +kernel⟩
theorem wiX1_exchange : (.instanceMethod yX1_exchange : Cond) ∈ TBLG := List.mem_filter.mpr ⟨List.mem_of_getElem? (i := 497) (by decide +kernel), by decide +kernel⟩
theorem wvX1_exchange : (.selects RX1 yX1_exchange yX1_exchange : Cond) ∈ TBLG := List.mem_filter.mpr ⟨List.mem_of_getElem? (i := 35) (by decide +kernel), by decide +kernel⟩
theorem wcX1_exchange : (.code yX1_exchange cX1_exchange 4 none : Cond) ∈ TBLG := List.mem_filter.mpr ⟨List.mem_of_getElem? (i := 498) (by decide +kernel), by decide +kernel⟩
theorem wiX1_has : (.instanceMethod yX1_has : Cond) ∈ TBLG := List.mem_filter.mpr ⟨List.mem_of_getElem? (i := 403) (by decide +kernel), by decide +kernel⟩
theorem wvX1_has : (.selects RX1 yX1_has yX1_has : Cond) ∈ TBLG := List.mem_filter.mpr ⟨List.mem_of_getElem? (i := 21) (by decide +kernel), by decide +kernel⟩
theorem wcX1_has : (.code yX1_has cX1_has 2 (some .boolean) : Cond) ∈ TBLG := List.mem_filter.mpr ⟨List.mem_of_getElem? (i := 404) (by decide +kernel), by decide +kernel⟩
theorem wiX1_hasKind : (.instanceMethod yX1_hasKind : Cond) ∈ TBLG := List.mem_filter.mpr ⟨List.mem_of_getElem? (i := 426) (by decide +kernel), by decide +kernel⟩
theorem wvX1_hasKind : (.selects RX1 yX1_hasKind yX1_hasKind : Cond) ∈ TBLG := List.mem_filter.mpr ⟨List.mem_of_getElem? (i := 25) (by decide +kernel), by decide +kernel⟩
theorem wcX1_hasKind : (.code yX1_hasKind cX1_hasKind 3 (some .boolean) : Cond) ∈ TBLG := List.mem_filter.mpr ⟨List.mem_of_getElem? (i := 427) (by decide +kernel), by decide +kernel⟩
theorem wiX1_insert : (.instanceMethod yX1_insert : Cond) ∈ TBLG := List.mem_filter.mpr ⟨List.mem_of_getElem? (i := 368) (by decide +kernel), by decide +kernel⟩
theorem wvX1_insert : (.selects RX1 yX1_insert yX1_insert : Cond) ∈ TBLG := List.mem_filter.mpr ⟨List.mem_of_getElem? (i := 13) (by decide +kernel), by decide +kernel⟩
theorem wcX1_insert : (.code yX1_insert cX1_insert 4 (some .boolean) : Cond) ∈ TBLG := List.mem_filter.mpr ⟨List.mem_of_getElem? (i := 369) (by decide +kernel), by decide +kernel⟩
theorem wiX1_isFull : (.instanceMethod yX1_isFull : Cond) ∈ TBLG := List.mem_filter.mpr ⟨List.mem_of_getElem? (i := 344) (by decide +kernel), by decide +kernel⟩
theorem wvX1_isFull : (.selects RX1 yX1_isFull yX1_isFull : Cond) ∈ TBLG := List.mem_filter.mpr ⟨List.mem_of_getElem? (i := 8) (by decide +kernel), by decide +kernel⟩
theorem wcX1_isFull : (.code yX1_isFull cX1_isFull 1 (some .boolean) : Cond) ∈ TBLG := List.mem_filter.mpr ⟨List.mem_of_getElem? (i := 345) (by decide +kernel), by decide +kernel⟩
theorem wiX1_kindOf : (.instanceMethod yX1_kindOf : Cond) ∈ TBLG := List.mem_filter.mpr ⟨List.mem_of_getElem? (i := 399) (by decide +kernel), by decide +kernel⟩
theorem wvX1_kindOf : (.selects RX1 yX1_kindOf yX1_kindOf : Cond) ∈ TBLG := List.mem_filter.mpr ⟨List.mem_of_getElem? (i := 20) (by decide +kernel), by decide +kernel⟩
theorem wcX1_kindOf : (.code yX1_kindOf cX1_kindOf 2 (some .int) : Cond) ∈ TBLG := List.mem_filter.mpr ⟨List.mem_of_getElem? (i := 400) (by decide +kernel), by decide +kernel⟩
theorem wiX1_turnAround : (.instanceMethod yX1_turnAround : Cond) ∈ TBLG := List.mem_filter.mpr ⟨List.mem_of_getElem? (i := 506) (by decide +kernel), by decide +kernel⟩
theorem wvX1_turnAround : (.selects RX1 yX1_turnAround yX1_turnAround : Cond) ∈ TBLG := List.mem_filter.mpr ⟨List.mem_of_getElem? (i := 37) (by decide +kernel), by decide +kernel⟩
theorem wcX1_turnAround : (.code yX1_turnAround cX1_turnAround 7 none : Cond) ∈ TBLG := List.mem_filter.mpr ⟨List.mem_of_getElem? (i := 507) (by decide +kernel), by decide +kernel⟩
theorem wiX2_addStep : (.instanceMethod yX2_addStep : Cond) ∈ TBLG := List.mem_filter.mpr ⟨List.mem_of_getElem? (i := 583) (by decide +kernel), by decide +kernel⟩
theorem wvX2_addStep : (.selects RX2 yX2_addStep yX2_addStep : Cond) ∈ TBLG := List.mem_filter.mpr ⟨List.mem_of_getElem? (i := 44) (by decide +kernel), by decide +kernel⟩
theorem wcX2_addStep : (.code yX2_addStep cX2_addStep 6 none : Cond) ∈ TBLG := List.mem_filter.mpr ⟨List.mem_of_getElem? (i := 584) (by decide +kernel), by decide +kernel⟩
theorem wiX2_has : (.instanceMethod yX2_has : Cond) ∈ TBLG := List.mem_filter.mpr ⟨List.mem_of_getElem? (i := 597) (by decide +kernel), by decide +kernel⟩
theorem wvX2_has : (.selects RX2 yX2_has yX2_has : Cond) ∈ TBLG := List.mem_filter.mpr ⟨List.mem_of_getElem? (i := 46) (by decide +kernel), by decide +kernel⟩
theorem wcX2_has : (.code yX2_has cX2_has 2 (some .boolean) : Cond) ∈ TBLG := List.mem_filter.mpr ⟨List.mem_of_getElem? (i := 598) (by decide +kernel), by decide +kernel⟩
theorem wiX2_make : (.instanceMethod yX2_make : Cond) ∈ TBLG := List.mem_filter.mpr ⟨List.mem_of_getElem? (i := 573) (by decide +kernel), by decide +kernel⟩
theorem wvX2_make : (.selects RX2 yX2_make yX2_make : Cond) ∈ TBLG := List.mem_filter.mpr ⟨List.mem_of_getElem? (i := 42) (by decide +kernel), by decide +kernel⟩
theorem wcX2_make : (.code yX2_make cX2_make 5 none : Cond) ∈ TBLG := List.mem_filter.mpr ⟨List.mem_of_getElem? (i := 574) (by decide +kernel), by decide +kernel⟩
theorem wiX2_workOut : (.instanceMethod yX2_workOut : Cond) ∈ TBLG := List.mem_filter.mpr ⟨List.mem_of_getElem? (i := 577) (by decide +kernel), by decide +kernel⟩
theorem wvX2_workOut : (.selects RX2 yX2_workOut yX2_workOut : Cond) ∈ TBLG := List.mem_filter.mpr ⟨List.mem_of_getElem? (i := 43) (by decide +kernel), by decide +kernel⟩
theorem wcX2_workOut : (.code yX2_workOut cX2_workOut 7 none : Cond) ∈ TBLG := List.mem_filter.mpr ⟨List.mem_of_getElem? (i := 578) (by decide +kernel), by decide +kernel⟩
theorem wiX2_workOutParts : (.instanceMethod yX2_workOutParts : Cond) ∈ TBLG := List.mem_filter.mpr ⟨List.mem_of_getElem? (i := 587) (by decide +kernel), by decide +kernel⟩
theorem wvX2_workOutParts : (.selects RX2 yX2_workOutParts yX2_workOutParts : Cond) ∈ TBLG := List.mem_filter.mpr ⟨List.mem_of_getElem? (i := 45) (by decide +kernel), by decide +kernel⟩
theorem wcX2_workOutParts : (.code yX2_workOutParts cX2_workOutParts 10 none : Cond) ∈ TBLG := List.mem_filter.mpr ⟨List.mem_of_getElem? (i := 588) (by decide +kernel), by decide +kernel⟩
theorem wsX3_isDigit : (.static yX3_isDigit : Cond) ∈ TBLG := List.mem_filter.mpr ⟨List.mem_of_getElem? (i := 356) (by decide +kernel), by decide +kernel⟩
theorem wcX3_isDigit : (.code yX3_isDigit cX3_isDigit 1 (some .boolean) : Cond) ∈ TBLG := List.mem_filter.mpr ⟨List.mem_of_getElem? (i := 357) (by decide +kernel), by decide +kernel⟩
theorem wiX3_pass : (.instanceMethod yX3_pass : Cond) ∈ TBLG := List.mem_filter.mpr ⟨List.mem_of_getElem? (i := 320) (by decide +kernel), by decide +kernel⟩
theorem wvX3_pass : (.selects RX3 yX3_pass yX3_pass : Cond) ∈ TBLG := List.mem_filter.mpr ⟨List.mem_of_getElem? (i := 2) (by decide +kernel), by decide +kernel⟩
theorem wcX3_pass : (.code yX3_pass cX3_pass 3 (some .boolean) : Cond) ∈ TBLG := List.mem_filter.mpr ⟨List.mem_of_getElem? (i := 321) (by decide +kernel), by decide +kernel⟩
theorem wiX3_readFactor : (.instanceMethod yX3_readFactor : Cond) ∈ TBLG := List.mem_filter.mpr ⟨List.mem_of_getElem? (i := 336) (by decide +kernel), by decide +kernel⟩
theorem wvX3_readFactor : (.selects RX3 yX3_readFactor yX3_readFactor : Cond) ∈ TBLG := List.mem_filter.mpr ⟨List.mem_of_getElem? (i := 6) (by decide +kernel), by decide +kernel⟩
theorem wcX3_readFactor : (.code yX3_readFactor cX3_readFactor 4 (some .boolean) : Cond) ∈ TBLG := List.mem_filter.mpr ⟨List.mem_of_getElem? (i := 337) (by decide +kernel), by decide +kernel⟩
theorem wiX3_readLeaf : (.instanceMethod yX3_readLeaf : Cond) ∈ TBLG := List.mem_filter.mpr ⟨List.mem_of_getElem? (i := 353) (by decide +kernel), by decide +kernel⟩
theorem wvX3_readLeaf : (.selects RX3 yX3_readLeaf yX3_readLeaf : Cond) ∈ TBLG := List.mem_filter.mpr ⟨List.mem_of_getElem? (i := 10) (by decide +kernel), by decide +kernel⟩
theorem wcX3_readLeaf : (.code yX3_readLeaf cX3_readLeaf 4 (some .boolean) : Cond) ∈ TBLG := List.mem_filter.mpr ⟨List.mem_of_getElem? (i := 354) (by decide +kernel), by decide +kernel⟩
theorem wiX3_readNested : (.instanceMethod yX3_readNested : Cond) ∈ TBLG := List.mem_filter.mpr ⟨List.mem_of_getElem? (i := 340) (by decide +kernel), by decide +kernel⟩
theorem wvX3_readNested : (.selects RX3 yX3_readNested yX3_readNested : Cond) ∈ TBLG := List.mem_filter.mpr ⟨List.mem_of_getElem? (i := 7) (by decide +kernel), by decide +kernel⟩
theorem wcX3_readNested : (.code yX3_readNested cX3_readNested 4 (some .boolean) : Cond) ∈ TBLG := List.mem_filter.mpr ⟨List.mem_of_getElem? (i := 341) (by decide +kernel), by decide +kernel⟩
theorem wiX3_readNumber : (.instanceMethod yX3_readNumber : Cond) ∈ TBLG := List.mem_filter.mpr ⟨List.mem_of_getElem? (i := 360) (by decide +kernel), by decide +kernel⟩
theorem wvX3_readNumber : (.selects RX3 yX3_readNumber yX3_readNumber : Cond) ∈ TBLG := List.mem_filter.mpr ⟨List.mem_of_getElem? (i := 11) (by decide +kernel), by decide +kernel⟩
theorem wcX3_readNumber : (.code yX3_readNumber cX3_readNumber 3 (some .int) : Cond) ∈ TBLG := List.mem_filter.mpr ⟨List.mem_of_getElem? (i := 361) (by decide +kernel), by decide +kernel⟩
theorem wiX3_readOperation : (.instanceMethod yX3_readOperation : Cond) ∈ TBLG := List.mem_filter.mpr ⟨List.mem_of_getElem? (i := 364) (by decide +kernel), by decide +kernel⟩
theorem wvX3_readOperation : (.selects RX3 yX3_readOperation yX3_readOperation : Cond) ∈ TBLG := List.mem_filter.mpr ⟨List.mem_of_getElem? (i := 12) (by decide +kernel), by decide +kernel⟩
theorem wcX3_readOperation : (.code yX3_readOperation cX3_readOperation 5 (some .boolean) : Cond) ∈ TBLG := List.mem_filter.mpr ⟨List.mem_of_getElem? (i := 365) (by decide +kernel), by decide +kernel⟩
theorem wiX3_readProduct : (.instanceMethod yX3_readProduct : Cond) ∈ TBLG := List.mem_filter.mpr ⟨List.mem_of_getElem? (i := 332) (by decide +kernel), by decide +kernel⟩
theorem wvX3_readProduct : (.selects RX3 yX3_readProduct yX3_readProduct : Cond) ∈ TBLG := List.mem_filter.mpr ⟨List.mem_of_getElem? (i := 5) (by decide +kernel), by decide +kernel⟩
theorem wcX3_readProduct : (.code yX3_readProduct cX3_readProduct 7 (some .boolean) : Cond) ∈ TBLG := List.mem_filter.mpr ⟨List.mem_of_getElem? (i := 333) (by decide +kernel), by decide +kernel⟩
theorem wiX3_readSheet : (.instanceMethod yX3_readSheet : Cond) ∈ TBLG := List.mem_filter.mpr ⟨List.mem_of_getElem? (i := 316) (by decide +kernel), by decide +kernel⟩
theorem wvX3_readSheet : (.selects RX3 yX3_readSheet yX3_readSheet : Cond) ∈ TBLG := List.mem_filter.mpr ⟨List.mem_of_getElem? (i := 1) (by decide +kernel), by decide +kernel⟩
theorem wcX3_readSheet : (.code yX3_readSheet cX3_readSheet 2 (some .boolean) : Cond) ∈ TBLG := List.mem_filter.mpr ⟨List.mem_of_getElem? (i := 317) (by decide +kernel), by decide +kernel⟩
theorem wiX3_readSum : (.instanceMethod yX3_readSum : Cond) ∈ TBLG := List.mem_filter.mpr ⟨List.mem_of_getElem? (i := 328) (by decide +kernel), by decide +kernel⟩
theorem wvX3_readSum : (.selects RX3 yX3_readSum yX3_readSum : Cond) ∈ TBLG := List.mem_filter.mpr ⟨List.mem_of_getElem? (i := 4) (by decide +kernel), by decide +kernel⟩
theorem wcX3_readSum : (.code yX3_readSum cX3_readSum 8 (some .boolean) : Cond) ∈ TBLG := List.mem_filter.mpr ⟨List.mem_of_getElem? (i := 329) (by decide +kernel), by decide +kernel⟩
theorem wiX3_sign : (.instanceMethod yX3_sign : Cond) ∈ TBLG := List.mem_filter.mpr ⟨List.mem_of_getElem? (i := 324) (by decide +kernel), by decide +kernel⟩
theorem wvX3_sign : (.selects RX3 yX3_sign yX3_sign : Cond) ∈ TBLG := List.mem_filter.mpr ⟨List.mem_of_getElem? (i := 3) (by decide +kernel), by decide +kernel⟩
theorem wcX3_sign : (.code yX3_sign cX3_sign 1 (some .int) : Cond) ∈ TBLG := List.mem_filter.mpr ⟨List.mem_of_getElem? (i := 325) (by decide +kernel), by decide +kernel⟩
theorem wiX3_take : (.instanceMethod yX3_take : Cond) ∈ TBLG := List.mem_filter.mpr ⟨List.mem_of_getElem? (i := 303) (by decide +kernel), by decide +kernel⟩
theorem wvX3_take : (.selects RX3 yX3_take yX3_take : Cond) ∈ TBLG := List.mem_filter.mpr ⟨List.mem_of_getElem? (i := 0) (by decide +kernel), by decide +kernel⟩
theorem wcX3_take : (.code yX3_take cX3_take 2 (some .boolean) : Cond) ∈ TBLG := List.mem_filter.mpr ⟨List.mem_of_getElem? (i := 304) (by decide +kernel), by decide +kernel⟩
theorem wiX4_copyFormulas : (.instanceMethod yX4_copyFormulas : Cond) ∈ TBLG := List.mem_filter.mpr ⟨List.mem_of_getElem? (i := 387) (by decide +kernel), by decide +kernel⟩
theorem wvX4_copyFormulas : (.selects RX4 yX4_copyFormulas yX4_copyFormulas : Cond) ∈ TBLG := List.mem_filter.mpr ⟨List.mem_of_getElem? (i := 17) (by decide +kernel), by decide +kernel⟩
theorem wcX4_copyFormulas : (.code yX4_copyFormulas cX4_copyFormulas 3 none : Cond) ∈ TBLG := List.mem_filter.mpr ⟨List.mem_of_getElem? (i := 388) (by decide +kernel), by decide +kernel⟩
theorem wiX4_copyState : (.instanceMethod yX4_copyState : Cond) ∈ TBLG := List.mem_filter.mpr ⟨List.mem_of_getElem? (i := 383) (by decide +kernel), by decide +kernel⟩
theorem wvX4_copyState : (.selects RX4 yX4_copyState yX4_copyState : Cond) ∈ TBLG := List.mem_filter.mpr ⟨List.mem_of_getElem? (i := 16) (by decide +kernel), by decide +kernel⟩
theorem wcX4_copyState : (.code yX4_copyState cX4_copyState 2 none : Cond) ∈ TBLG := List.mem_filter.mpr ⟨List.mem_of_getElem? (i := 384) (by decide +kernel), by decide +kernel⟩
theorem wiX5_tryOrders : (.instanceMethod yX5_tryOrders : Cond) ∈ TBLG := List.mem_filter.mpr ⟨List.mem_of_getElem? (i := 621) (by decide +kernel), by decide +kernel⟩
theorem wvX5_tryOrders : (.selects RX5 yX5_tryOrders yX5_tryOrders : Cond) ∈ TBLG := List.mem_filter.mpr ⟨List.mem_of_getElem? (i := 49) (by decide +kernel), by decide +kernel⟩
theorem wcX5_tryOrders : (.code yX5_tryOrders cX5_tryOrders 3 none : Cond) ∈ TBLG := List.mem_filter.mpr ⟨List.mem_of_getElem? (i := 622) (by decide +kernel), by decide +kernel⟩
theorem wiX5_waysFor : (.instanceMethod yX5_waysFor : Cond) ∈ TBLG := List.mem_filter.mpr ⟨List.mem_of_getElem? (i := 627) (by decide +kernel), by decide +kernel⟩
theorem wvX5_waysFor : (.selects RX5 yX5_waysFor yX5_waysFor : Cond) ∈ TBLG := List.mem_filter.mpr ⟨List.mem_of_getElem? (i := 50) (by decide +kernel), by decide +kernel⟩
theorem wcX5_waysFor : (.code yX5_waysFor cX5_waysFor 8 (some .int) : Cond) ∈ TBLG := List.mem_filter.mpr ⟨List.mem_of_getElem? (i := 628) (by decide +kernel), by decide +kernel⟩
theorem wiX7_init : (.instanceMethod yX7_init : Cond) ∈ TBLG := List.mem_filter.mpr ⟨List.mem_of_getElem? (i := 640) (by decide +kernel), by decide +kernel⟩
theorem wcX7_init : (.code yX7_init cX7_init 1 none : Cond) ∈ TBLG := List.mem_filter.mpr ⟨List.mem_of_getElem? (i := 641) (by decide +kernel), by decide +kernel⟩
theorem wiX7_acts : (.instanceMethod yX7_acts : Cond) ∈ TBLG := List.mem_filter.mpr ⟨List.mem_of_getElem? (i := 825) (by decide +kernel), by decide +kernel⟩
theorem wvX7_acts : (.selects RX7 yX7_acts yX7_acts : Cond) ∈ TBLG := List.mem_filter.mpr ⟨List.mem_of_getElem? (i := 61) (by decide +kernel), by decide +kernel⟩
theorem wcX7_acts : (.code yX7_acts cX7_acts 2 none : Cond) ∈ TBLG := List.mem_filter.mpr ⟨List.mem_of_getElem? (i := 826) (by decide +kernel), by decide +kernel⟩
theorem wiX7_append : (.instanceMethod yX7_append : Cond) ∈ TBLG := List.mem_filter.mpr ⟨List.mem_of_getElem? (i := 763) (by decide +kernel), by decide +kernel⟩
theorem wvX7_append : (.selects RX7 yX7_append yX7_append : Cond) ∈ TBLG := List.mem_filter.mpr ⟨List.mem_of_getElem? (i := 764) (by decide +kernel), by decide +kernel⟩
theorem wcX7_append : (.code yX7_append cX7_append 2 (some .int) : Cond) ∈ TBLG := List.mem_filter.mpr ⟨List.mem_of_getElem? (i := 765) (by decide +kernel), by decide +kernel⟩
theorem wiX7_cell : (.instanceMethod yX7_cell : Cond) ∈ TBLG := List.mem_filter.mpr ⟨List.mem_of_getElem? (i := 909) (by decide +kernel), by decide +kernel⟩
theorem wvX7_cell : (.selects RX7 yX7_cell yX7_cell : Cond) ∈ TBLG := List.mem_filter.mpr ⟨List.mem_of_getElem? (i := 910) (by decide +kernel), by decide +kernel⟩
theorem wcX7_cell : (.code yX7_cell cX7_cell 2 (some .int) : Cond) ∈ TBLG := List.mem_filter.mpr ⟨List.mem_of_getElem? (i := 911) (by decide +kernel), by decide +kernel⟩
theorem wiX7_cheapOnes : (.instanceMethod yX7_cheapOnes : Cond) ∈ TBLG := List.mem_filter.mpr ⟨List.mem_of_getElem? (i := 890) (by decide +kernel), by decide +kernel⟩
theorem wvX7_cheapOnes : (.selects RX7 yX7_cheapOnes yX7_cheapOnes : Cond) ∈ TBLG := List.mem_filter.mpr ⟨List.mem_of_getElem? (i := 70) (by decide +kernel), by decide +kernel⟩
theorem wcX7_cheapOnes : (.code yX7_cheapOnes cX7_cheapOnes 3 (some .int) : Cond) ∈ TBLG := List.mem_filter.mpr ⟨List.mem_of_getElem? (i := 891) (by decide +kernel), by decide +kernel⟩
theorem wiX7_clearText : (.instanceMethod yX7_clearText : Cond) ∈ TBLG := List.mem_filter.mpr ⟨List.mem_of_getElem? (i := 772) (by decide +kernel), by decide +kernel⟩
theorem wvX7_clearText : (.selects RX7 yX7_clearText yX7_clearText : Cond) ∈ TBLG := List.mem_filter.mpr ⟨List.mem_of_getElem? (i := 773) (by decide +kernel), by decide +kernel⟩
theorem wcX7_clearText : (.code yX7_clearText cX7_clearText 2 (some .int) : Cond) ∈ TBLG := List.mem_filter.mpr ⟨List.mem_of_getElem? (i := 774) (by decide +kernel), by decide +kernel⟩
theorem wiX7_copies : (.instanceMethod yX7_copies : Cond) ∈ TBLG := List.mem_filter.mpr ⟨List.mem_of_getElem? (i := 854) (by decide +kernel), by decide +kernel⟩
theorem wvX7_copies : (.selects RX7 yX7_copies yX7_copies : Cond) ∈ TBLG := List.mem_filter.mpr ⟨List.mem_of_getElem? (i := 67) (by decide +kernel), by decide +kernel⟩
theorem wcX7_copies : (.code yX7_copies cX7_copies 4 none : Cond) ∈ TBLG := List.mem_filter.mpr ⟨List.mem_of_getElem? (i := 855) (by decide +kernel), by decide +kernel⟩
theorem wiX7_costWith : (.instanceMethod yX7_costWith : Cond) ∈ TBLG := List.mem_filter.mpr ⟨List.mem_of_getElem? (i := 937) (by decide +kernel), by decide +kernel⟩
theorem wvX7_costWith : (.selects RX7 yX7_costWith yX7_costWith : Cond) ∈ TBLG := List.mem_filter.mpr ⟨List.mem_of_getElem? (i := 938) (by decide +kernel), by decide +kernel⟩
theorem wcX7_costWith : (.code yX7_costWith cX7_costWith 2 (some .int) : Cond) ∈ TBLG := List.mem_filter.mpr ⟨List.mem_of_getElem? (i := 939) (by decide +kernel), by decide +kernel⟩
theorem wiX7_count : (.instanceMethod yX7_count : Cond) ∈ TBLG := List.mem_filter.mpr ⟨List.mem_of_getElem? (i := 885) (by decide +kernel), by decide +kernel⟩
theorem wvX7_count : (.selects RX7 yX7_count yX7_count : Cond) ∈ TBLG := List.mem_filter.mpr ⟨List.mem_of_getElem? (i := 886) (by decide +kernel), by decide +kernel⟩
theorem wcX7_count : (.code yX7_count cX7_count 4 (some .int) : Cond) ∈ TBLG := List.mem_filter.mpr ⟨List.mem_of_getElem? (i := 887) (by decide +kernel), by decide +kernel⟩
theorem wsX7_cut : (.static yX7_cut : Cond) ∈ TBLG := List.mem_filter.mpr ⟨List.mem_of_getElem? (i := 865) (by decide +kernel), by decide +kernel⟩
theorem wcX7_cut : (.code yX7_cut cX7_cut 2 (some .int) : Cond) ∈ TBLG := List.mem_filter.mpr ⟨List.mem_of_getElem? (i := 866) (by decide +kernel), by decide +kernel⟩
theorem wiX7_does : (.instanceMethod yX7_does : Cond) ∈ TBLG := List.mem_filter.mpr ⟨List.mem_of_getElem? (i := 930) (by decide +kernel), by decide +kernel⟩
theorem wvX7_does : (.selects RX7 yX7_does yX7_does : Cond) ∈ TBLG := List.mem_filter.mpr ⟨List.mem_of_getElem? (i := 76) (by decide +kernel), by decide +kernel⟩
theorem wcX7_does : (.code yX7_does cX7_does 5 none : Cond) ∈ TBLG := List.mem_filter.mpr ⟨List.mem_of_getElem? (i := 931) (by decide +kernel), by decide +kernel⟩
theorem wiX7_enough : (.instanceMethod yX7_enough : Cond) ∈ TBLG := List.mem_filter.mpr ⟨List.mem_of_getElem? (i := 941) (by decide +kernel), by decide +kernel⟩
theorem wvX7_enough : (.selects RX7 yX7_enough yX7_enough : Cond) ∈ TBLG := List.mem_filter.mpr ⟨List.mem_of_getElem? (i := 942) (by decide +kernel), by decide +kernel⟩
theorem wcX7_enough : (.code yX7_enough cX7_enough 2 (some .int) : Cond) ∈ TBLG := List.mem_filter.mpr ⟨List.mem_of_getElem? (i := 943) (by decide +kernel), by decide +kernel⟩
theorem wiX7_expands : (.instanceMethod yX7_expands : Cond) ∈ TBLG := List.mem_filter.mpr ⟨List.mem_of_getElem? (i := 850) (by decide +kernel), by decide +kernel⟩
theorem wvX7_expands : (.selects RX7 yX7_expands yX7_expands : Cond) ∈ TBLG := List.mem_filter.mpr ⟨List.mem_of_getElem? (i := 66) (by decide +kernel), by decide +kernel⟩
theorem wcX7_expands : (.code yX7_expands cX7_expands 5 none : Cond) ∈ TBLG := List.mem_filter.mpr ⟨List.mem_of_getElem? (i := 851) (by decide +kernel), by decide +kernel⟩
theorem wiX7_factor : (.instanceMethod yX7_factor : Cond) ∈ TBLG := List.mem_filter.mpr ⟨List.mem_of_getElem? (i := 794) (by decide +kernel), by decide +kernel⟩
theorem wvX7_factor : (.selects RX7 yX7_factor yX7_factor : Cond) ∈ TBLG := List.mem_filter.mpr ⟨List.mem_of_getElem? (i := 54) (by decide +kernel), by decide +kernel⟩
theorem wcX7_factor : (.code yX7_factor cX7_factor 4 (some .boolean) : Cond) ∈ TBLG := List.mem_filter.mpr ⟨List.mem_of_getElem? (i := 795) (by decide +kernel), by decide +kernel⟩
theorem wiX7_fewest : (.instanceMethod yX7_fewest : Cond) ∈ TBLG := List.mem_filter.mpr ⟨List.mem_of_getElem? (i := 954) (by decide +kernel), by decide +kernel⟩
theorem wvX7_fewest : (.selects RX7 yX7_fewest yX7_fewest : Cond) ∈ TBLG := List.mem_filter.mpr ⟨List.mem_of_getElem? (i := 78) (by decide +kernel), by decide +kernel⟩
theorem wcX7_fewest : (.code yX7_fewest cX7_fewest 2 (some .int) : Cond) ∈ TBLG := List.mem_filter.mpr ⟨List.mem_of_getElem? (i := 955) (by decide +kernel), by decide +kernel⟩
theorem wiX7_formula : (.instanceMethod yX7_formula : Cond) ∈ TBLG := List.mem_filter.mpr ⟨List.mem_of_getElem? (i := 897) (by decide +kernel), by decide +kernel⟩
theorem wvX7_formula : (.selects RX7 yX7_formula yX7_formula : Cond) ∈ TBLG := List.mem_filter.mpr ⟨List.mem_of_getElem? (i := 898) (by decide +kernel), by decide +kernel⟩
theorem wcX7_formula : (.code yX7_formula cX7_formula 3 (some .int) : Cond) ∈ TBLG := List.mem_filter.mpr ⟨List.mem_of_getElem? (i := 899) (by decide +kernel), by decide +kernel⟩
theorem wiX7_formulaRead : (.instanceMethod yX7_formulaRead : Cond) ∈ TBLG := List.mem_filter.mpr ⟨List.mem_of_getElem? (i := 790) (by decide +kernel), by decide +kernel⟩
theorem wvX7_formulaRead : (.selects RX7 yX7_formulaRead yX7_formulaRead : Cond) ∈ TBLG := List.mem_filter.mpr ⟨List.mem_of_getElem? (i := 53) (by decide +kernel), by decide +kernel⟩
theorem wcX7_formulaRead : (.code yX7_formulaRead cX7_formulaRead 4 (some .boolean) : Cond) ∈ TBLG := List.mem_filter.mpr ⟨List.mem_of_getElem? (i := 791) (by decide +kernel), by decide +kernel⟩
theorem wiX7_goesOn : (.instanceMethod yX7_goesOn : Cond) ∈ TBLG := List.mem_filter.mpr ⟨List.mem_of_getElem? (i := 926) (by decide +kernel), by decide +kernel⟩
theorem wvX7_goesOn : (.selects RX7 yX7_goesOn yX7_goesOn : Cond) ∈ TBLG := List.mem_filter.mpr ⟨List.mem_of_getElem? (i := 75) (by decide +kernel), by decide +kernel⟩
theorem wcX7_goesOn : (.code yX7_goesOn cX7_goesOn 12 none : Cond) ∈ TBLG := List.mem_filter.mpr ⟨List.mem_of_getElem? (i := 927) (by decide +kernel), by decide +kernel⟩
theorem wiX7_greatestNeed : (.instanceMethod yX7_greatestNeed : Cond) ∈ TBLG := List.mem_filter.mpr ⟨List.mem_of_getElem? (i := 894) (by decide +kernel), by decide +kernel⟩
theorem wvX7_greatestNeed : (.selects RX7 yX7_greatestNeed yX7_greatestNeed : Cond) ∈ TBLG := List.mem_filter.mpr ⟨List.mem_of_getElem? (i := 71) (by decide +kernel), by decide +kernel⟩
theorem wcX7_greatestNeed : (.code yX7_greatestNeed cX7_greatestNeed 3 (some .int) : Cond) ∈ TBLG := List.mem_filter.mpr ⟨List.mem_of_getElem? (i := 895) (by decide +kernel), by decide +kernel⟩
theorem wiX7_here : (.instanceMethod yX7_here : Cond) ∈ TBLG := List.mem_filter.mpr ⟨List.mem_of_getElem? (i := 785) (by decide +kernel), by decide +kernel⟩
theorem wvX7_here : (.selects RX7 yX7_here yX7_here : Cond) ∈ TBLG := List.mem_filter.mpr ⟨List.mem_of_getElem? (i := 52) (by decide +kernel), by decide +kernel⟩
theorem wcX7_here : (.code yX7_here cX7_here 1 (some .int) : Cond) ∈ TBLG := List.mem_filter.mpr ⟨List.mem_of_getElem? (i := 786) (by decide +kernel), by decide +kernel⟩
theorem wsX7_in : (.static yX7_in : Cond) ∈ TBLG := List.mem_filter.mpr ⟨List.mem_of_getElem? (i := 767) (by decide +kernel), by decide +kernel⟩
theorem wcX7_in : (.code yX7_in cX7_in 3 (some .boolean) : Cond) ∈ TBLG := List.mem_filter.mpr ⟨List.mem_of_getElem? (i := 768) (by decide +kernel), by decide +kernel⟩
theorem wsX7_isCell : (.static yX7_isCell : Cond) ∈ TBLG := List.mem_filter.mpr ⟨List.mem_of_getElem? (i := 874) (by decide +kernel), by decide +kernel⟩
theorem wcX7_isCell : (.code yX7_isCell cX7_isCell 1 (some .boolean) : Cond) ∈ TBLG := List.mem_filter.mpr ⟨List.mem_of_getElem? (i := 875) (by decide +kernel), by decide +kernel⟩
theorem wiX7_isFormula : (.instanceMethod yX7_isFormula : Cond) ∈ TBLG := List.mem_filter.mpr ⟨List.mem_of_getElem? (i := 833) (by decide +kernel), by decide +kernel⟩
theorem wvX7_isFormula : (.selects RX7 yX7_isFormula yX7_isFormula : Cond) ∈ TBLG := List.mem_filter.mpr ⟨List.mem_of_getElem? (i := 62) (by decide +kernel), by decide +kernel⟩
theorem wcX7_isFormula : (.code yX7_isFormula cX7_isFormula 2 (some .boolean) : Cond) ∈ TBLG := List.mem_filter.mpr ⟨List.mem_of_getElem? (i := 834) (by decide +kernel), by decide +kernel⟩
theorem wiX7_isOpen : (.instanceMethod yX7_isOpen : Cond) ∈ TBLG := List.mem_filter.mpr ⟨List.mem_of_getElem? (i := 821) (by decide +kernel), by decide +kernel⟩
theorem wvX7_isOpen : (.selects RX7 yX7_isOpen yX7_isOpen : Cond) ∈ TBLG := List.mem_filter.mpr ⟨List.mem_of_getElem? (i := 60) (by decide +kernel), by decide +kernel⟩
theorem wcX7_isOpen : (.code yX7_isOpen cX7_isOpen 3 (some .boolean) : Cond) ∈ TBLG := List.mem_filter.mpr ⟨List.mem_of_getElem? (i := 822) (by decide +kernel), by decide +kernel⟩
theorem wiX7_joins : (.instanceMethod yX7_joins : Cond) ∈ TBLG := List.mem_filter.mpr ⟨List.mem_of_getElem? (i := 862) (by decide +kernel), by decide +kernel⟩
theorem wvX7_joins : (.selects RX7 yX7_joins yX7_joins : Cond) ∈ TBLG := List.mem_filter.mpr ⟨List.mem_of_getElem? (i := 69) (by decide +kernel), by decide +kernel⟩
theorem wcX7_joins : (.code yX7_joins cX7_joins 8 none : Cond) ∈ TBLG := List.mem_filter.mpr ⟨List.mem_of_getElem? (i := 863) (by decide +kernel), by decide +kernel⟩
theorem wiX7_kindAt : (.instanceMethod yX7_kindAt : Cond) ∈ TBLG := List.mem_filter.mpr ⟨List.mem_of_getElem? (i := 837) (by decide +kernel), by decide +kernel⟩
theorem wvX7_kindAt : (.selects RX7 yX7_kindAt yX7_kindAt : Cond) ∈ TBLG := List.mem_filter.mpr ⟨List.mem_of_getElem? (i := 63) (by decide +kernel), by decide +kernel⟩
theorem wcX7_kindAt : (.code yX7_kindAt cX7_kindAt 3 (some .int) : Cond) ∈ TBLG := List.mem_filter.mpr ⟨List.mem_of_getElem? (i := 838) (by decide +kernel), by decide +kernel⟩
theorem wsX7_kindOf : (.static yX7_kindOf : Cond) ∈ TBLG := List.mem_filter.mpr ⟨List.mem_of_getElem? (i := 817) (by decide +kernel), by decide +kernel⟩
theorem wcX7_kindOf : (.code yX7_kindOf cX7_kindOf 1 (some .int) : Cond) ∈ TBLG := List.mem_filter.mpr ⟨List.mem_of_getElem? (i := 818) (by decide +kernel), by decide +kernel⟩
theorem wiX7_lays : (.instanceMethod yX7_lays : Cond) ∈ TBLG := List.mem_filter.mpr ⟨List.mem_of_getElem? (i := 846) (by decide +kernel), by decide +kernel⟩
theorem wvX7_lays : (.selects RX7 yX7_lays yX7_lays : Cond) ∈ TBLG := List.mem_filter.mpr ⟨List.mem_of_getElem? (i := 65) (by decide +kernel), by decide +kernel⟩
theorem wcX7_lays : (.code yX7_lays cX7_lays 3 none : Cond) ∈ TBLG := List.mem_filter.mpr ⟨List.mem_of_getElem? (i := 847) (by decide +kernel), by decide +kernel⟩
theorem wiX7_leaf : (.instanceMethod yX7_leaf : Cond) ∈ TBLG := List.mem_filter.mpr ⟨List.mem_of_getElem? (i := 802) (by decide +kernel), by decide +kernel⟩
theorem wvX7_leaf : (.selects RX7 yX7_leaf yX7_leaf : Cond) ∈ TBLG := List.mem_filter.mpr ⟨List.mem_of_getElem? (i := 56) (by decide +kernel), by decide +kernel⟩
theorem wcX7_leaf : (.code yX7_leaf cX7_leaf 3 (some .boolean) : Cond) ∈ TBLG := List.mem_filter.mpr ⟨List.mem_of_getElem? (i := 803) (by decide +kernel), by decide +kernel⟩
theorem wiX7_makes : (.instanceMethod yX7_makes : Cond) ∈ TBLG := List.mem_filter.mpr ⟨List.mem_of_getElem? (i := 814) (by decide +kernel), by decide +kernel⟩
theorem wvX7_makes : (.selects RX7 yX7_makes yX7_makes : Cond) ∈ TBLG := List.mem_filter.mpr ⟨List.mem_of_getElem? (i := 59) (by decide +kernel), by decide +kernel⟩
theorem wcX7_makes : (.code yX7_makes cX7_makes 2 none : Cond) ∈ TBLG := List.mem_filter.mpr ⟨List.mem_of_getElem? (i := 815) (by decide +kernel), by decide +kernel⟩
theorem wiX7_node : (.instanceMethod yX7_node : Cond) ∈ TBLG := List.mem_filter.mpr ⟨List.mem_of_getElem? (i := 905) (by decide +kernel), by decide +kernel⟩
theorem wvX7_node : (.selects RX7 yX7_node yX7_node : Cond) ∈ TBLG := List.mem_filter.mpr ⟨List.mem_of_getElem? (i := 906) (by decide +kernel), by decide +kernel⟩
theorem wcX7_node : (.code yX7_node cX7_node 5 (some .int) : Cond) ∈ TBLG := List.mem_filter.mpr ⟨List.mem_of_getElem? (i := 907) (by decide +kernel), by decide +kernel⟩
theorem wiX7_number : (.instanceMethod yX7_number : Cond) ∈ TBLG := List.mem_filter.mpr ⟨List.mem_of_getElem? (i := 798) (by decide +kernel), by decide +kernel⟩
theorem wvX7_number : (.selects RX7 yX7_number yX7_number : Cond) ∈ TBLG := List.mem_filter.mpr ⟨List.mem_of_getElem? (i := 55) (by decide +kernel), by decide +kernel⟩
theorem wcX7_number : (.code yX7_number cX7_number 3 (some .boolean) : Cond) ∈ TBLG := List.mem_filter.mpr ⟨List.mem_of_getElem? (i := 799) (by decide +kernel), by decide +kernel⟩
theorem wiX7_plan : (.instanceMethod yX7_plan : Cond) ∈ TBLG := List.mem_filter.mpr ⟨List.mem_of_getElem? (i := 913) (by decide +kernel), by decide +kernel⟩
theorem wvX7_plan : (.selects RX7 yX7_plan yX7_plan : Cond) ∈ TBLG := List.mem_filter.mpr ⟨List.mem_of_getElem? (i := 914) (by decide +kernel), by decide +kernel⟩
theorem wcX7_plan : (.code yX7_plan cX7_plan 2 (some .int) : Cond) ∈ TBLG := List.mem_filter.mpr ⟨List.mem_of_getElem? (i := 915) (by decide +kernel), by decide +kernel⟩
theorem wiX7_plans : (.instanceMethod yX7_plans : Cond) ∈ TBLG := List.mem_filter.mpr ⟨List.mem_of_getElem? (i := 918) (by decide +kernel), by decide +kernel⟩
theorem wvX7_plans : (.selects RX7 yX7_plans yX7_plans : Cond) ∈ TBLG := List.mem_filter.mpr ⟨List.mem_of_getElem? (i := 73) (by decide +kernel), by decide +kernel⟩
theorem wcX7_plans : (.code yX7_plans cX7_plans 4 none : Cond) ∈ TBLG := List.mem_filter.mpr ⟨List.mem_of_getElem? (i := 919) (by decide +kernel), by decide +kernel⟩
theorem wiX7_proved : (.instanceMethod yX7_proved : Cond) ∈ TBLG := List.mem_filter.mpr ⟨List.mem_of_getElem? (i := 945) (by decide +kernel), by decide +kernel⟩
theorem wvX7_proved : (.selects RX7 yX7_proved yX7_proved : Cond) ∈ TBLG := List.mem_filter.mpr ⟨List.mem_of_getElem? (i := 946) (by decide +kernel), by decide +kernel⟩
theorem wcX7_proved : (.code yX7_proved cX7_proved 2 (some .int) : Cond) ∈ TBLG := List.mem_filter.mpr ⟨List.mem_of_getElem? (i := 947) (by decide +kernel), by decide +kernel⟩
theorem wiX7_pushes : (.instanceMethod yX7_pushes : Cond) ∈ TBLG := List.mem_filter.mpr ⟨List.mem_of_getElem? (i := 922) (by decide +kernel), by decide +kernel⟩
theorem wvX7_pushes : (.selects RX7 yX7_pushes yX7_pushes : Cond) ∈ TBLG := List.mem_filter.mpr ⟨List.mem_of_getElem? (i := 74) (by decide +kernel), by decide +kernel⟩
theorem wcX7_pushes : (.code yX7_pushes cX7_pushes 3 none : Cond) ∈ TBLG := List.mem_filter.mpr ⟨List.mem_of_getElem? (i := 923) (by decide +kernel), by decide +kernel⟩
theorem wiX7_puts : (.instanceMethod yX7_puts : Cond) ∈ TBLG := List.mem_filter.mpr ⟨List.mem_of_getElem? (i := 806) (by decide +kernel), by decide +kernel⟩
theorem wvX7_puts : (.selects RX7 yX7_puts yX7_puts : Cond) ∈ TBLG := List.mem_filter.mpr ⟨List.mem_of_getElem? (i := 57) (by decide +kernel), by decide +kernel⟩
theorem wcX7_puts : (.code yX7_puts cX7_puts 6 none : Cond) ∈ TBLG := List.mem_filter.mpr ⟨List.mem_of_getElem? (i := 807) (by decide +kernel), by decide +kernel⟩
theorem wiX7_read : (.instanceMethod yX7_read : Cond) ∈ TBLG := List.mem_filter.mpr ⟨List.mem_of_getElem? (i := 776) (by decide +kernel), by decide +kernel⟩
theorem wvX7_read : (.selects RX7 yX7_read yX7_read : Cond) ∈ TBLG := List.mem_filter.mpr ⟨List.mem_of_getElem? (i := 777) (by decide +kernel), by decide +kernel⟩
theorem wcX7_read : (.code yX7_read cX7_read 2 (some .int) : Cond) ∈ TBLG := List.mem_filter.mpr ⟨List.mem_of_getElem? (i := 778) (by decide +kernel), by decide +kernel⟩
theorem wiX7_reads : (.instanceMethod yX7_reads : Cond) ∈ TBLG := List.mem_filter.mpr ⟨List.mem_of_getElem? (i := 781) (by decide +kernel), by decide +kernel⟩
theorem wvX7_reads : (.selects RX7 yX7_reads yX7_reads : Cond) ∈ TBLG := List.mem_filter.mpr ⟨List.mem_of_getElem? (i := 51) (by decide +kernel), by decide +kernel⟩
theorem wcX7_reads : (.code yX7_reads cX7_reads 2 (some .boolean) : Cond) ∈ TBLG := List.mem_filter.mpr ⟨List.mem_of_getElem? (i := 782) (by decide +kernel), by decide +kernel⟩
theorem wiX7_setCell : (.instanceMethod yX7_setCell : Cond) ∈ TBLG := List.mem_filter.mpr ⟨List.mem_of_getElem? (i := 870) (by decide +kernel), by decide +kernel⟩
theorem wvX7_setCell : (.selects RX7 yX7_setCell yX7_setCell : Cond) ∈ TBLG := List.mem_filter.mpr ⟨List.mem_of_getElem? (i := 871) (by decide +kernel), by decide +kernel⟩
theorem wcX7_setCell : (.code yX7_setCell cX7_setCell 4 (some .int) : Cond) ∈ TBLG := List.mem_filter.mpr ⟨List.mem_of_getElem? (i := 872) (by decide +kernel), by decide +kernel⟩
theorem wiX7_setPlaces : (.instanceMethod yX7_setPlaces : Cond) ∈ TBLG := List.mem_filter.mpr ⟨List.mem_of_getElem? (i := 877) (by decide +kernel), by decide +kernel⟩
theorem wvX7_setPlaces : (.selects RX7 yX7_setPlaces yX7_setPlaces : Cond) ∈ TBLG := List.mem_filter.mpr ⟨List.mem_of_getElem? (i := 878) (by decide +kernel), by decide +kernel⟩
theorem wcX7_setPlaces : (.code yX7_setPlaces cX7_setPlaces 3 (some .int) : Cond) ∈ TBLG := List.mem_filter.mpr ⟨List.mem_of_getElem? (i := 879) (by decide +kernel), by decide +kernel⟩
theorem wiX7_settles : (.instanceMethod yX7_settles : Cond) ∈ TBLG := List.mem_filter.mpr ⟨List.mem_of_getElem? (i := 810) (by decide +kernel), by decide +kernel⟩
theorem wvX7_settles : (.selects RX7 yX7_settles yX7_settles : Cond) ∈ TBLG := List.mem_filter.mpr ⟨List.mem_of_getElem? (i := 58) (by decide +kernel), by decide +kernel⟩
theorem wcX7_settles : (.code yX7_settles cX7_settles 5 none : Cond) ∈ TBLG := List.mem_filter.mpr ⟨List.mem_of_getElem? (i := 811) (by decide +kernel), by decide +kernel⟩
theorem wiX7_sizeAt : (.instanceMethod yX7_sizeAt : Cond) ∈ TBLG := List.mem_filter.mpr ⟨List.mem_of_getElem? (i := 842) (by decide +kernel), by decide +kernel⟩
theorem wvX7_sizeAt : (.selects RX7 yX7_sizeAt yX7_sizeAt : Cond) ∈ TBLG := List.mem_filter.mpr ⟨List.mem_of_getElem? (i := 64) (by decide +kernel), by decide +kernel⟩
theorem wcX7_sizeAt : (.code yX7_sizeAt cX7_sizeAt 6 (some .int) : Cond) ∈ TBLG := List.mem_filter.mpr ⟨List.mem_of_getElem? (i := 843) (by decide +kernel), by decide +kernel⟩
theorem wiX7_step : (.instanceMethod yX7_step : Cond) ∈ TBLG := List.mem_filter.mpr ⟨List.mem_of_getElem? (i := 933) (by decide +kernel), by decide +kernel⟩
theorem wvX7_step : (.selects RX7 yX7_step yX7_step : Cond) ∈ TBLG := List.mem_filter.mpr ⟨List.mem_of_getElem? (i := 934) (by decide +kernel), by decide +kernel⟩
theorem wcX7_step : (.code yX7_step cX7_step 3 (some .int) : Cond) ∈ TBLG := List.mem_filter.mpr ⟨List.mem_of_getElem? (i := 935) (by decide +kernel), by decide +kernel⟩
theorem wiX7_tells : (.instanceMethod yX7_tells : Cond) ∈ TBLG := List.mem_filter.mpr ⟨List.mem_of_getElem? (i := 858) (by decide +kernel), by decide +kernel⟩
theorem wvX7_tells : (.selects RX7 yX7_tells yX7_tells : Cond) ∈ TBLG := List.mem_filter.mpr ⟨List.mem_of_getElem? (i := 68) (by decide +kernel), by decide +kernel⟩
theorem wcX7_tells : (.code yX7_tells cX7_tells 4 none : Cond) ∈ TBLG := List.mem_filter.mpr ⟨List.mem_of_getElem? (i := 859) (by decide +kernel), by decide +kernel⟩
theorem wiX7_tries : (.instanceMethod yX7_tries : Cond) ∈ TBLG := List.mem_filter.mpr ⟨List.mem_of_getElem? (i := 950) (by decide +kernel), by decide +kernel⟩
theorem wvX7_tries : (.selects RX7 yX7_tries yX7_tries : Cond) ∈ TBLG := List.mem_filter.mpr ⟨List.mem_of_getElem? (i := 77) (by decide +kernel), by decide +kernel⟩
theorem wcX7_tries : (.code yX7_tries cX7_tries 11 (some .int) : Cond) ∈ TBLG := List.mem_filter.mpr ⟨List.mem_of_getElem? (i := 951) (by decide +kernel), by decide +kernel⟩
theorem wiX7_turn : (.instanceMethod yX7_turn : Cond) ∈ TBLG := List.mem_filter.mpr ⟨List.mem_of_getElem? (i := 828) (by decide +kernel), by decide +kernel⟩
theorem wvX7_turn : (.selects RX7 yX7_turn yX7_turn : Cond) ∈ TBLG := List.mem_filter.mpr ⟨List.mem_of_getElem? (i := 829) (by decide +kernel), by decide +kernel⟩
theorem wcX7_turn : (.code yX7_turn cX7_turn 8 (some .int) : Cond) ∈ TBLG := List.mem_filter.mpr ⟨List.mem_of_getElem? (i := 830) (by decide +kernel), by decide +kernel⟩
theorem wiX7_undo : (.instanceMethod yX7_undo : Cond) ∈ TBLG := List.mem_filter.mpr ⟨List.mem_of_getElem? (i := 881) (by decide +kernel), by decide +kernel⟩
theorem wvX7_undo : (.selects RX7 yX7_undo yX7_undo : Cond) ∈ TBLG := List.mem_filter.mpr ⟨List.mem_of_getElem? (i := 882) (by decide +kernel), by decide +kernel⟩
theorem wcX7_undo : (.code yX7_undo cX7_undo 2 (some .int) : Cond) ∈ TBLG := List.mem_filter.mpr ⟨List.mem_of_getElem? (i := 883) (by decide +kernel), by decide +kernel⟩
theorem wiX7_uses : (.instanceMethod yX7_uses : Cond) ∈ TBLG := List.mem_filter.mpr ⟨List.mem_of_getElem? (i := 902) (by decide +kernel), by decide +kernel⟩
theorem wvX7_uses : (.selects RX7 yX7_uses yX7_uses : Cond) ∈ TBLG := List.mem_filter.mpr ⟨List.mem_of_getElem? (i := 72) (by decide +kernel), by decide +kernel⟩
theorem wcX7_uses : (.code yX7_uses cX7_uses 5 (some .int) : Cond) ∈ TBLG := List.mem_filter.mpr ⟨List.mem_of_getElem? (i := 903) (by decide +kernel), by decide +kernel⟩
theorem wiX7_ways : (.instanceMethod yX7_ways : Cond) ∈ TBLG := List.mem_filter.mpr ⟨List.mem_of_getElem? (i := 957) (by decide +kernel), by decide +kernel⟩
theorem wvX7_ways : (.selects RX7 yX7_ways yX7_ways : Cond) ∈ TBLG := List.mem_filter.mpr ⟨List.mem_of_getElem? (i := 958) (by decide +kernel), by decide +kernel⟩
theorem wcX7_ways : (.code yX7_ways cX7_ways 2 (some .int) : Cond) ∈ TBLG := List.mem_filter.mpr ⟨List.mem_of_getElem? (i := 959) (by decide +kernel), by decide +kernel⟩
theorem w0X0 : (.initialized RX0 : Cond) ∈ TBLG := List.mem_filter.mpr ⟨List.mem_of_getElem? (i := 87) (by decide +kernel), by decide +kernel⟩
theorem w0X1 : (.initialized RX1 : Cond) ∈ TBLG := List.mem_filter.mpr ⟨List.mem_of_getElem? (i := 83) (by decide +kernel), by decide +kernel⟩
theorem w0X2 : (.initialized RX2 : Cond) ∈ TBLG := List.mem_filter.mpr ⟨List.mem_of_getElem? (i := 85) (by decide +kernel), by decide +kernel⟩
theorem w0X3 : (.initialized RX3 : Cond) ∈ TBLG := List.mem_filter.mpr ⟨List.mem_of_getElem? (i := 81) (by decide +kernel), by decide +kernel⟩
theorem w0X4 : (.initialized RX4 : Cond) ∈ TBLG := List.mem_filter.mpr ⟨List.mem_of_getElem? (i := 82) (by decide +kernel), by decide +kernel⟩
theorem w0X5 : (.initialized RX5 : Cond) ∈ TBLG := List.mem_filter.mpr ⟨List.mem_of_getElem? (i := 86) (by decide +kernel), by decide +kernel⟩
theorem w0X6 : (.initialized RX6 : Cond) ∈ TBLG := List.mem_filter.mpr ⟨List.mem_of_getElem? (i := 80) (by decide +kernel), by decide +kernel⟩
theorem w0X7 : (.initialized RX7 : Cond) ∈ TBLG := List.mem_filter.mpr ⟨List.mem_of_getElem? (i := 88) (by decide +kernel), by decide +kernel⟩
theorem w0Math : (.initialized "java/lang/Math" : Cond) ∈ TBLG := List.mem_filter.mpr ⟨List.mem_of_getElem? (i := 84) (by decide +kernel), by decide +kernel⟩
theorem w0System : (.initialized "java/lang/System" : Cond) ∈ TBLG := List.mem_filter.mpr ⟨List.mem_of_getElem? (i := 89) (by decide +kernel), by decide +kernel⟩
theorem wsM_max : (.static Lib.Math.max.name : Cond) ∈ TBLG := List.mem_filter.mpr ⟨List.mem_of_getElem? (i := 118) (by decide +kernel), by decide +kernel⟩
theorem wcM_max : (.code Lib.Math.max.name Lib.Math.max.code 2 (some .int) : Cond) ∈ TBLG := List.mem_filter.mpr ⟨List.mem_of_getElem? (i := 119) (by decide +kernel), by decide +kernel⟩
theorem wsM_min : (.static Lib.Math.min.name : Cond) ∈ TBLG := List.mem_filter.mpr ⟨List.mem_of_getElem? (i := 433) (by decide +kernel), by decide +kernel⟩
theorem wcM_min : (.code Lib.Math.min.name Lib.Math.min.code 2 (some .int) : Cond) ∈ TBLG := List.mem_filter.mpr ⟨List.mem_of_getElem? (i := 434) (by decide +kernel), by decide +kernel⟩
theorem wsM_max_long : (.static Lib.MathLoose.max_long.x : Cond) ∈ TBLG := List.mem_filter.mpr ⟨List.mem_of_getElem? (i := 482) (by decide +kernel), by decide +kernel⟩
theorem wcM_max_long : (.code Lib.MathLoose.max_long.x Lib.MathLoose.max_long.code 4 (some .long) : Cond) ∈ TBLG := List.mem_filter.mpr ⟨List.mem_of_getElem? (i := 483) (by decide +kernel), by decide +kernel⟩
theorem wsM_min_long : (.static Lib.MathLoose.min_long.x : Cond) ∈ TBLG := List.mem_filter.mpr ⟨List.mem_of_getElem? (i := 479) (by decide +kernel), by decide +kernel⟩
theorem wcM_min_long : (.code Lib.MathLoose.min_long.x Lib.MathLoose.min_long.code 4 (some .long) : Cond) ∈ TBLG := List.mem_filter.mpr ⟨List.mem_of_getElem? (i := 480) (by decide +kernel), by decide +kernel⟩
theorem wsM_copy : (.static arraycopyName : Cond) ∈ TBLG := List.mem_filter.mpr ⟨List.mem_of_getElem? (i := 371) (by decide +kernel), by decide +kernel⟩
theorem wnM_copy : (.native arraycopyName : Cond) ∈ TBLG := List.mem_filter.mpr ⟨List.mem_of_getElem? (i := 372) (by decide +kernel), by decide +kernel⟩
theorem inG_X0 : ∀ w ∈ u_ws RX0 TX0 7, w ∈ TBLG := by
  have h : u_ws RX0 TX0 7 = ([259, 261, 263, 265, 267, 269, 271] : List Nat).filterMap (fun i => lw_tbl[i]?) := by decide +kernel
  have h2 : (u_ws RX0 TX0 7).all goodWord = true := by decide +kernel
  intro w hw
  refine List.mem_filter.mpr ⟨?_, List.all_eq_true.mp h2 w hw⟩
  rw [h] at hw
  obtain ⟨i, -, hi⟩ := List.mem_filterMap.mp hw
  exact List.mem_of_getElem? hi
theorem inG_X1 : ∀ w ∈ u_ws RX1 TX1 3, w ∈ TBLG := by
  have h : u_ws RX1 TX1 3 = ([127, 129, 131] : List Nat).filterMap (fun i => lw_tbl[i]?) := by decide +kernel
  have h2 : (u_ws RX1 TX1 3).all goodWord = true := by decide +kernel
  intro w hw
  refine List.mem_filter.mpr ⟨?_, List.all_eq_true.mp h2 w hw⟩
  rw [h] at hw
  obtain ⟨i, -, hi⟩ := List.mem_filterMap.mp hw
  exact List.mem_of_getElem? hi
theorem inG_X2 : ∀ w ∈ u_ws RX2 TX2 10, w ∈ TBLG := by
  have h : u_ws RX2 TX2 10 = ([200, 202, 204, 206, 208, 210, 212, 214, 216, 218] : List Nat).filterMap (fun i => lw_tbl[i]?) := by decide +kernel
  have h2 : (u_ws RX2 TX2 10).all goodWord = true := by decide +kernel
  intro w hw
  refine List.mem_filter.mpr ⟨?_, List.all_eq_true.mp h2 w hw⟩
  rw [h] at hw
  obtain ⟨i, -, hi⟩ := List.mem_filterMap.mp hw
  exact List.mem_of_getElem? hi
theorem inG_X3 : ∀ w ∈ u_ws RX3 TX3 4, w ∈ TBLG := by
  have h : u_ws RX3 TX3 4 = ([161, 163, 165, 167] : List Nat).filterMap (fun i => lw_tbl[i]?) := by decide +kernel
  have h2 : (u_ws RX3 TX3 4).all goodWord = true := by decide +kernel
  intro w hw
  refine List.mem_filter.mpr ⟨?_, List.all_eq_true.mp h2 w hw⟩
  rw [h] at hw
  obtain ⟨i, -, hi⟩ := List.mem_filterMap.mp hw
  exact List.mem_of_getElem? hi
theorem inG_X4 : ∀ w ∈ u_ws RX4 TX4 4, w ∈ TBLG := by
  have h : u_ws RX4 TX4 4 = ([145, 147, 149, 151] : List Nat).filterMap (fun i => lw_tbl[i]?) := by decide +kernel
  have h2 : (u_ws RX4 TX4 4).all goodWord = true := by decide +kernel
  intro w hw
  refine List.mem_filter.mpr ⟨?_, List.all_eq_true.mp h2 w hw⟩
  rw [h] at hw
  obtain ⟨i, -, hi⟩ := List.mem_filterMap.mp hw
  exact List.mem_of_getElem? hi
theorem inG_X5 : ∀ w ∈ u_ws RX5 TX5 3, w ∈ TBLG := by
  have h : u_ws RX5 TX5 3 = ([232, 234, 236] : List Nat).filterMap (fun i => lw_tbl[i]?) := by decide +kernel
  have h2 : (u_ws RX5 TX5 3).all goodWord = true := by decide +kernel
  intro w hw
  refine List.mem_filter.mpr ⟨?_, List.all_eq_true.mp h2 w hw⟩
  rw [h] at hw
  obtain ⟨i, -, hi⟩ := List.mem_filterMap.mp hw
  exact List.mem_of_getElem? hi
theorem inG_X6 : ∀ w ∈ u_ws RX6 TX6 7, w ∈ TBLG := by
  have h : u_ws RX6 TX6 7 = ([281, 283, 285, 287, 289, 291, 293] : List Nat).filterMap (fun i => lw_tbl[i]?) := by decide +kernel
  have h2 : (u_ws RX6 TX6 7).all goodWord = true := by decide +kernel
  intro w hw
  refine List.mem_filter.mpr ⟨?_, List.all_eq_true.mp h2 w hw⟩
  rw [h] at hw
  obtain ⟨i, -, hi⟩ := List.mem_filterMap.mp hw
  exact List.mem_of_getElem? hi
theorem inG_X7 : ∀ w ∈ u_ws RX7 TX7 39, w ∈ TBLG := by
  have h : u_ws RX7 TX7 39 = ([682, 684, 686, 688, 690, 692, 694, 696, 698, 700, 702, 704, 706, 708, 710, 712, 714, 716, 718, 720, 722, 724, 726, 728, 730, 732, 734, 736, 738, 740, 742, 744, 746, 748, 750, 752, 754, 756, 758] : List Nat).filterMap (fun i => lw_tbl[i]?) := by decide +kernel
  have h2 : (u_ws RX7 TX7 39).all goodWord = true := by decide +kernel
  intro w hw
  refine List.mem_filter.mpr ⟨?_, List.all_eq_true.mp h2 w hw⟩
  rw [h] at hw
  obtain ⟨i, -, hi⟩ := List.mem_filterMap.mp hw
  exact List.mem_of_getElem? hi
